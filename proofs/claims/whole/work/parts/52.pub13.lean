/-! ===== public methods: law ===== -/
set_option maxHeartbeats 4000000 in
set_option maxRecDepth 100000 in
theorem c9_law {g : GG} {d : Nat} {M : Mem} {Q : Option Value → Mem → Prop} {u a b c e : Int32} (hw : sz50 (M 14 1)) (hw2 : sz50 (M 15 1)) (hbad : ¬ (0 ≤ u ∧ u ≤ 1) → Q (some (.int (-1000000001))) (put M 9 1 (M 9 1 + 1))) (hcar : (0 ≤ u ∧ u ≤ 1) → u = 0 → ∀ M', eqx [69, 70] M M' → Q (some (.int (lawC M a b c e 0))) M') (hgr : (0 ≤ u ∧ u ≤ 1) → ¬ u = 0 → ∀ M', eqx [72, 73] M M' → Q (some (.int (heldF (lawG M a b c 0 0) 0 99))) M') : V cS g (d + 3) mX9_law 0 [some (.ref 0), some (.int u), some (.int a), some (.int b), some (.int c), some (.int e)] [] M Q := by
  by_cases h : (0 ≤ u ∧ u ≤ 1)
  · skip
    refine V.iload_n dX9_law_0 rfl (i := 1) rfl ?_
    refine V.invs (z := mX9_isUse) (As := [_]) dX9_law_1 rfl mlRX9_207 okX9_isUse npX9_isUse rfl (Nat.le_of_ble_eq_true rfl) rfl (Nat.le_of_ble_eq_true rfl) (c_isUse   ?_)
    show V cS g (d + 3) mX9_law 4 [some (.ref 0), some (.int u), some (.int a), some (.int b), some (.int c), some (.int e)] [.int (b2i (0 ≤ u ∧ u ≤ 1))] (M) Q
    refine V.if_ne (tgt := 14) dX9_law_4 (by decide) (fun c4 => ?_) (fun q => absurd q ((fun z => b2i_0.mp z h)))
    refine V.iload_n dX9_law_14 rfl (i := 1) rfl ?_
    refine V.if_ne (tgt := 38) dX9_law_15 (by decide) (fun c15 => ?_) (fun c15 => ?_)
    · refine V.aload_n dX9_law_38 rfl (i := 0) rfl ?_
      refine V.getR dX9_law_39 rfl flRX9_12 rfl ⟨by decide, by decide⟩ ?_
      refine V.iload_n dX9_law_42 rfl (i := 2) rfl ?_
      refine V.iload_n dX9_law_43 rfl (i := 3) rfl ?_
      refine V.iload dX9_law_44 rfl ?_
      refine V.invv (z := mX7_grazedSpot) (As := [_, _, _]) dX9_law_46 rfl mlRX9_222 okX7_grazedSpot npX7_grazedSpot rfl rfl rfl ⟨by decide, by decide⟩ (Nat.le_of_ble_eq_true rfl) rfl (Nat.le_of_ble_eq_true rfl) (c_grazedSpot hw2 (fun M1 hM1 => ?_))
      show V cS g (d + 3) mX9_law 49 [some (.ref 0), some (.int u), some (.int a), some (.int b), some (.int c), some (.int e)] [.int (heldF (lawG M a b c 0 0) 0 99)] M1 Q
      exact V.ret dX9_law_49 rfl (by first | exact hcar h c15 M1 hM1 | exact hgr h c15 M1 hM1)
    · refine V.aload_n dX9_law_18 rfl (i := 0) rfl ?_
      refine V.getR dX9_law_19 rfl flRX9_12 rfl ⟨by decide, by decide⟩ ?_
      refine V.getR dX9_law_22 rfl flRX9_213 rfl ⟨by decide, by decide⟩ ?_
      refine V.iload_n dX9_law_25 rfl (i := 2) rfl ?_
      refine V.iload_n dX9_law_26 rfl (i := 3) rfl ?_
      refine V.iload dX9_law_27 rfl ?_
      refine V.iload dX9_law_29 rfl ?_
      refine V.iconst dX9_law_31 (v := 0) (by decide) ?_
      refine V.invv (z := mX2_value) (As := [_, _, _, _, _]) dX9_law_32 rfl mlRX9_217 okX2_value npX2_value rfl rfl rfl ⟨by decide, by decide⟩ (Nat.le_of_ble_eq_true rfl) rfl (Nat.le_of_ble_eq_true rfl) (c_val14 hw (fun M1 hM1 => ?_))
      show V cS g (d + 3) mX9_law 35 [some (.ref 0), some (.int u), some (.int a), some (.int b), some (.int c), some (.int e)] [.int (lawC M a b c e 0)] M1 Q
      refine V.goto dX9_law_35 (tgt := 49) (by decide) ?_
      exact V.ret dX9_law_49 rfl (by first | exact hcar h c15 M1 hM1 | exact hgr h c15 M1 hM1)
  · skip
    refine V.iload_n dX9_law_0 rfl (i := 1) rfl ?_
    refine V.invs (z := mX9_isUse) (As := [_]) dX9_law_1 rfl mlRX9_207 okX9_isUse npX9_isUse rfl (Nat.le_of_ble_eq_true rfl) rfl (Nat.le_of_ble_eq_true rfl) (c_isUse   ?_)
    show V cS g (d + 3) mX9_law 4 [some (.ref 0), some (.int u), some (.int a), some (.int b), some (.int c), some (.int e)] [.int (b2i (0 ≤ u ∧ u ≤ 1))] (M) Q
    refine V.if_ne (tgt := 14) dX9_law_4 (by decide) (fun c4 => ?_) (fun c4 => ?_)
    · exact absurd (Classical.byContradiction fun z => c4 (b2i_f z)) h
    · refine V.aload_n dX9_law_7 rfl (i := 0) rfl ?_
      refine V.ldc dX9_law_8 rfl ctRX9_81 ?_
      refine V.invv (z := mX9_error) (As := [_]) dX9_law_10 rfl mlRX9_82 okX9_error npX9_error rfl rfl rfl ⟨by decide, by decide⟩ (Nat.le_of_ble_eq_true rfl) rfl (Nat.le_of_ble_eq_true rfl) (c_err1   ?_)
      show V cS g (d + 3) mX9_law 13 [some (.ref 0), some (.int u), some (.int a), some (.int b), some (.int c), some (.int e)] [.int (-1000000001 : Int32)] (put (M) 9 1 ((M) 9 1 + 1)) Q
      exact V.ret dX9_law_13 rfl (hbad h)

