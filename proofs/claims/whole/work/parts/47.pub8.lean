/-! ===== public methods: then, bell, winds ===== -/
set_option maxHeartbeats 4000000 in
set_option maxRecDepth 100000 in
theorem c9_then {g : GG} {d : Nat} {M : Mem} {Q : Option Value → Mem → Prop} {a w : Int32} {n : Nat} (hn : M 1 2 = nI n) (h8 : n ≤ 8) (hk : ∀ b, b < 8 → 0 ≤ M (30 + b) 0 ∧ M (30 + b) 0 ≤ 6) (hw : sz50 (M 15 1)) (hbad : ¬ ((0 ≤ a ∧ a ≤ 60) ∧ 0 ≤ w ∧ w < M 1 2 ∧ w < 8) → Q (some (.int (-1000000001))) (put M 9 1 (M 9 1 + 1))) (hok : ((0 ≤ a ∧ a ≤ 60) ∧ 0 ≤ w ∧ w < M 1 2 ∧ w < 8) → ∀ N b, N ≤ 60 → b < 8 → a = nI N → w = nI b → ∀ M', eqx [17, 72, 73] M M' → Q (some (.int ((daysF (fun a r m => lawG M a r m 0 0) (fun b => M (30 + b) 0) (fun b => M (30 + b) 1) n N (M 1 12, fun b => M (30 + b) 2)).2 b))) M') : V cS g (d + 5) mX9_then 0 [some (.ref 0), some (.int a), some (.int w)] [] M Q := by
  by_cases h : ((0 ≤ a ∧ a ≤ 60) ∧ 0 ≤ w ∧ w < M 1 2 ∧ w < 8)
  · obtain ⟨N, hN, rfl⟩ := nI_ex (n := 61) (by omega) h.1.1 (Int32.lt_of_le_of_lt h.1.2 (by decide))
    obtain ⟨b, hb, rfl⟩ := nI_ex (n := 8) (by omega) h.2.1 h.2.2.2
    refine V.iload_n dX9_then_0 rfl (i := 1) rfl ?_
    refine V.if_lt (tgt := 18) dX9_then_1 (by decide) (fun q => absurd q ((Int32.not_lt.mpr h.1.1))) (fun c1 => ?_)
    refine V.iload_n dX9_then_4 rfl (i := 1) rfl ?_
    refine V.bipush dX9_then_5 (v := 60) (by decide) ?_
    refine V.ic_gt (tgt := 18) dX9_then_7 (by decide) (fun q => absurd q ((Int32.not_lt.mpr h.1.2))) (fun c7 => ?_)
    refine V.aload_n dX9_then_10 rfl (i := 0) rfl ?_
    refine V.iload_n dX9_then_11 rfl (i := 2) rfl ?_
    refine V.invv (z := mX9_isBell) (As := [_]) dX9_then_12 rfl mlRX9_118 okX9_isBell npX9_isBell rfl rfl rfl ⟨by decide, by decide⟩ (Nat.le_of_ble_eq_true rfl) rfl (Nat.le_of_ble_eq_true rfl) (c_isBell   ?_)
    show V cS g (d + 5) mX9_then 15 [some (.ref 0), some (.int (nI N)), some (.int (nI b))] [.int (b2i (0 ≤ (nI b) ∧ (nI b) < M 1 2 ∧ (nI b) < 8))] (M) Q
    refine V.if_ne (tgt := 25) dX9_then_15 (by decide) (fun c15 => ?_) (fun q => absurd q ((fun z => b2i_0.mp z h.2)))
    refine V.aload_n dX9_then_25 rfl (i := 0) rfl ?_
    refine V.getR dX9_then_26 rfl flRX9_12 rfl ⟨by decide, by decide⟩ ?_
    refine V.iload_n dX9_then_29 rfl (i := 1) rfl ?_
    refine V.iload_n dX9_then_30 rfl (i := 2) rfl ?_
    refine V.invv (z := mX7_spotAhead) (As := [_, _]) dX9_then_31 rfl mlRX9_306 okX7_spotAhead npX7_spotAhead rfl rfl rfl ⟨by decide, by decide⟩ (Nat.le_of_ble_eq_true rfl) rfl (Nat.le_of_ble_eq_true rfl) (c_sa (by omega) hn h8 hb hk hw (fun M1 hM1 => ?_))
    show V cS g (d + 5) mX9_then 34 [some (.ref 0), some (.int (nI N)), some (.int (nI b))] [.int ((daysF (fun a r m => lawG M a r m 0 0) (fun b => M (30 + b) 0) (fun b => M (30 + b) 1) n N (M 1 12, fun b => M (30 + b) 2)).2 b)] M1 Q
    exact V.ret dX9_then_34 rfl (hok h N b (by omega) hb rfl rfl M1 hM1)
  · skip
    refine V.iload_n dX9_then_0 rfl (i := 1) rfl ?_
    refine V.if_lt (tgt := 18) dX9_then_1 (by decide) (fun c1 => ?_) (fun c1 => ?_)
    · refine V.aload_n dX9_then_18 rfl (i := 0) rfl ?_
      refine V.ldc dX9_then_19 rfl ctRX9_81 ?_
      refine V.invv (z := mX9_error) (As := [_]) dX9_then_21 rfl mlRX9_82 okX9_error npX9_error rfl rfl rfl ⟨by decide, by decide⟩ (Nat.le_of_ble_eq_true rfl) rfl (Nat.le_of_ble_eq_true rfl) (c_err1   ?_)
      show V cS g (d + 5) mX9_then 24 [some (.ref 0), some (.int a), some (.int w)] [.int (-1000000001 : Int32)] (put M 9 1 (M 9 1 + 1)) Q
      exact V.ret dX9_then_24 rfl (hbad h)
    · refine V.iload_n dX9_then_4 rfl (i := 1) rfl ?_
      refine V.bipush dX9_then_5 (v := 60) (by decide) ?_
      refine V.ic_gt (tgt := 18) dX9_then_7 (by decide) (fun c7 => ?_) (fun c7 => ?_)
      · refine V.aload_n dX9_then_18 rfl (i := 0) rfl ?_
        refine V.ldc dX9_then_19 rfl ctRX9_81 ?_
        refine V.invv (z := mX9_error) (As := [_]) dX9_then_21 rfl mlRX9_82 okX9_error npX9_error rfl rfl rfl ⟨by decide, by decide⟩ (Nat.le_of_ble_eq_true rfl) rfl (Nat.le_of_ble_eq_true rfl) (c_err1   ?_)
        show V cS g (d + 5) mX9_then 24 [some (.ref 0), some (.int a), some (.int w)] [.int (-1000000001 : Int32)] (put M 9 1 (M 9 1 + 1)) Q
        exact V.ret dX9_then_24 rfl (hbad h)
      · refine V.aload_n dX9_then_10 rfl (i := 0) rfl ?_
        refine V.iload_n dX9_then_11 rfl (i := 2) rfl ?_
        refine V.invv (z := mX9_isBell) (As := [_]) dX9_then_12 rfl mlRX9_118 okX9_isBell npX9_isBell rfl rfl rfl ⟨by decide, by decide⟩ (Nat.le_of_ble_eq_true rfl) rfl (Nat.le_of_ble_eq_true rfl) (c_isBell   ?_)
        show V cS g (d + 5) mX9_then 15 [some (.ref 0), some (.int a), some (.int w)] [.int (b2i (0 ≤ w ∧ w < M 1 2 ∧ w < 8))] (M) Q
        refine V.if_ne (tgt := 25) dX9_then_15 (by decide) (fun c15 => ?_) (fun c15 => ?_)
        · exact absurd ⟨⟨Int32.not_lt.mp c1, Int32.not_lt.mp c7⟩, (Classical.byContradiction fun z => c15 (b2i_f z))⟩ h
        · refine V.aload_n dX9_then_18 rfl (i := 0) rfl ?_
          refine V.ldc dX9_then_19 rfl ctRX9_81 ?_
          refine V.invv (z := mX9_error) (As := [_]) dX9_then_21 rfl mlRX9_82 okX9_error npX9_error rfl rfl rfl ⟨by decide, by decide⟩ (Nat.le_of_ble_eq_true rfl) rfl (Nat.le_of_ble_eq_true rfl) (c_err1   ?_)
          show V cS g (d + 5) mX9_then 24 [some (.ref 0), some (.int a), some (.int w)] [.int (-1000000001 : Int32)] (put (M) 9 1 ((M) 9 1 + 1)) Q
          exact V.ret dX9_then_24 rfl (hbad h)

