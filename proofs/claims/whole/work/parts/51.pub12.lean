/-! ===== public methods: put ===== -/
theorem stand1 {i z : Int32} (hz : z ≤ 40) (h : (0 : Int32) ≤ 1 ∧ 0 ≤ i ∧ i ≤ z ∧ 1 ≤ z - i) : i < nI 40 := by
  have e : (40 : Int32).toInt = 40 := by decide
  have h1 := Int32.le_iff_toInt_le.mp hz
  have h2 := Int32.le_iff_toInt_le.mp h.2.2.1
  have hne : i.toInt ≠ 40 := fun q => by
    have hi : i = 40 := Int32.toInt_inj.mp (q.trans e.symm)
    have hz2 : z = 40 := Int32.toInt_inj.mp (by omega)
    have h4 := h.2.2.2
    rw [hi, hz2] at h4
    exact absurd h4 (by decide)
  refine Int32.lt_iff_toInt_lt.mpr ?_
  rw [show (nI 40).toInt = 40 from by decide]
  omega

set_option maxHeartbeats 4000000 in
set_option maxRecDepth 100000 in
theorem c9_put {g : GG} {d : Nat} {M : Mem} {Q : Option Value → Mem → Prop} {a i v : Int32} (hsz : ∀ s, s < 4 → M 63 s ≤ 40) (hbad : ¬ (0 ≤ a ∧ a ≤ 3) → Q (some (.int (-1000000001))) (put M 9 1 (M 9 1 + 1))) (hnone : ∀ s, s < 4 → a = nI s → M 62 s = 0 → Q (some (.int (-1000000002))) (put M 9 2 (M 9 2 + 1))) (hbad2 : ∀ s, s < 4 → a = nI s → ¬ M 62 s = 0 → ¬ ((0 : Int32) ≤ 1 ∧ 0 ≤ i ∧ i ≤ M 63 s ∧ 1 ≤ M 63 s - i) → Q (some (.int (-1000000001))) (put M 9 1 (M 9 1 + 1))) (hok : ∀ s j, s < 4 → j < 40 → a = nI s → i = nI j → ¬ M 62 s = 0 → ((0 : Int32) ≤ 1 ∧ 0 ≤ i ∧ i ≤ M 63 s ∧ 1 ≤ M 63 s - i) → Q (some (.int 1)) (put M (64 + s) j (if M 62 s = 32 then v else v &&& ((1 <<< (M 62 s &&& 31)) - 1)))) : V cS g (d + 2) mX9_put 0 [some (.ref 0), some (.int a), some (.int i), some (.int v)] [] M Q := by
  by_cases h : 0 ≤ a ∧ a ≤ 3
  · obtain ⟨s, hs, rfl⟩ := nI_ex (n := 4) (by omega) h.1 (Int32.lt_of_le_of_lt h.2 (by decide))
    by_cases hm : M 62 s = 0
    · skip
      refine V.iload_n dX9_put_0 rfl (i := 1) rfl ?_
      refine V.invs (z := mX4_canBe) (As := [_]) dX9_put_1 rfl mlRX9_151 okX4_canBe npX4_canBe rfl (Nat.le_of_ble_eq_true rfl) rfl (Nat.le_of_ble_eq_true rfl) (c_canBe   ?_)
      show V cS g (d + 2) mX9_put 4 [some (.ref 0), some (.int (nI s)), some (.int i), some (.int v)] [.int (b2i (0 ≤ (nI s) ∧ (nI s) ≤ 3))] (M) Q
      refine V.if_ne (tgt := 14) dX9_put_4 (by decide) (fun c4 => ?_) (fun q => absurd q ((fun z => b2i_0.mp z h)))
      refine V.aload_n dX9_put_14 rfl (i := 0) rfl ?_
      refine V.getR dX9_put_15 rfl flRX9_61 rfl ⟨by decide, by decide⟩ ?_
      refine V.iload_n dX9_put_18 rfl (i := 1) rfl ?_
      refine V.invv (z := mX4_isMissing) (As := [_]) dX9_put_19 rfl mlRX9_154 okX4_isMissing npX4_isMissing rfl rfl rfl ⟨by decide, by decide⟩ (Nat.le_of_ble_eq_true rfl) rfl (Nat.le_of_ble_eq_true rfl) (c_isMissing  (by first | assumption | decide | omega) ?_)
      show V cS g (d + 2) mX9_put 22 [some (.ref 0), some (.int (nI s)), some (.int i), some (.int v)] [.int (b2i ((M) 62 s = 0))] ((M)) Q
      refine V.if_eq (tgt := 32) dX9_put_22 (by decide) (fun q => absurd q ((fun z => b2i_0.mp z hm))) (fun c22 => ?_)
      refine V.aload_n dX9_put_25 rfl (i := 0) rfl ?_
      refine V.ldc dX9_put_26 rfl ctRX9_157 ?_
      refine V.invv (z := mX9_error) (As := [_]) dX9_put_28 rfl mlRX9_82 okX9_error npX9_error rfl rfl rfl ⟨by decide, by decide⟩ (Nat.le_of_ble_eq_true rfl) rfl (Nat.le_of_ble_eq_true rfl) (c_err2   ?_)
      show V cS g (d + 2) mX9_put 31 [some (.ref 0), some (.int (nI s)), some (.int i), some (.int v)] [.int (-1000000002 : Int32)] (put ((M)) 9 2 (((M)) 9 2 + 1)) Q
      exact V.ret dX9_put_31 rfl (hnone s hs rfl hm)
    · by_cases hst : ((0 : Int32) ≤ 1 ∧ 0 ≤ i ∧ i ≤ M 63 s ∧ 1 ≤ M 63 s - i)
      · obtain ⟨j, hj, rfl⟩ := nI_ex (n := 40) (by omega) hst.2.1 (stand1 (hsz s hs) hst)
        refine V.iload_n dX9_put_0 rfl (i := 1) rfl ?_
        refine V.invs (z := mX4_canBe) (As := [_]) dX9_put_1 rfl mlRX9_151 okX4_canBe npX4_canBe rfl (Nat.le_of_ble_eq_true rfl) rfl (Nat.le_of_ble_eq_true rfl) (c_canBe   ?_)
        show V cS g (d + 2) mX9_put 4 [some (.ref 0), some (.int (nI s)), some (.int (nI j)), some (.int v)] [.int (b2i (0 ≤ (nI s) ∧ (nI s) ≤ 3))] (M) Q
        refine V.if_ne (tgt := 14) dX9_put_4 (by decide) (fun c4 => ?_) (fun q => absurd q ((fun z => b2i_0.mp z h)))
        refine V.aload_n dX9_put_14 rfl (i := 0) rfl ?_
        refine V.getR dX9_put_15 rfl flRX9_61 rfl ⟨by decide, by decide⟩ ?_
        refine V.iload_n dX9_put_18 rfl (i := 1) rfl ?_
        refine V.invv (z := mX4_isMissing) (As := [_]) dX9_put_19 rfl mlRX9_154 okX4_isMissing npX4_isMissing rfl rfl rfl ⟨by decide, by decide⟩ (Nat.le_of_ble_eq_true rfl) rfl (Nat.le_of_ble_eq_true rfl) (c_isMissing  (by first | assumption | decide | omega) ?_)
        show V cS g (d + 2) mX9_put 22 [some (.ref 0), some (.int (nI s)), some (.int (nI j)), some (.int v)] [.int (b2i ((M) 62 s = 0))] ((M)) Q
        refine V.if_eq (tgt := 32) dX9_put_22 (by decide) (fun c22 => ?_) (fun q => absurd ((b2i_f hm)) q)
        refine V.aload_n dX9_put_32 rfl (i := 0) rfl ?_
        refine V.getR dX9_put_33 rfl flRX9_61 rfl ⟨by decide, by decide⟩ ?_
        refine V.iload_n dX9_put_36 rfl (i := 1) rfl ?_
        refine V.iload_n dX9_put_37 rfl (i := 2) rfl ?_
        refine V.iconst dX9_put_38 (v := 1) (by decide) ?_
        refine V.invv (z := mX4_stand) (As := [_, _, _]) dX9_put_39 rfl mlRX9_328 okX4_stand npX4_stand rfl rfl rfl ⟨by decide, by decide⟩ (Nat.le_of_ble_eq_true rfl) rfl (Nat.le_of_ble_eq_true rfl) (c_stand  (by first | assumption | decide | omega) ?_)
        show V cS g (d + 2) mX9_put 42 [some (.ref 0), some (.int (nI s)), some (.int (nI j)), some (.int v)] [.int (b2i (0 ≤ (1 : Int32) ∧ 0 ≤ (nI j) ∧ (nI j) ≤ ((M)) 63 s ∧ (1 : Int32) ≤ ((M)) 63 s - (nI j)))] (((M))) Q
        refine V.if_ne (tgt := 52) dX9_put_42 (by decide) (fun c42 => ?_) (fun q => absurd q ((fun z => b2i_0.mp z hst)))
        refine V.aload_n dX9_put_52 rfl (i := 0) rfl ?_
        refine V.getR dX9_put_53 rfl flRX9_61 rfl ⟨by decide, by decide⟩ ?_
        refine V.iload_n dX9_put_56 rfl (i := 1) rfl ?_
        refine V.iload_n dX9_put_57 rfl (i := 2) rfl ?_
        refine V.iload_n dX9_put_58 rfl (i := 3) rfl ?_
        refine V.invv (z := mX4_write) (As := [_, _, _]) dX9_put_59 rfl mlRX9_332 okX4_write npX4_write rfl rfl rfl ⟨by decide, by decide⟩ (Nat.le_of_ble_eq_true rfl) rfl (Nat.le_of_ble_eq_true rfl) (c_write hs hj ?_)
        show V cS g (d + 2) mX9_put 62 [some (.ref 0), some (.int (nI s)), some (.int (nI j)), some (.int v)] [] (put M (64 + s) j (if M 62 s = 32 then v else v &&& ((1 <<< (M 62 s &&& 31)) - 1))) Q
        refine V.iconst dX9_put_62 (v := 1) (by decide) ?_
        exact V.ret dX9_put_63 rfl (hok s j hs hj rfl rfl hm hst)
      · skip
        refine V.iload_n dX9_put_0 rfl (i := 1) rfl ?_
        refine V.invs (z := mX4_canBe) (As := [_]) dX9_put_1 rfl mlRX9_151 okX4_canBe npX4_canBe rfl (Nat.le_of_ble_eq_true rfl) rfl (Nat.le_of_ble_eq_true rfl) (c_canBe   ?_)
        show V cS g (d + 2) mX9_put 4 [some (.ref 0), some (.int (nI s)), some (.int i), some (.int v)] [.int (b2i (0 ≤ (nI s) ∧ (nI s) ≤ 3))] (M) Q
        refine V.if_ne (tgt := 14) dX9_put_4 (by decide) (fun c4 => ?_) (fun q => absurd q ((fun z => b2i_0.mp z h)))
        refine V.aload_n dX9_put_14 rfl (i := 0) rfl ?_
        refine V.getR dX9_put_15 rfl flRX9_61 rfl ⟨by decide, by decide⟩ ?_
        refine V.iload_n dX9_put_18 rfl (i := 1) rfl ?_
        refine V.invv (z := mX4_isMissing) (As := [_]) dX9_put_19 rfl mlRX9_154 okX4_isMissing npX4_isMissing rfl rfl rfl ⟨by decide, by decide⟩ (Nat.le_of_ble_eq_true rfl) rfl (Nat.le_of_ble_eq_true rfl) (c_isMissing  (by first | assumption | decide | omega) ?_)
        show V cS g (d + 2) mX9_put 22 [some (.ref 0), some (.int (nI s)), some (.int i), some (.int v)] [.int (b2i ((M) 62 s = 0))] ((M)) Q
        refine V.if_eq (tgt := 32) dX9_put_22 (by decide) (fun c22 => ?_) (fun q => absurd ((b2i_f hm)) q)
        refine V.aload_n dX9_put_32 rfl (i := 0) rfl ?_
        refine V.getR dX9_put_33 rfl flRX9_61 rfl ⟨by decide, by decide⟩ ?_
        refine V.iload_n dX9_put_36 rfl (i := 1) rfl ?_
        refine V.iload_n dX9_put_37 rfl (i := 2) rfl ?_
        refine V.iconst dX9_put_38 (v := 1) (by decide) ?_
        refine V.invv (z := mX4_stand) (As := [_, _, _]) dX9_put_39 rfl mlRX9_328 okX4_stand npX4_stand rfl rfl rfl ⟨by decide, by decide⟩ (Nat.le_of_ble_eq_true rfl) rfl (Nat.le_of_ble_eq_true rfl) (c_stand  (by first | assumption | decide | omega) ?_)
        show V cS g (d + 2) mX9_put 42 [some (.ref 0), some (.int (nI s)), some (.int i), some (.int v)] [.int (b2i (0 ≤ (1 : Int32) ∧ 0 ≤ i ∧ i ≤ ((M)) 63 s ∧ (1 : Int32) ≤ ((M)) 63 s - i))] (((M))) Q
        refine V.if_ne (tgt := 52) dX9_put_42 (by decide) (fun q => absurd ((b2i_f hst)) q) (fun c42 => ?_)
        refine V.aload_n dX9_put_45 rfl (i := 0) rfl ?_
        refine V.ldc dX9_put_46 rfl ctRX9_81 ?_
        refine V.invv (z := mX9_error) (As := [_]) dX9_put_48 rfl mlRX9_82 okX9_error npX9_error rfl rfl rfl ⟨by decide, by decide⟩ (Nat.le_of_ble_eq_true rfl) rfl (Nat.le_of_ble_eq_true rfl) (c_err1   ?_)
        show V cS g (d + 2) mX9_put 51 [some (.ref 0), some (.int (nI s)), some (.int i), some (.int v)] [.int (-1000000001 : Int32)] (put (((M))) 9 1 ((((M))) 9 1 + 1)) Q
        exact V.ret dX9_put_51 rfl (hbad2 s hs rfl hm hst)
  · skip
    refine V.iload_n dX9_put_0 rfl (i := 1) rfl ?_
    refine V.invs (z := mX4_canBe) (As := [_]) dX9_put_1 rfl mlRX9_151 okX4_canBe npX4_canBe rfl (Nat.le_of_ble_eq_true rfl) rfl (Nat.le_of_ble_eq_true rfl) (c_canBe   ?_)
    show V cS g (d + 2) mX9_put 4 [some (.ref 0), some (.int a), some (.int i), some (.int v)] [.int (b2i (0 ≤ a ∧ a ≤ 3))] (M) Q
    refine V.if_ne (tgt := 14) dX9_put_4 (by decide) (fun c4 => ?_) (fun c4 => ?_)
    · exact absurd (Classical.byContradiction fun z => c4 (b2i_f z)) h
    · refine V.aload_n dX9_put_7 rfl (i := 0) rfl ?_
      refine V.ldc dX9_put_8 rfl ctRX9_81 ?_
      refine V.invv (z := mX9_error) (As := [_]) dX9_put_10 rfl mlRX9_82 okX9_error npX9_error rfl rfl rfl ⟨by decide, by decide⟩ (Nat.le_of_ble_eq_true rfl) rfl (Nat.le_of_ble_eq_true rfl) (c_err1   ?_)
      show V cS g (d + 2) mX9_put 13 [some (.ref 0), some (.int a), some (.int i), some (.int v)] [.int (-1000000001 : Int32)] (put (M) 9 1 ((M) 9 1 + 1)) Q
      exact V.ret dX9_put_13 rfl (hbad h)

