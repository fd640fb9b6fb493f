/-! ===== the public methods, the simple ones ===== -/
theorem nI_ex {a : Int32} {n : Nat} (hn : n < 1000000) (h0 : 0 ≤ a) (h1 : a < nI n) : ∃ b, b < n ∧ a = nI b := by
  have e0 : (0 : Int) ≤ a.toInt := Int32.le_iff_toInt_le.mp h0
  have e1 : a.toInt < n := by
    have := Int32.lt_iff_toInt_lt.mp h1
    rwa [nI_toInt (by omega)] at this
  refine ⟨a.toInt.toNat, by omega, ?_⟩
  rw [← Int32.toInt_inj, nI_toInt (by omega)]
  omega
/-- a part of a bell -/
def prtF (M : Mem) (b : Nat) (w : Int32) : Int32 := if w = 0 then M (30 + b) 0 else if w = 1 then M (30 + b) 1 else if w = 2 then M (30 + b) 2 else if w = 3 then M (30 + b) 3 else if w = 4 then M (30 + b) 4 else if w = 5 then M (30 + b) 5 else M (30 + b) 6

set_option maxHeartbeats 4000000 in
set_option maxRecDepth 100000 in
theorem c9_ofBell {g : GG} {d : Nat} {M : Mem} {Q : Option Value → Mem → Prop} {a w : Int32} (hbad : ¬ ((0 ≤ a ∧ a < M 1 2 ∧ a < 8) ∧ 0 ≤ w ∧ w < 7) → Q (some (.int (-1000000001))) (put M 9 1 (M 9 1 + 1))) (hok : (0 ≤ a ∧ a < M 1 2 ∧ a < 8) ∧ 0 ≤ w ∧ w < 7 → ∀ b, b < 8 → a = nI b → Q (some (.int (prtF M b w))) (M)) : V cS g (d + 2) mX9_ofBell 0 [some (.ref 0), some (.int a), some (.int w)] [] M Q := by
  by_cases h : (0 ≤ a ∧ a < M 1 2 ∧ a < 8) ∧ 0 ≤ w ∧ w < 7
  · obtain ⟨b, hb, rfl⟩ := nI_ex (n := 8) (by omega) h.1.1 h.1.2.2
    refine V.aload_n dX9_ofBell_0 rfl (i := 0) rfl ?_
    refine V.iload_n dX9_ofBell_1 rfl (i := 1) rfl ?_
    refine V.invv (z := mX9_isBell) (As := [_]) dX9_ofBell_2 rfl mlRX9_118 okX9_isBell npX9_isBell rfl rfl rfl ⟨by decide, by decide⟩ (Nat.le_of_ble_eq_true rfl) rfl (Nat.le_of_ble_eq_true rfl) (c_isBell   ?_)
    show V cS g (d + 2) mX9_ofBell 5 [some (.ref 0), some (.int (nI b)), some (.int w)] [.int (b2i (0 ≤ (nI b) ∧ (nI b) < M 1 2 ∧ (nI b) < 8))] (M) Q
    refine V.if_eq (tgt := 18) dX9_ofBell_5 (by decide) (fun q => absurd q ((fun z => b2i_0.mp z h.1))) (fun c5 => ?_)
    refine V.iload_n dX9_ofBell_8 rfl (i := 2) rfl ?_
    refine V.if_lt (tgt := 18) dX9_ofBell_9 (by decide) (fun q => absurd q ((Int32.not_lt.mpr h.2.1))) (fun c9 => ?_)
    refine V.iload_n dX9_ofBell_12 rfl (i := 2) rfl ?_
    refine V.bipush dX9_ofBell_13 (v := 7) (by decide) ?_
    refine V.ic_lt (tgt := 25) dX9_ofBell_15 (by decide) (fun c15 => ?_) (fun q => absurd ((h.2.2)) q)
    refine V.aload_n dX9_ofBell_25 rfl (i := 0) rfl ?_
    refine V.getR dX9_ofBell_26 rfl flRX9_12 rfl ⟨by decide, by decide⟩ ?_
    refine V.getR dX9_ofBell_29 rfl flRX9_108 rfl ⟨by decide, by decide⟩ ?_
    refine V.iload_n dX9_ofBell_32 rfl (i := 1) rfl ?_
    refine V.aaldBN dX9_ofBell_33 rfl ⟨by decide, by decide⟩ (by first | assumption | decide | omega) (by decide) ?_
    refine V.iload_n dX9_ofBell_34 rfl (i := 2) rfl ?_
    refine V.invv (z := mX0_part) (As := [_]) dX9_ofBell_35 rfl mlRX9_121 okX0_part npX0_part rfl (layO30 (by first | assumption | decide | omega)) rfl (inB30 (by first | assumption | decide | omega)) (Nat.le_of_ble_eq_true rfl) rfl (Nat.le_of_ble_eq_true rfl) (c_part  (by first | assumption | decide | omega) ?_)
    show V cS g (d + 2) mX9_ofBell 38 [some (.ref 0), some (.int (nI b)), some (.int w)] [.int (if w = 0 then (M) (30 + b) 0 else if w = 1 then (M) (30 + b) 1 else if w = 2 then (M) (30 + b) 2 else if w = 3 then (M) (30 + b) 3 else if w = 4 then (M) (30 + b) 4 else if w = 5 then (M) (30 + b) 5 else (M) (30 + b) 6)] ((M)) Q
    exact V.ret dX9_ofBell_38 rfl (hok h b hb rfl)
  · skip
    refine V.aload_n dX9_ofBell_0 rfl (i := 0) rfl ?_
    refine V.iload_n dX9_ofBell_1 rfl (i := 1) rfl ?_
    refine V.invv (z := mX9_isBell) (As := [_]) dX9_ofBell_2 rfl mlRX9_118 okX9_isBell npX9_isBell rfl rfl rfl ⟨by decide, by decide⟩ (Nat.le_of_ble_eq_true rfl) rfl (Nat.le_of_ble_eq_true rfl) (c_isBell   ?_)
    show V cS g (d + 2) mX9_ofBell 5 [some (.ref 0), some (.int a), some (.int w)] [.int (b2i (0 ≤ a ∧ a < M 1 2 ∧ a < 8))] (M) Q
    refine V.if_eq (tgt := 18) dX9_ofBell_5 (by decide) (fun c5 => ?_) (fun c5 => ?_)
    · refine V.aload_n dX9_ofBell_18 rfl (i := 0) rfl ?_
      refine V.ldc dX9_ofBell_19 rfl ctRX9_81 ?_
      refine V.invv (z := mX9_error) (As := [_]) dX9_ofBell_21 rfl mlRX9_82 okX9_error npX9_error rfl rfl rfl ⟨by decide, by decide⟩ (Nat.le_of_ble_eq_true rfl) rfl (Nat.le_of_ble_eq_true rfl) (c_err1   ?_)
      show V cS g (d + 2) mX9_ofBell 24 [some (.ref 0), some (.int a), some (.int w)] [.int (-1000000001 : Int32)] (put (M) 9 1 ((M) 9 1 + 1)) Q
      exact V.ret dX9_ofBell_24 rfl (hbad h)
    · refine V.iload_n dX9_ofBell_8 rfl (i := 2) rfl ?_
      refine V.if_lt (tgt := 18) dX9_ofBell_9 (by decide) (fun c9 => ?_) (fun c9 => ?_)
      · refine V.aload_n dX9_ofBell_18 rfl (i := 0) rfl ?_
        refine V.ldc dX9_ofBell_19 rfl ctRX9_81 ?_
        refine V.invv (z := mX9_error) (As := [_]) dX9_ofBell_21 rfl mlRX9_82 okX9_error npX9_error rfl rfl rfl ⟨by decide, by decide⟩ (Nat.le_of_ble_eq_true rfl) rfl (Nat.le_of_ble_eq_true rfl) (c_err1   ?_)
        show V cS g (d + 2) mX9_ofBell 24 [some (.ref 0), some (.int a), some (.int w)] [.int (-1000000001 : Int32)] (put (M) 9 1 ((M) 9 1 + 1)) Q
        exact V.ret dX9_ofBell_24 rfl (hbad h)
      · refine V.iload_n dX9_ofBell_12 rfl (i := 2) rfl ?_
        refine V.bipush dX9_ofBell_13 (v := 7) (by decide) ?_
        refine V.ic_lt (tgt := 25) dX9_ofBell_15 (by decide) (fun c15 => ?_) (fun c15 => ?_)
        · exact absurd ⟨(Classical.byContradiction fun z => c5 (b2i_f z)), Int32.not_lt.mp c9, c15⟩ h
        · refine V.aload_n dX9_ofBell_18 rfl (i := 0) rfl ?_
          refine V.ldc dX9_ofBell_19 rfl ctRX9_81 ?_
          refine V.invv (z := mX9_error) (As := [_]) dX9_ofBell_21 rfl mlRX9_82 okX9_error npX9_error rfl rfl rfl ⟨by decide, by decide⟩ (Nat.le_of_ble_eq_true rfl) rfl (Nat.le_of_ble_eq_true rfl) (c_err1   ?_)
          show V cS g (d + 2) mX9_ofBell 24 [some (.ref 0), some (.int a), some (.int w)] [.int (-1000000001 : Int32)] (put (M) 9 1 ((M) 9 1 + 1)) Q
          exact V.ret dX9_ofBell_24 rfl (hbad h)
set_option maxHeartbeats 4000000 in
set_option maxRecDepth 100000 in
theorem c9_hill {g : GG} {d : Nat} {M : Mem} {Q : Option Value → Mem → Prop} {a w : Int32} (hbad : ¬ ((0 ≤ a ∧ a ≤ 99) ∧ 0 ≤ w ∧ w ≤ 9) → Q (some (.int (-1000000001))) (put M 9 1 (M 9 1 + 1))) (hok : (0 ≤ a ∧ a ≤ 99) ∧ 0 ≤ w ∧ w ≤ 9 → ∀ b, b < 100 → a = nI b → Q (some (.int (M 10 (b + 1) - M 10 b))) (um M 10 (fun i => if b + 1 ≤ i ∧ i ≤ 100 then M 10 i + (w - (M 10 (b + 1) - M 10 b)) else M 10 i))) : V cS g (d + 2) mX9_hill 0 [some (.ref 0), some (.int a), some (.int w)] [] M Q := by
  by_cases h : (0 ≤ a ∧ a ≤ 99) ∧ 0 ≤ w ∧ w ≤ 9
  · obtain ⟨b, hb, rfl⟩ := nI_ex (n := 100) (by omega) h.1.1 (Int32.lt_of_le_of_lt h.1.2 (by decide))
    refine V.iload_n dX9_hill_0 rfl (i := 1) rfl ?_
    refine V.invs (z := mX9_isSpot) (As := [_]) dX9_hill_1 rfl mlRX9_77 okX9_isSpot npX9_isSpot rfl (Nat.le_of_ble_eq_true rfl) rfl (Nat.le_of_ble_eq_true rfl) (c_isSpot   ?_)
    show V cS g (d + 2) mX9_hill 4 [some (.ref 0), some (.int (nI b)), some (.int w)] [.int (b2i (0 ≤ (nI b) ∧ (nI b) ≤ 99))] (M) Q
    refine V.if_eq (tgt := 17) dX9_hill_4 (by decide) (fun q => absurd q ((fun z => b2i_0.mp z h.1))) (fun c4 => ?_)
    refine V.iload_n dX9_hill_7 rfl (i := 2) rfl ?_
    refine V.if_lt (tgt := 17) dX9_hill_8 (by decide) (fun q => absurd q ((Int32.not_lt.mpr h.2.1))) (fun c8 => ?_)
    refine V.iload_n dX9_hill_11 rfl (i := 2) rfl ?_
    refine V.bipush dX9_hill_12 (v := 9) (by decide) ?_
    refine V.ic_le (tgt := 24) dX9_hill_14 (by decide) (fun c14 => ?_) (fun q => absurd ((h.2.2)) q)
    refine V.aload_n dX9_hill_24 rfl (i := 0) rfl ?_
    refine V.getR dX9_hill_25 rfl flRX9_12 rfl ⟨by decide, by decide⟩ ?_
    refine V.iload_n dX9_hill_28 rfl (i := 1) rfl ?_
    refine V.iload_n dX9_hill_29 rfl (i := 2) rfl ?_
    refine V.invv (z := mX7_raise) (As := [_, _]) dX9_hill_30 rfl mlRX9_86 okX7_raise npX7_raise rfl rfl rfl ⟨by decide, by decide⟩ (Nat.le_of_ble_eq_true rfl) rfl (Nat.le_of_ble_eq_true rfl) (c_raise  (by first | assumption | decide | omega) ?_)
    show V cS g (d + 2) mX9_hill 33 [some (.ref 0), some (.int (nI b)), some (.int w)] [.int ((M) 10 (b + 1) - (M) 10 b)] (um (M) 10 (fun i => if b + 1 ≤ i ∧ i ≤ 100 then (M) 10 i + (w - ((M) 10 (b + 1) - (M) 10 b)) else (M) 10 i)) Q
    exact V.ret dX9_hill_33 rfl (hok h b hb rfl)
  · skip
    refine V.iload_n dX9_hill_0 rfl (i := 1) rfl ?_
    refine V.invs (z := mX9_isSpot) (As := [_]) dX9_hill_1 rfl mlRX9_77 okX9_isSpot npX9_isSpot rfl (Nat.le_of_ble_eq_true rfl) rfl (Nat.le_of_ble_eq_true rfl) (c_isSpot   ?_)
    show V cS g (d + 2) mX9_hill 4 [some (.ref 0), some (.int a), some (.int w)] [.int (b2i (0 ≤ a ∧ a ≤ 99))] (M) Q
    refine V.if_eq (tgt := 17) dX9_hill_4 (by decide) (fun c4 => ?_) (fun c4 => ?_)
    · refine V.aload_n dX9_hill_17 rfl (i := 0) rfl ?_
      refine V.ldc dX9_hill_18 rfl ctRX9_81 ?_
      refine V.invv (z := mX9_error) (As := [_]) dX9_hill_20 rfl mlRX9_82 okX9_error npX9_error rfl rfl rfl ⟨by decide, by decide⟩ (Nat.le_of_ble_eq_true rfl) rfl (Nat.le_of_ble_eq_true rfl) (c_err1   ?_)
      show V cS g (d + 2) mX9_hill 23 [some (.ref 0), some (.int a), some (.int w)] [.int (-1000000001 : Int32)] (put (M) 9 1 ((M) 9 1 + 1)) Q
      exact V.ret dX9_hill_23 rfl (hbad h)
    · refine V.iload_n dX9_hill_7 rfl (i := 2) rfl ?_
      refine V.if_lt (tgt := 17) dX9_hill_8 (by decide) (fun c8 => ?_) (fun c8 => ?_)
      · refine V.aload_n dX9_hill_17 rfl (i := 0) rfl ?_
        refine V.ldc dX9_hill_18 rfl ctRX9_81 ?_
        refine V.invv (z := mX9_error) (As := [_]) dX9_hill_20 rfl mlRX9_82 okX9_error npX9_error rfl rfl rfl ⟨by decide, by decide⟩ (Nat.le_of_ble_eq_true rfl) rfl (Nat.le_of_ble_eq_true rfl) (c_err1   ?_)
        show V cS g (d + 2) mX9_hill 23 [some (.ref 0), some (.int a), some (.int w)] [.int (-1000000001 : Int32)] (put (M) 9 1 ((M) 9 1 + 1)) Q
        exact V.ret dX9_hill_23 rfl (hbad h)
      · refine V.iload_n dX9_hill_11 rfl (i := 2) rfl ?_
        refine V.bipush dX9_hill_12 (v := 9) (by decide) ?_
        refine V.ic_le (tgt := 24) dX9_hill_14 (by decide) (fun c14 => ?_) (fun c14 => ?_)
        · exact absurd ⟨(Classical.byContradiction fun z => c4 (b2i_f z)), Int32.not_lt.mp c8, c14⟩ h
        · refine V.aload_n dX9_hill_17 rfl (i := 0) rfl ?_
          refine V.ldc dX9_hill_18 rfl ctRX9_81 ?_
          refine V.invv (z := mX9_error) (As := [_]) dX9_hill_20 rfl mlRX9_82 okX9_error npX9_error rfl rfl rfl ⟨by decide, by decide⟩ (Nat.le_of_ble_eq_true rfl) rfl (Nat.le_of_ble_eq_true rfl) (c_err1   ?_)
          show V cS g (d + 2) mX9_hill 23 [some (.ref 0), some (.int a), some (.int w)] [.int (-1000000001 : Int32)] (put (M) 9 1 ((M) 9 1 + 1)) Q
          exact V.ret dX9_hill_23 rfl (hbad h)
set_option maxHeartbeats 4000000 in
set_option maxRecDepth 100000 in
theorem c9_strikes {g : GG} {d : Nat} {M : Mem} {Q : Option Value → Mem → Prop} {a w : Int32} (hbad : ¬ ((0 ≤ a ∧ a < M 1 2 ∧ a < 8) ∧ 0 ≤ w ∧ w ≤ 23) → Q (some (.int (-1000000001))) (put M 9 1 (M 9 1 + 1))) (hok : (0 ≤ a ∧ a < M 1 2 ∧ a < 8) ∧ 0 ≤ w ∧ w ≤ 23 → ∀ b, b < 8 → a = nI b → Q (some (.int (b2i (strk (M (30 + b) 0) (M (30 + b) 1) (M (30 + b) 6) w = true)))) (M)) : V cS g (d + 2) mX9_strikes 0 [some (.ref 0), some (.int a), some (.int w)] [] M Q := by
  by_cases h : (0 ≤ a ∧ a < M 1 2 ∧ a < 8) ∧ 0 ≤ w ∧ w ≤ 23
  · obtain ⟨b, hb, rfl⟩ := nI_ex (n := 8) (by omega) h.1.1 h.1.2.2
    refine V.aload_n dX9_strikes_0 rfl (i := 0) rfl ?_
    refine V.iload_n dX9_strikes_1 rfl (i := 1) rfl ?_
    refine V.invv (z := mX9_isBell) (As := [_]) dX9_strikes_2 rfl mlRX9_118 okX9_isBell npX9_isBell rfl rfl rfl ⟨by decide, by decide⟩ (Nat.le_of_ble_eq_true rfl) rfl (Nat.le_of_ble_eq_true rfl) (c_isBell   ?_)
    show V cS g (d + 2) mX9_strikes 5 [some (.ref 0), some (.int (nI b)), some (.int w)] [.int (b2i (0 ≤ (nI b) ∧ (nI b) < M 1 2 ∧ (nI b) < 8))] (M) Q
    refine V.if_eq (tgt := 15) dX9_strikes_5 (by decide) (fun q => absurd q ((fun z => b2i_0.mp z h.1))) (fun c5 => ?_)
    refine V.iload_n dX9_strikes_8 rfl (i := 2) rfl ?_
    refine V.invs (z := mX9_isHour) (As := [_]) dX9_strikes_9 rfl mlRX9_138 okX9_isHour npX9_isHour rfl (Nat.le_of_ble_eq_true rfl) rfl (Nat.le_of_ble_eq_true rfl) (c_isHour   ?_)
    show V cS g (d + 2) mX9_strikes 12 [some (.ref 0), some (.int (nI b)), some (.int w)] [.int (b2i (0 ≤ w ∧ w ≤ 23))] ((M)) Q
    refine V.if_ne (tgt := 22) dX9_strikes_12 (by decide) (fun c12 => ?_) (fun q => absurd q ((fun z => b2i_0.mp z h.2)))
    refine V.aload_n dX9_strikes_22 rfl (i := 0) rfl ?_
    refine V.getR dX9_strikes_23 rfl flRX9_12 rfl ⟨by decide, by decide⟩ ?_
    refine V.getR dX9_strikes_26 rfl flRX9_108 rfl ⟨by decide, by decide⟩ ?_
    refine V.iload_n dX9_strikes_29 rfl (i := 1) rfl ?_
    refine V.aaldBN dX9_strikes_30 rfl ⟨by decide, by decide⟩ (by first | assumption | decide | omega) (by decide) ?_
    refine V.iload_n dX9_strikes_31 rfl (i := 2) rfl ?_
    refine V.invv (z := mX0_ringsAt) (As := [_]) dX9_strikes_32 rfl mlRX9_141 okX0_ringsAt npX0_ringsAt rfl (layO30 (by first | assumption | decide | omega)) rfl (inB30 (by first | assumption | decide | omega)) (Nat.le_of_ble_eq_true rfl) rfl (Nat.le_of_ble_eq_true rfl) (c_ringsAt  (by first | assumption | decide | omega) ?_)
    show V cS g (d + 2) mX9_strikes 35 [some (.ref 0), some (.int (nI b)), some (.int w)] [.int (b2i (strk (((M)) (30 + b) 0) (((M)) (30 + b) 1) (((M)) (30 + b) 6) w = true))] (((M))) Q
    suffices kJ35 : V cS g (d + 2) mX9_strikes 43 [some (.ref 0), some (.int (nI b)), some (.int w)] [.int (if (b2i (strk (((M)) (30 + b) 0) (((M)) (30 + b) 1) (((M)) (30 + b) 6) w = true)) = (0 : Int32) then (0 : Int32) else (1 : Int32))] (((M))) Q by
      refine V.if_eq (tgt := 42) dX9_strikes_35 (by decide) (fun c35 => ?_) (fun c35 => ?_)
      · refine V.iconst dX9_strikes_42 (v := 0) (by decide) ?_
        rw [if_pos c35] at kJ35; exact kJ35
      · refine V.iconst dX9_strikes_38 (v := 1) (by decide) ?_
        refine V.goto dX9_strikes_39 (tgt := 43) (by decide) ?_
        rw [if_neg c35] at kJ35; exact kJ35
    exact V.ret dX9_strikes_43 rfl (Qi (hok h b hb rfl) (by unfold b2i; (repeat' split) <;> simp_all))
  · skip
    refine V.aload_n dX9_strikes_0 rfl (i := 0) rfl ?_
    refine V.iload_n dX9_strikes_1 rfl (i := 1) rfl ?_
    refine V.invv (z := mX9_isBell) (As := [_]) dX9_strikes_2 rfl mlRX9_118 okX9_isBell npX9_isBell rfl rfl rfl ⟨by decide, by decide⟩ (Nat.le_of_ble_eq_true rfl) rfl (Nat.le_of_ble_eq_true rfl) (c_isBell   ?_)
    show V cS g (d + 2) mX9_strikes 5 [some (.ref 0), some (.int a), some (.int w)] [.int (b2i (0 ≤ a ∧ a < M 1 2 ∧ a < 8))] (M) Q
    refine V.if_eq (tgt := 15) dX9_strikes_5 (by decide) (fun c5 => ?_) (fun c5 => ?_)
    · refine V.aload_n dX9_strikes_15 rfl (i := 0) rfl ?_
      refine V.ldc dX9_strikes_16 rfl ctRX9_81 ?_
      refine V.invv (z := mX9_error) (As := [_]) dX9_strikes_18 rfl mlRX9_82 okX9_error npX9_error rfl rfl rfl ⟨by decide, by decide⟩ (Nat.le_of_ble_eq_true rfl) rfl (Nat.le_of_ble_eq_true rfl) (c_err1   ?_)
      show V cS g (d + 2) mX9_strikes 21 [some (.ref 0), some (.int a), some (.int w)] [.int (-1000000001 : Int32)] (put (M) 9 1 ((M) 9 1 + 1)) Q
      exact V.ret dX9_strikes_21 rfl (hbad h)
    · refine V.iload_n dX9_strikes_8 rfl (i := 2) rfl ?_
      refine V.invs (z := mX9_isHour) (As := [_]) dX9_strikes_9 rfl mlRX9_138 okX9_isHour npX9_isHour rfl (Nat.le_of_ble_eq_true rfl) rfl (Nat.le_of_ble_eq_true rfl) (c_isHour   ?_)
      show V cS g (d + 2) mX9_strikes 12 [some (.ref 0), some (.int a), some (.int w)] [.int (b2i (0 ≤ w ∧ w ≤ 23))] ((M)) Q
      refine V.if_ne (tgt := 22) dX9_strikes_12 (by decide) (fun c12 => ?_) (fun c12 => ?_)
      · exact absurd ⟨(Classical.byContradiction fun z => c5 (b2i_f z)), (Classical.byContradiction fun z => c12 (b2i_f z))⟩ h
      · refine V.aload_n dX9_strikes_15 rfl (i := 0) rfl ?_
        refine V.ldc dX9_strikes_16 rfl ctRX9_81 ?_
        refine V.invv (z := mX9_error) (As := [_]) dX9_strikes_18 rfl mlRX9_82 okX9_error npX9_error rfl rfl rfl ⟨by decide, by decide⟩ (Nat.le_of_ble_eq_true rfl) rfl (Nat.le_of_ble_eq_true rfl) (c_err1   ?_)
        show V cS g (d + 2) mX9_strikes 21 [some (.ref 0), some (.int a), some (.int w)] [.int (-1000000001 : Int32)] (put ((M)) 9 1 (((M)) 9 1 + 1)) Q
        exact V.ret dX9_strikes_21 rfl (hbad h)
set_option maxHeartbeats 4000000 in
set_option maxRecDepth 100000 in
theorem c9_set {g : GG} {d : Nat} {M : Mem} {Q : Option Value → Mem → Prop} {a w : Int32} (hbad : ¬ ((a = 0 ∧ -5 ≤ w ∧ w ≤ 5) ∨ (a = 1 ∧ 0 ≤ w ∧ w ≤ 30) ∨ (a = 2 ∧ 0 ≤ w ∧ w ≤ 300)) → Q (some (.int (-1000000001))) (put M 9 1 (M 9 1 + 1))) (hok : (a = 0 ∧ -5 ≤ w ∧ w ≤ 5) ∨ (a = 1 ∧ 0 ≤ w ∧ w ≤ 30) ∨ (a = 2 ∧ 0 ≤ w ∧ w ≤ 300) → Q (some (.int (if a = 0 then M 1 5 else if a = 1 then M 1 6 else M 1 7))) (put M 1 (if a = 0 then 5 else if a = 1 then 6 else 7) w)) : V cS g (d + 2) mX9_set 0 [some (.ref 0), some (.int a), some (.int w), none] [] M Q := by
  by_cases h : (a = 0 ∧ -5 ≤ w ∧ w ≤ 5) ∨ (a = 1 ∧ 0 ≤ w ∧ w ≤ 30) ∨ (a = 2 ∧ 0 ≤ w ∧ w ≤ 300)
  · skip
    refine V.iload_n dX9_set_0 rfl (i := 1) rfl ?_
    refine V.iload_n dX9_set_1 rfl (i := 2) rfl ?_
    refine V.invs (z := mX9_canBeSet) (As := [_, _]) dX9_set_2 rfl mlRX9_90 okX9_canBeSet npX9_canBeSet rfl (Nat.le_of_ble_eq_true rfl) rfl (Nat.le_of_ble_eq_true rfl) (c_canBeSet   ?_)
    show V cS g (d + 2) mX9_set 5 [some (.ref 0), some (.int a), some (.int w), none] [.int (b2i ((a = 0 ∧ -5 ≤ w ∧ w ≤ 5) ∨ (a = 1 ∧ 0 ≤ w ∧ w ≤ 30) ∨ (a = 2 ∧ 0 ≤ w ∧ w ≤ 300)))] (M) Q
    refine V.if_ne (tgt := 15) dX9_set_5 (by decide) (fun c5 => ?_) (fun q => absurd q ((fun z => b2i_0.mp z h)))
    refine V.iload_n dX9_set_15 rfl (i := 1) rfl ?_
    suffices kJ16 : V cS g (d + 2) mX9_set 51 [some (.ref 0), some (.int a), some (.int w), none] [.int (if a = (0 : Int32) then ((M) 1 5) else (if a = (1 : Int32) then ((M) 1 6) else ((M) 1 7)))] (M) Q by
      refine V.if_ne (tgt := 29) dX9_set_16 (by decide) (fun c16 => ?_) (fun c16 => ?_)
      · refine V.iload_n dX9_set_29 rfl (i := 1) rfl ?_
        refine V.iconst dX9_set_30 (v := 1) (by decide) ?_
        refine V.ic_ne (tgt := 44) dX9_set_31 (by decide) (fun c31 => ?_) (fun c31 => ?_)
        · refine V.aload_n dX9_set_44 rfl (i := 0) rfl ?_
          refine V.getR dX9_set_45 rfl flRX9_12 rfl ⟨by decide, by decide⟩ ?_
          refine V.getI dX9_set_48 rfl flRX9_101 rfl ⟨by decide, by decide⟩ ?_
          rw [if_neg c16, if_neg c31] at kJ16; exact kJ16
        · refine V.aload_n dX9_set_34 rfl (i := 0) rfl ?_
          refine V.getR dX9_set_35 rfl flRX9_12 rfl ⟨by decide, by decide⟩ ?_
          refine V.getI dX9_set_38 rfl flRX9_98 rfl ⟨by decide, by decide⟩ ?_
          refine V.goto dX9_set_41 (tgt := 51) (by decide) ?_
          rw [if_neg c16, if_pos c31] at kJ16; exact kJ16
      · refine V.aload_n dX9_set_19 rfl (i := 0) rfl ?_
        refine V.getR dX9_set_20 rfl flRX9_12 rfl ⟨by decide, by decide⟩ ?_
        refine V.getI dX9_set_23 rfl flRX9_94 rfl ⟨by decide, by decide⟩ ?_
        refine V.goto dX9_set_26 (tgt := 51) (by decide) ?_
        rw [if_pos c16] at kJ16; exact kJ16
    refine V.istore_n dX9_set_51 rfl (i := 3) (by decide) (fun _ h => by cases h; exact Or.inl rfl) rfl ?_
    refine V.iload_n dX9_set_52 rfl (i := 1) rfl ?_
    refine V.if_ne (tgt := 67) dX9_set_53 (by decide) (fun c53 => ?_) (fun c53 => ?_)
    · refine V.iload_n dX9_set_67 rfl (i := 1) rfl ?_
      refine V.iconst dX9_set_68 (v := 1) (by decide) ?_
      refine V.ic_ne (tgt := 83) dX9_set_69 (by decide) (fun c69 => ?_) (fun c69 => ?_)
      · refine V.aload_n dX9_set_83 rfl (i := 0) rfl ?_
        refine V.getR dX9_set_84 rfl flRX9_12 rfl ⟨by decide, by decide⟩ ?_
        refine V.iload_n dX9_set_87 rfl (i := 2) rfl ?_
        refine V.putI dX9_set_88 rfl fpRX9_101 rfl ⟨by decide, by decide⟩ ?_
        refine V.iload_n dX9_set_91 rfl (i := 3) rfl ?_
        exact V.ret dX9_set_92 rfl (Qim (hok h) (by simp_all) (by simp_all))
      · refine V.aload_n dX9_set_72 rfl (i := 0) rfl ?_
        refine V.getR dX9_set_73 rfl flRX9_12 rfl ⟨by decide, by decide⟩ ?_
        refine V.iload_n dX9_set_76 rfl (i := 2) rfl ?_
        refine V.putI dX9_set_77 rfl fpRX9_98 rfl ⟨by decide, by decide⟩ ?_
        refine V.goto dX9_set_80 (tgt := 91) (by decide) ?_
        refine V.iload_n dX9_set_91 rfl (i := 3) rfl ?_
        exact V.ret dX9_set_92 rfl (Qim (hok h) (by simp_all) (by simp_all))
    · refine V.aload_n dX9_set_56 rfl (i := 0) rfl ?_
      refine V.getR dX9_set_57 rfl flRX9_12 rfl ⟨by decide, by decide⟩ ?_
      refine V.iload_n dX9_set_60 rfl (i := 2) rfl ?_
      refine V.putI dX9_set_61 rfl fpRX9_94 rfl ⟨by decide, by decide⟩ ?_
      refine V.goto dX9_set_64 (tgt := 91) (by decide) ?_
      refine V.iload_n dX9_set_91 rfl (i := 3) rfl ?_
      exact V.ret dX9_set_92 rfl (Qim (hok h) (by simp_all) (by simp_all))
  · skip
    refine V.iload_n dX9_set_0 rfl (i := 1) rfl ?_
    refine V.iload_n dX9_set_1 rfl (i := 2) rfl ?_
    refine V.invs (z := mX9_canBeSet) (As := [_, _]) dX9_set_2 rfl mlRX9_90 okX9_canBeSet npX9_canBeSet rfl (Nat.le_of_ble_eq_true rfl) rfl (Nat.le_of_ble_eq_true rfl) (c_canBeSet   ?_)
    show V cS g (d + 2) mX9_set 5 [some (.ref 0), some (.int a), some (.int w), none] [.int (b2i ((a = 0 ∧ -5 ≤ w ∧ w ≤ 5) ∨ (a = 1 ∧ 0 ≤ w ∧ w ≤ 30) ∨ (a = 2 ∧ 0 ≤ w ∧ w ≤ 300)))] (M) Q
    refine V.if_ne (tgt := 15) dX9_set_5 (by decide) (fun c5 => ?_) (fun c5 => ?_)
    · exact absurd (Classical.byContradiction fun z => c5 (b2i_f z)) h
    · refine V.aload_n dX9_set_8 rfl (i := 0) rfl ?_
      refine V.ldc dX9_set_9 rfl ctRX9_81 ?_
      refine V.invv (z := mX9_error) (As := [_]) dX9_set_11 rfl mlRX9_82 okX9_error npX9_error rfl rfl rfl ⟨by decide, by decide⟩ (Nat.le_of_ble_eq_true rfl) rfl (Nat.le_of_ble_eq_true rfl) (c_err1   ?_)
      show V cS g (d + 2) mX9_set 14 [some (.ref 0), some (.int a), some (.int w), none] [.int (-1000000001 : Int32)] (put (M) 9 1 ((M) 9 1 + 1)) Q
      exact V.ret dX9_set_14 rfl (hbad h)

