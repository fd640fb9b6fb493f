/-! ===== public methods: clashes, shifts ===== -/
def hpH (M : Mem) (hour : Int32) : Nat → Nat → Bool := hpF M (fun b => strk (M (30 + b) 0) (M (30 + b) 1) (M (30 + b) 6) hour) (M 1 5)
def wyH (M : Mem) : Nat → Nat → Int32 := wyF M (M 1 5)

set_option maxHeartbeats 4000000 in
set_option maxRecDepth 100000 in
theorem c9_clashes {g : GG} {d : Nat} {M : Mem} {Q : Option Value → Mem → Prop} {a w : Int32} {n ne : Nat} (hV : VB M n ne) (hbad : ¬ ((0 ≤ a ∧ a ≤ 23) ∧ 0 ≤ w ∧ w ≤ 1) → Q (some (.int (-1000000001))) (put M 9 1 (M 9 1 + 1))) (hok : ((0 ≤ a ∧ a ≤ 23) ∧ 0 ≤ w ∧ w ≤ 1) → ∀ M', eqx scrH M M' → Q (some (.int (if w = 0 then sI (fun a' => ccF (hpH M a) (wyH M) (M' 1 6) (fun b => M' (30 + b) 4) n ne a') n / 2 else fcF (cl2 (hpH M a) (wyH M) (M' 1 6) (fun b => M' (30 + b) 4)) n ne))) M') : V cS g (d + 5) mX9_clashes 0 [some (.ref 0), some (.int a), some (.int w)] [] M Q := by
  have h8 := hV.2.1
  by_cases h : ((0 ≤ a ∧ a ≤ 23) ∧ 0 ≤ w ∧ w ≤ 1)
  · skip
    refine V.iload_n dX9_clashes_0 rfl (i := 1) rfl ?_
    refine V.invs (z := mX9_isHour) (As := [_]) dX9_clashes_1 rfl mlRX9_138 okX9_isHour npX9_isHour rfl (Nat.le_of_ble_eq_true rfl) rfl (Nat.le_of_ble_eq_true rfl) (c_isHour   ?_)
    show V cS g (d + 5) mX9_clashes 4 [some (.ref 0), some (.int a), some (.int w)] [.int (b2i (0 ≤ a ∧ a ≤ 23))] (M) Q
    refine V.if_eq (tgt := 14) dX9_clashes_4 (by decide) (fun q => absurd q ((fun z => b2i_0.mp z h.1))) (fun c4 => ?_)
    refine V.iload_n dX9_clashes_7 rfl (i := 2) rfl ?_
    refine V.invs (z := mX9_isEither) (As := [_]) dX9_clashes_8 rfl mlRX9_225 okX9_isEither npX9_isEither rfl (Nat.le_of_ble_eq_true rfl) rfl (Nat.le_of_ble_eq_true rfl) (c_isEither   ?_)
    show V cS g (d + 5) mX9_clashes 11 [some (.ref 0), some (.int a), some (.int w)] [.int (b2i (0 ≤ w ∧ w ≤ 1))] ((M)) Q
    refine V.if_ne (tgt := 21) dX9_clashes_11 (by decide) (fun c11 => ?_) (fun q => absurd q ((fun z => b2i_0.mp z h.2)))
    refine V.aload_n dX9_clashes_21 rfl (i := 0) rfl ?_
    refine V.getR dX9_clashes_22 rfl flRX9_31 rfl ⟨by decide, by decide⟩ ?_
    refine V.iload_n dX9_clashes_25 rfl (i := 1) rfl ?_
    refine V.aload_n dX9_clashes_26 rfl (i := 0) rfl ?_
    refine V.getR dX9_clashes_27 rfl flRX9_12 rfl ⟨by decide, by decide⟩ ?_
    refine V.getI dX9_clashes_30 rfl flRX9_94 rfl ⟨by decide, by decide⟩ ?_
    refine V.invv (z := mX1_listen) (As := [_, _]) dX9_clashes_33 rfl mlRX9_195 okX1_listen npX1_listen rfl rfl rfl ⟨by decide, by decide⟩ (Nat.le_of_ble_eq_true rfl) rfl (Nat.le_of_ble_eq_true rfl) (c_listen hV (fun M1 hM1 hH1 => ?_))
    show V cS g (d + 5) mX9_clashes 36 [some (.ref 0), some (.int a), some (.int w)] [] M1 Q
    refine V.iload_n dX9_clashes_36 rfl (i := 2) rfl ?_
    refine V.if_ne (tgt := 50) dX9_clashes_37 (by decide) (fun c37 => ?_) (fun c37 => ?_)
    · refine V.aload_n dX9_clashes_50 rfl (i := 0) rfl ?_
      refine V.getR dX9_clashes_51 rfl flRX9_31 rfl ⟨by decide, by decide⟩ ?_
      refine V.invv (z := mX1_firstClash) (As := []) dX9_clashes_54 rfl mlRX9_232 okX1_firstClash npX1_firstClash rfl rfl rfl ⟨by decide, by decide⟩ (Nat.le_of_ble_eq_true rfl) rfl (Nat.le_of_ble_eq_true rfl) (c_fc (hV.eq hM1 (by decide) (by decide) (by decide) (fun b hb => by simp; omega)).cn hH1 ?_)
      show V cS g (d + 5) mX9_clashes 57 [some (.ref 0), some (.int a), some (.int w)] [.int (fcF (cl2 (hpH M a) (wyH M) (M1 1 6) (fun b => M1 (30 + b) 4)) n ne)] M1 Q
      exact V.ret dX9_clashes_57 rfl (Qi (hok h M1 hM1) (by first | rw [if_pos c37] | rw [if_neg c37]))
    · refine V.aload_n dX9_clashes_40 rfl (i := 0) rfl ?_
      refine V.getR dX9_clashes_41 rfl flRX9_31 rfl ⟨by decide, by decide⟩ ?_
      refine V.invv (z := mX1_clashCount) (As := []) dX9_clashes_44 rfl mlRX9_228 okX1_clashCount npX1_clashCount rfl rfl rfl ⟨by decide, by decide⟩ (Nat.le_of_ble_eq_true rfl) rfl (Nat.le_of_ble_eq_true rfl) (c_cc (hV.eq hM1 (by decide) (by decide) (by decide) (fun b hb => by simp; omega)).cn hH1 ?_)
      show V cS g (d + 5) mX9_clashes 47 [some (.ref 0), some (.int a), some (.int w)] [.int (sI (fun a' => ccF (hpH M a) (wyH M) (M1 1 6) (fun b => M1 (30 + b) 4) n ne a') n / 2)] M1 Q
      refine V.goto dX9_clashes_47 (tgt := 57) (by decide) ?_
      exact V.ret dX9_clashes_57 rfl (Qi (hok h M1 hM1) (by first | rw [if_pos c37] | rw [if_neg c37]))
  · skip
    refine V.iload_n dX9_clashes_0 rfl (i := 1) rfl ?_
    refine V.invs (z := mX9_isHour) (As := [_]) dX9_clashes_1 rfl mlRX9_138 okX9_isHour npX9_isHour rfl (Nat.le_of_ble_eq_true rfl) rfl (Nat.le_of_ble_eq_true rfl) (c_isHour   ?_)
    show V cS g (d + 5) mX9_clashes 4 [some (.ref 0), some (.int a), some (.int w)] [.int (b2i (0 ≤ a ∧ a ≤ 23))] (M) Q
    refine V.if_eq (tgt := 14) dX9_clashes_4 (by decide) (fun c4 => ?_) (fun c4 => ?_)
    · refine V.aload_n dX9_clashes_14 rfl (i := 0) rfl ?_
      refine V.ldc dX9_clashes_15 rfl ctRX9_81 ?_
      refine V.invv (z := mX9_error) (As := [_]) dX9_clashes_17 rfl mlRX9_82 okX9_error npX9_error rfl rfl rfl ⟨by decide, by decide⟩ (Nat.le_of_ble_eq_true rfl) rfl (Nat.le_of_ble_eq_true rfl) (c_err1   ?_)
      show V cS g (d + 5) mX9_clashes 20 [some (.ref 0), some (.int a), some (.int w)] [.int (-1000000001 : Int32)] (put (M) 9 1 ((M) 9 1 + 1)) Q
      exact V.ret dX9_clashes_20 rfl (hbad h)
    · refine V.iload_n dX9_clashes_7 rfl (i := 2) rfl ?_
      refine V.invs (z := mX9_isEither) (As := [_]) dX9_clashes_8 rfl mlRX9_225 okX9_isEither npX9_isEither rfl (Nat.le_of_ble_eq_true rfl) rfl (Nat.le_of_ble_eq_true rfl) (c_isEither   ?_)
      show V cS g (d + 5) mX9_clashes 11 [some (.ref 0), some (.int a), some (.int w)] [.int (b2i (0 ≤ w ∧ w ≤ 1))] ((M)) Q
      refine V.if_ne (tgt := 21) dX9_clashes_11 (by decide) (fun c11 => ?_) (fun c11 => ?_)
      · exact absurd ⟨(Classical.byContradiction fun z => c4 (b2i_f z)), (Classical.byContradiction fun z => c11 (b2i_f z))⟩ h
      · refine V.aload_n dX9_clashes_14 rfl (i := 0) rfl ?_
        refine V.ldc dX9_clashes_15 rfl ctRX9_81 ?_
        refine V.invv (z := mX9_error) (As := [_]) dX9_clashes_17 rfl mlRX9_82 okX9_error npX9_error rfl rfl rfl ⟨by decide, by decide⟩ (Nat.le_of_ble_eq_true rfl) rfl (Nat.le_of_ble_eq_true rfl) (c_err1   ?_)
        show V cS g (d + 5) mX9_clashes 20 [some (.ref 0), some (.int a), some (.int w)] [.int (-1000000001 : Int32)] (put ((M)) 9 1 (((M)) 9 1 + 1)) Q
        exact V.ret dX9_clashes_20 rfl (hbad h)
set_option maxHeartbeats 4000000 in
set_option maxRecDepth 100000 in
theorem c9_clash {g : GG} {d : Nat} {M : Mem} {Q : Option Value → Mem → Prop} {a w : Int32} {n ne : Nat} (hV : VB M n ne) (hbad : ¬ ((0 ≤ a ∧ a < M 1 2 ∧ a < 8) ∧ 0 ≤ w ∧ w ≤ 23) → Q (some (.int (-1000000001))) (put M 9 1 (M 9 1 + 1))) (hok : ((0 ≤ a ∧ a < M 1 2 ∧ a < 8) ∧ 0 ≤ w ∧ w ≤ 23) → ∀ b, b < n → a = nI b → ∀ M', eqx scrH M M' → Q (some (.int (ccF (hpH M w) (wyH M) (M' 1 6) (fun b => M' (30 + b) 4) n ne b))) M') : V cS g (d + 5) mX9_clash 0 [some (.ref 0), some (.int a), some (.int w)] [] M Q := by
  have h8 := hV.2.1
  by_cases h : ((0 ≤ a ∧ a < M 1 2 ∧ a < 8) ∧ 0 ≤ w ∧ w ≤ 23)
  · have h12 := h.1.2.1
    rw [hV.1] at h12
    obtain ⟨b, hb, rfl⟩ := nI_ex (n := n) (by omega) h.1.1 h12
    refine V.aload_n dX9_clash_0 rfl (i := 0) rfl ?_
    refine V.iload_n dX9_clash_1 rfl (i := 1) rfl ?_
    refine V.invv (z := mX9_isBell) (As := [_]) dX9_clash_2 rfl mlRX9_118 okX9_isBell npX9_isBell rfl rfl rfl ⟨by decide, by decide⟩ (Nat.le_of_ble_eq_true rfl) rfl (Nat.le_of_ble_eq_true rfl) (c_isBell   ?_)
    show V cS g (d + 5) mX9_clash 5 [some (.ref 0), some (.int (nI b)), some (.int w)] [.int (b2i (0 ≤ (nI b) ∧ (nI b) < M 1 2 ∧ (nI b) < 8))] (M) Q
    refine V.if_eq (tgt := 15) dX9_clash_5 (by decide) (fun q => absurd q ((fun z => b2i_0.mp z h.1))) (fun c5 => ?_)
    refine V.iload_n dX9_clash_8 rfl (i := 2) rfl ?_
    refine V.invs (z := mX9_isHour) (As := [_]) dX9_clash_9 rfl mlRX9_138 okX9_isHour npX9_isHour rfl (Nat.le_of_ble_eq_true rfl) rfl (Nat.le_of_ble_eq_true rfl) (c_isHour   ?_)
    show V cS g (d + 5) mX9_clash 12 [some (.ref 0), some (.int (nI b)), some (.int w)] [.int (b2i (0 ≤ w ∧ w ≤ 23))] ((M)) Q
    refine V.if_ne (tgt := 22) dX9_clash_12 (by decide) (fun c12 => ?_) (fun q => absurd q ((fun z => b2i_0.mp z h.2)))
    refine V.aload_n dX9_clash_22 rfl (i := 0) rfl ?_
    refine V.getR dX9_clash_23 rfl flRX9_31 rfl ⟨by decide, by decide⟩ ?_
    refine V.iload_n dX9_clash_26 rfl (i := 2) rfl ?_
    refine V.aload_n dX9_clash_27 rfl (i := 0) rfl ?_
    refine V.getR dX9_clash_28 rfl flRX9_12 rfl ⟨by decide, by decide⟩ ?_
    refine V.getI dX9_clash_31 rfl flRX9_94 rfl ⟨by decide, by decide⟩ ?_
    refine V.invv (z := mX1_listen) (As := [_, _]) dX9_clash_34 rfl mlRX9_195 okX1_listen npX1_listen rfl rfl rfl ⟨by decide, by decide⟩ (Nat.le_of_ble_eq_true rfl) rfl (Nat.le_of_ble_eq_true rfl) (c_listen hV (fun M1 hM1 hH1 => ?_))
    show V cS g (d + 5) mX9_clash 37 [some (.ref 0), some (.int (nI b)), some (.int w)] [] M1 Q
    refine V.aload_n dX9_clash_37 rfl (i := 0) rfl ?_
    refine V.getR dX9_clash_38 rfl flRX9_31 rfl ⟨by decide, by decide⟩ ?_
    refine V.iload_n dX9_clash_41 rfl (i := 1) rfl ?_
    refine V.invv (z := mX1_clashCountOf) (As := [_]) dX9_clash_42 rfl mlRX9_235 okX1_clashCountOf npX1_clashCountOf rfl rfl rfl ⟨by decide, by decide⟩ (Nat.le_of_ble_eq_true rfl) rfl (Nat.le_of_ble_eq_true rfl) (c_cco (hV.eq hM1 (by decide) (by decide) (by decide) (fun b hb => by simp; omega)).cn hH1 hb ?_)
    show V cS g (d + 5) mX9_clash 45 [some (.ref 0), some (.int (nI b)), some (.int w)] [.int (ccF (hpH M w) (wyH M) (M1 1 6) (fun b => M1 (30 + b) 4) n ne b)] M1 Q
    exact V.ret dX9_clash_45 rfl (hok h b hb rfl M1 hM1)
  · skip
    refine V.aload_n dX9_clash_0 rfl (i := 0) rfl ?_
    refine V.iload_n dX9_clash_1 rfl (i := 1) rfl ?_
    refine V.invv (z := mX9_isBell) (As := [_]) dX9_clash_2 rfl mlRX9_118 okX9_isBell npX9_isBell rfl rfl rfl ⟨by decide, by decide⟩ (Nat.le_of_ble_eq_true rfl) rfl (Nat.le_of_ble_eq_true rfl) (c_isBell   ?_)
    show V cS g (d + 5) mX9_clash 5 [some (.ref 0), some (.int a), some (.int w)] [.int (b2i (0 ≤ a ∧ a < M 1 2 ∧ a < 8))] (M) Q
    refine V.if_eq (tgt := 15) dX9_clash_5 (by decide) (fun c5 => ?_) (fun c5 => ?_)
    · refine V.aload_n dX9_clash_15 rfl (i := 0) rfl ?_
      refine V.ldc dX9_clash_16 rfl ctRX9_81 ?_
      refine V.invv (z := mX9_error) (As := [_]) dX9_clash_18 rfl mlRX9_82 okX9_error npX9_error rfl rfl rfl ⟨by decide, by decide⟩ (Nat.le_of_ble_eq_true rfl) rfl (Nat.le_of_ble_eq_true rfl) (c_err1   ?_)
      show V cS g (d + 5) mX9_clash 21 [some (.ref 0), some (.int a), some (.int w)] [.int (-1000000001 : Int32)] (put (M) 9 1 ((M) 9 1 + 1)) Q
      exact V.ret dX9_clash_21 rfl (hbad h)
    · refine V.iload_n dX9_clash_8 rfl (i := 2) rfl ?_
      refine V.invs (z := mX9_isHour) (As := [_]) dX9_clash_9 rfl mlRX9_138 okX9_isHour npX9_isHour rfl (Nat.le_of_ble_eq_true rfl) rfl (Nat.le_of_ble_eq_true rfl) (c_isHour   ?_)
      show V cS g (d + 5) mX9_clash 12 [some (.ref 0), some (.int a), some (.int w)] [.int (b2i (0 ≤ w ∧ w ≤ 23))] ((M)) Q
      refine V.if_ne (tgt := 22) dX9_clash_12 (by decide) (fun c12 => ?_) (fun c12 => ?_)
      · exact absurd ⟨(Classical.byContradiction fun z => c5 (b2i_f z)), (Classical.byContradiction fun z => c12 (b2i_f z))⟩ h
      · refine V.aload_n dX9_clash_15 rfl (i := 0) rfl ?_
        refine V.ldc dX9_clash_16 rfl ctRX9_81 ?_
        refine V.invv (z := mX9_error) (As := [_]) dX9_clash_18 rfl mlRX9_82 okX9_error npX9_error rfl rfl rfl ⟨by decide, by decide⟩ (Nat.le_of_ble_eq_true rfl) rfl (Nat.le_of_ble_eq_true rfl) (c_err1   ?_)
        show V cS g (d + 5) mX9_clash 21 [some (.ref 0), some (.int a), some (.int w)] [.int (-1000000001 : Int32)] (put ((M)) 9 1 (((M)) 9 1 + 1)) Q
        exact V.ret dX9_clash_21 rfl (hbad h)
set_option maxHeartbeats 4000000 in
set_option maxRecDepth 100000 in
theorem c9_holds {g : GG} {d : Nat} {M : Mem} {Q : Option Value → Mem → Prop} {a w v : Int32} {bd : Nat} {n ne : Nat} (hV : VB M n ne) (hb7 : M 1 7 = nI bd) (hbd : bd ≤ 300) (hbad : ¬ ((0 ≤ a ∧ a < M 1 2 ∧ a < 8) ∧ (0 ≤ w ∧ w ≤ 23) ∧ 0 ≤ v ∧ v ≤ 1) → Q (some (.int (-1000000001))) (put M 9 1 (M 9 1 + 1))) (hok : ((0 ≤ a ∧ a < M 1 2 ∧ a < 8) ∧ (0 ≤ w ∧ w ≤ 23) ∧ 0 ≤ v ∧ v ≤ 1) → ∀ b, b < n → a = nI b → ∀ M', eqx scrW M M' → (∀ y, y < 601 → M' 59 y = bI (shW M n ne b w y) 11) → Q (some (.int (if v = 0 then sN (bsF (fun x => bcF (M' 59 x)) bd) else bcF (M' 59 (bsF (fun x => bcF (M' 59 x)) bd))))) M') : V cS g (d + 6) mX9_holds 0 [some (.ref 0), some (.int a), some (.int w), some (.int v), none] [] M Q := by
  have h8 := hV.2.1
  by_cases h : ((0 ≤ a ∧ a < M 1 2 ∧ a < 8) ∧ (0 ≤ w ∧ w ≤ 23) ∧ 0 ≤ v ∧ v ≤ 1)
  · have h12 := h.1.2.1
    rw [hV.1] at h12
    obtain ⟨b, hb, rfl⟩ := nI_ex (n := n) (by omega) h.1.1 h12
    refine V.aload_n dX9_holds_0 rfl (i := 0) rfl ?_
    refine V.iload_n dX9_holds_1 rfl (i := 1) rfl ?_
    refine V.invv (z := mX9_isBell) (As := [_]) dX9_holds_2 rfl mlRX9_118 okX9_isBell npX9_isBell rfl rfl rfl ⟨by decide, by decide⟩ (Nat.le_of_ble_eq_true rfl) rfl (Nat.le_of_ble_eq_true rfl) (c_isBell   ?_)
    show V cS g (d + 6) mX9_holds 5 [some (.ref 0), some (.int (nI b)), some (.int w), some (.int v), none] [.int (b2i (0 ≤ (nI b) ∧ (nI b) < M 1 2 ∧ (nI b) < 8))] (M) Q
    refine V.if_eq (tgt := 22) dX9_holds_5 (by decide) (fun q => absurd q ((fun z => b2i_0.mp z h.1))) (fun c5 => ?_)
    refine V.iload_n dX9_holds_8 rfl (i := 2) rfl ?_
    refine V.invs (z := mX9_isHour) (As := [_]) dX9_holds_9 rfl mlRX9_138 okX9_isHour npX9_isHour rfl (Nat.le_of_ble_eq_true rfl) rfl (Nat.le_of_ble_eq_true rfl) (c_isHour   ?_)
    show V cS g (d + 6) mX9_holds 12 [some (.ref 0), some (.int (nI b)), some (.int w), some (.int v), none] [.int (b2i (0 ≤ w ∧ w ≤ 23))] ((M)) Q
    refine V.if_eq (tgt := 22) dX9_holds_12 (by decide) (fun q => absurd q ((fun z => b2i_0.mp z h.2.1))) (fun c12 => ?_)
    refine V.iload_n dX9_holds_15 rfl (i := 3) rfl ?_
    refine V.invs (z := mX9_isEither) (As := [_]) dX9_holds_16 rfl mlRX9_225 okX9_isEither npX9_isEither rfl (Nat.le_of_ble_eq_true rfl) rfl (Nat.le_of_ble_eq_true rfl) (c_isEither   ?_)
    show V cS g (d + 6) mX9_holds 19 [some (.ref 0), some (.int (nI b)), some (.int w), some (.int v), none] [.int (b2i (0 ≤ v ∧ v ≤ 1))] (((M))) Q
    refine V.if_ne (tgt := 29) dX9_holds_19 (by decide) (fun c19 => ?_) (fun q => absurd q ((fun z => b2i_0.mp z h.2.2)))
    refine V.aload_n dX9_holds_29 rfl (i := 0) rfl ?_
    refine V.getR dX9_holds_30 rfl flRX9_47 rfl ⟨by decide, by decide⟩ ?_
    refine V.iload_n dX9_holds_33 rfl (i := 1) rfl ?_
    refine V.iload_n dX9_holds_34 rfl (i := 2) rfl ?_
    refine V.invv (z := mX6_tryShifts) (As := [_, _]) dX9_holds_35 rfl mlRX9_273 okX6_tryShifts npX6_tryShifts rfl rfl rfl ⟨by decide, by decide⟩ (Nat.le_of_ble_eq_true rfl) rfl (Nat.le_of_ble_eq_true rfl) (c_ts hV hb (fun M1 hM1 h59 => ?_))
    show V cS g (d + 6) mX9_holds 38 [some (.ref 0), some (.int (nI b)), some (.int w), some (.int v), none] [] M1 Q
    refine V.aload_n dX9_holds_38 rfl (i := 0) rfl ?_
    refine V.getR dX9_holds_39 rfl flRX9_47 rfl ⟨by decide, by decide⟩ ?_
    refine V.invv (z := mX6_bestShift) (As := []) dX9_holds_42 rfl mlRX9_276 okX6_bestShift npX6_bestShift rfl rfl rfl ⟨by decide, by decide⟩ (Nat.le_of_ble_eq_true rfl) rfl (Nat.le_of_ble_eq_true rfl) (c_bs (by rw [hM1 1 (by decide)]; exact hb7) hbd ?_)
    show V cS g (d + 6) mX9_holds 45 [some (.ref 0), some (.int (nI b)), some (.int w), some (.int v), none] [.int (sN (bsF (fun x => bcF (M1 59 x)) bd))] M1 Q
    refine V.istore dX9_holds_45 (i := 4) (by decide) (fun _ h => by cases h; exact Or.inl rfl) rfl ?_
    refine V.iload_n dX9_holds_47 rfl (i := 3) rfl ?_
    refine V.if_ne (tgt := 56) dX9_holds_48 (by decide) (fun c48 => ?_) (fun c48 => ?_)
    · refine V.aload_n dX9_holds_56 rfl (i := 0) rfl ?_
      refine V.getR dX9_holds_57 rfl flRX9_47 rfl ⟨by decide, by decide⟩ ?_
      refine V.iload dX9_holds_60 rfl ?_
      refine V.invv (z := mX6_windsAgainst) (As := [_]) dX9_holds_62 rfl mlRX9_279 okX6_windsAgainst npX6_windsAgainst rfl rfl rfl ⟨by decide, by decide⟩ (Nat.le_of_ble_eq_true rfl) rfl (Nat.le_of_ble_eq_true rfl) (c_wa (Nat.lt_succ_of_le (bsF_le _ bd hbd)) ?_)
      show V cS g (d + 6) mX9_holds 65 [some (.ref 0), some (.int (nI b)), some (.int w), some (.int v), some (.int (sN (bsF (fun x => bcF (M1 59 x)) bd)))] [.int (bcF (M1 59 (bsF (fun x => bcF (M1 59 x)) bd)))] M1 Q
      exact V.ret dX9_holds_65 rfl (Qi (hok h b hb rfl M1 hM1 h59) (by first | rw [if_pos c48] | rw [if_neg c48]))
    · refine V.iload dX9_holds_51 rfl ?_
      refine V.goto dX9_holds_53 (tgt := 65) (by decide) ?_
      exact V.ret dX9_holds_65 rfl (Qi (hok h b hb rfl M1 hM1 h59) (by first | rw [if_pos c48] | rw [if_neg c48]))
  · skip
    refine V.aload_n dX9_holds_0 rfl (i := 0) rfl ?_
    refine V.iload_n dX9_holds_1 rfl (i := 1) rfl ?_
    refine V.invv (z := mX9_isBell) (As := [_]) dX9_holds_2 rfl mlRX9_118 okX9_isBell npX9_isBell rfl rfl rfl ⟨by decide, by decide⟩ (Nat.le_of_ble_eq_true rfl) rfl (Nat.le_of_ble_eq_true rfl) (c_isBell   ?_)
    show V cS g (d + 6) mX9_holds 5 [some (.ref 0), some (.int a), some (.int w), some (.int v), none] [.int (b2i (0 ≤ a ∧ a < M 1 2 ∧ a < 8))] (M) Q
    refine V.if_eq (tgt := 22) dX9_holds_5 (by decide) (fun c5 => ?_) (fun c5 => ?_)
    · refine V.aload_n dX9_holds_22 rfl (i := 0) rfl ?_
      refine V.ldc dX9_holds_23 rfl ctRX9_81 ?_
      refine V.invv (z := mX9_error) (As := [_]) dX9_holds_25 rfl mlRX9_82 okX9_error npX9_error rfl rfl rfl ⟨by decide, by decide⟩ (Nat.le_of_ble_eq_true rfl) rfl (Nat.le_of_ble_eq_true rfl) (c_err1   ?_)
      show V cS g (d + 6) mX9_holds 28 [some (.ref 0), some (.int a), some (.int w), some (.int v), none] [.int (-1000000001 : Int32)] (put (M) 9 1 ((M) 9 1 + 1)) Q
      exact V.ret dX9_holds_28 rfl (hbad h)
    · refine V.iload_n dX9_holds_8 rfl (i := 2) rfl ?_
      refine V.invs (z := mX9_isHour) (As := [_]) dX9_holds_9 rfl mlRX9_138 okX9_isHour npX9_isHour rfl (Nat.le_of_ble_eq_true rfl) rfl (Nat.le_of_ble_eq_true rfl) (c_isHour   ?_)
      show V cS g (d + 6) mX9_holds 12 [some (.ref 0), some (.int a), some (.int w), some (.int v), none] [.int (b2i (0 ≤ w ∧ w ≤ 23))] ((M)) Q
      refine V.if_eq (tgt := 22) dX9_holds_12 (by decide) (fun c12 => ?_) (fun c12 => ?_)
      · refine V.aload_n dX9_holds_22 rfl (i := 0) rfl ?_
        refine V.ldc dX9_holds_23 rfl ctRX9_81 ?_
        refine V.invv (z := mX9_error) (As := [_]) dX9_holds_25 rfl mlRX9_82 okX9_error npX9_error rfl rfl rfl ⟨by decide, by decide⟩ (Nat.le_of_ble_eq_true rfl) rfl (Nat.le_of_ble_eq_true rfl) (c_err1   ?_)
        show V cS g (d + 6) mX9_holds 28 [some (.ref 0), some (.int a), some (.int w), some (.int v), none] [.int (-1000000001 : Int32)] (put ((M)) 9 1 (((M)) 9 1 + 1)) Q
        exact V.ret dX9_holds_28 rfl (hbad h)
      · refine V.iload_n dX9_holds_15 rfl (i := 3) rfl ?_
        refine V.invs (z := mX9_isEither) (As := [_]) dX9_holds_16 rfl mlRX9_225 okX9_isEither npX9_isEither rfl (Nat.le_of_ble_eq_true rfl) rfl (Nat.le_of_ble_eq_true rfl) (c_isEither   ?_)
        show V cS g (d + 6) mX9_holds 19 [some (.ref 0), some (.int a), some (.int w), some (.int v), none] [.int (b2i (0 ≤ v ∧ v ≤ 1))] (((M))) Q
        refine V.if_ne (tgt := 29) dX9_holds_19 (by decide) (fun c19 => ?_) (fun c19 => ?_)
        · exact absurd ⟨(Classical.byContradiction fun z => c5 (b2i_f z)), (Classical.byContradiction fun z => c12 (b2i_f z)), (Classical.byContradiction fun z => c19 (b2i_f z))⟩ h
        · refine V.aload_n dX9_holds_22 rfl (i := 0) rfl ?_
          refine V.ldc dX9_holds_23 rfl ctRX9_81 ?_
          refine V.invv (z := mX9_error) (As := [_]) dX9_holds_25 rfl mlRX9_82 okX9_error npX9_error rfl rfl rfl ⟨by decide, by decide⟩ (Nat.le_of_ble_eq_true rfl) rfl (Nat.le_of_ble_eq_true rfl) (c_err1   ?_)
          show V cS g (d + 6) mX9_holds 28 [some (.ref 0), some (.int a), some (.int w), some (.int v), none] [.int (-1000000001 : Int32)] (put (((M))) 9 1 ((((M))) 9 1 + 1)) Q
          exact V.ret dX9_holds_28 rfl (hbad h)

