/-! ===== public methods: apart, quiet, silence ===== -/
set_option maxHeartbeats 4000000 in
set_option maxRecDepth 100000 in
theorem c9_apart {g : GG} {d : Nat} {M : Mem} {Q : Option Value → Mem → Prop} {a w v : Int32} {n ne : Nat} (hV : VB M n ne) (hbad : ¬ ((0 ≤ a ∧ a < M 1 2 ∧ a < 8) ∧ (0 ≤ w ∧ w < M 1 2 ∧ w < 8) ∧ ¬ a = w ∧ 0 ≤ v ∧ v ≤ 23) → Q (some (.int (-1000000001))) (put M 9 1 (M 9 1 + 1))) (hnone : ((0 ≤ a ∧ a < M 1 2 ∧ a < 8) ∧ (0 ≤ w ∧ w < M 1 2 ∧ w < 8) ∧ ¬ a = w ∧ 0 ≤ v ∧ v ≤ 23) → ∀ b c, b < n → c < n → a = nI b → w = nI c → ∀ M', eqx scrH M M' → (gpF (hpH M v) (wyH M) (M' 1 6) b c ne) = -1000000 → Q (some (.int (-1000000002))) (put M' 9 2 (M' 9 2 + 1))) (hok : ((0 ≤ a ∧ a < M 1 2 ∧ a < 8) ∧ (0 ≤ w ∧ w < M 1 2 ∧ w < 8) ∧ ¬ a = w ∧ 0 ≤ v ∧ v ≤ 23) → ∀ b c, b < n → c < n → a = nI b → w = nI c → ∀ M', eqx scrH M M' → ¬ (gpF (hpH M v) (wyH M) (M' 1 6) b c ne) = -1000000 → Q (some (.int (gpF (hpH M v) (wyH M) (M' 1 6) b c ne))) M') : V cS g (d + 5) mX9_apart 0 [some (.ref 0), some (.int a), some (.int w), some (.int v), none] [] M Q := by
  have h8 := hV.2.1
  by_cases h : ((0 ≤ a ∧ a < M 1 2 ∧ a < 8) ∧ (0 ≤ w ∧ w < M 1 2 ∧ w < 8) ∧ ¬ a = w ∧ 0 ≤ v ∧ v ≤ 23)
  · have h12 := h.1.2.1
    have h22 := h.2.1.2.1
    rw [hV.1] at h12 h22
    obtain ⟨b, hb, rfl⟩ := nI_ex (n := n) (by omega) h.1.1 h12
    obtain ⟨c, hc, rfl⟩ := nI_ex (n := n) (by omega) h.2.1.1 h22
    refine V.aload_n dX9_apart_0 rfl (i := 0) rfl ?_
    refine V.iload_n dX9_apart_1 rfl (i := 1) rfl ?_
    refine V.invv (z := mX9_isBell) (As := [_]) dX9_apart_2 rfl mlRX9_118 okX9_isBell npX9_isBell rfl rfl rfl ⟨by decide, by decide⟩ (Nat.le_of_ble_eq_true rfl) rfl (Nat.le_of_ble_eq_true rfl) (c_isBell   ?_)
    show V cS g (d + 5) mX9_apart 5 [some (.ref 0), some (.int (nI b)), some (.int (nI c)), some (.int v), none] [.int (b2i (0 ≤ (nI b) ∧ (nI b) < M 1 2 ∧ (nI b) < 8))] (M) Q
    refine V.if_eq (tgt := 28) dX9_apart_5 (by decide) (fun q => absurd q ((fun z => b2i_0.mp z h.1))) (fun c5 => ?_)
    refine V.aload_n dX9_apart_8 rfl (i := 0) rfl ?_
    refine V.iload_n dX9_apart_9 rfl (i := 2) rfl ?_
    refine V.invv (z := mX9_isBell) (As := [_]) dX9_apart_10 rfl mlRX9_118 okX9_isBell npX9_isBell rfl rfl rfl ⟨by decide, by decide⟩ (Nat.le_of_ble_eq_true rfl) rfl (Nat.le_of_ble_eq_true rfl) (c_isBell   ?_)
    show V cS g (d + 5) mX9_apart 13 [some (.ref 0), some (.int (nI b)), some (.int (nI c)), some (.int v), none] [.int (b2i (0 ≤ (nI c) ∧ (nI c) < (M) 1 2 ∧ (nI c) < 8))] ((M)) Q
    refine V.if_eq (tgt := 28) dX9_apart_13 (by decide) (fun q => absurd q ((fun z => b2i_0.mp z h.2.1))) (fun c13 => ?_)
    refine V.iload_n dX9_apart_16 rfl (i := 1) rfl ?_
    refine V.iload_n dX9_apart_17 rfl (i := 2) rfl ?_
    refine V.ic_eq (tgt := 28) dX9_apart_18 (by decide) (fun q => absurd q ((h.2.2.1))) (fun c18 => ?_)
    refine V.iload_n dX9_apart_21 rfl (i := 3) rfl ?_
    refine V.invs (z := mX9_isHour) (As := [_]) dX9_apart_22 rfl mlRX9_138 okX9_isHour npX9_isHour rfl (Nat.le_of_ble_eq_true rfl) rfl (Nat.le_of_ble_eq_true rfl) (c_isHour   ?_)
    show V cS g (d + 5) mX9_apart 25 [some (.ref 0), some (.int (nI b)), some (.int (nI c)), some (.int v), none] [.int (b2i (0 ≤ v ∧ v ≤ 23))] (((M))) Q
    refine V.if_ne (tgt := 35) dX9_apart_25 (by decide) (fun c25 => ?_) (fun q => absurd q ((fun z => b2i_0.mp z h.2.2.2)))
    refine V.aload_n dX9_apart_35 rfl (i := 0) rfl ?_
    refine V.getR dX9_apart_36 rfl flRX9_31 rfl ⟨by decide, by decide⟩ ?_
    refine V.iload_n dX9_apart_39 rfl (i := 3) rfl ?_
    refine V.aload_n dX9_apart_40 rfl (i := 0) rfl ?_
    refine V.getR dX9_apart_41 rfl flRX9_12 rfl ⟨by decide, by decide⟩ ?_
    refine V.getI dX9_apart_44 rfl flRX9_94 rfl ⟨by decide, by decide⟩ ?_
    refine V.invv (z := mX1_listen) (As := [_, _]) dX9_apart_47 rfl mlRX9_195 okX1_listen npX1_listen rfl rfl rfl ⟨by decide, by decide⟩ (Nat.le_of_ble_eq_true rfl) rfl (Nat.le_of_ble_eq_true rfl) (c_listen hV (fun M1 hM1 hH1 => ?_))
    show V cS g (d + 5) mX9_apart 50 [some (.ref 0), some (.int (nI b)), some (.int (nI c)), some (.int v), none] [] M1 Q
    refine V.aload_n dX9_apart_50 rfl (i := 0) rfl ?_
    refine V.getR dX9_apart_51 rfl flRX9_31 rfl ⟨by decide, by decide⟩ ?_
    refine V.iload_n dX9_apart_54 rfl (i := 1) rfl ?_
    refine V.iload_n dX9_apart_55 rfl (i := 2) rfl ?_
    refine V.invv (z := mX1_gap) (As := [_, _]) dX9_apart_56 rfl mlRX9_244 okX1_gap npX1_gap rfl rfl rfl ⟨by decide, by decide⟩ (Nat.le_of_ble_eq_true rfl) rfl (Nat.le_of_ble_eq_true rfl) (c_gap (hV.eq hM1 (by decide) (by decide) (by decide) (fun b hb => by simp; omega)).cn hH1 hb hc ?_)
    show V cS g (d + 5) mX9_apart 59 [some (.ref 0), some (.int (nI b)), some (.int (nI c)), some (.int v), none] [.int (gpF (hpH M v) (wyH M) (M1 1 6) b c ne)] M1 Q
    refine V.istore dX9_apart_59 (i := 4) (by decide) (fun _ h => by cases h; exact Or.inl rfl) rfl ?_
    refine V.iload dX9_apart_61 rfl ?_
    refine V.ldc dX9_apart_63 rfl ctRX9_247 ?_
    refine V.ic_ne (tgt := 77) dX9_apart_65 (by decide) (fun c65 => ?_) (fun c65 => ?_)
    · refine V.iload dX9_apart_77 rfl ?_
      exact V.ret dX9_apart_79 rfl (by first | exact hnone h b c hb hc rfl rfl M1 hM1 c65 | exact hnone h b c hb hc rfl rfl M1 hM1 (Classical.byContradiction c65) | exact hok h b c hb hc rfl rfl M1 hM1 c65)
    · refine V.aload_n dX9_apart_68 rfl (i := 0) rfl ?_
      refine V.ldc dX9_apart_69 rfl ctRX9_157 ?_
      refine V.invv (z := mX9_error) (As := [_]) dX9_apart_71 rfl mlRX9_82 okX9_error npX9_error rfl rfl rfl ⟨by decide, by decide⟩ (Nat.le_of_ble_eq_true rfl) rfl (Nat.le_of_ble_eq_true rfl) (c_err2   ?_)
      show V cS g (d + 5) mX9_apart 74 [some (.ref 0), some (.int (nI b)), some (.int (nI c)), some (.int v), some (.int (gpF (hpH M v) (wyH M) (M1 1 6) b c ne))] [.int (-1000000002 : Int32)] (put M1 9 2 (M1 9 2 + 1)) Q
      refine V.goto dX9_apart_74 (tgt := 79) (by decide) ?_
      exact V.ret dX9_apart_79 rfl (by first | exact hnone h b c hb hc rfl rfl M1 hM1 c65 | exact hnone h b c hb hc rfl rfl M1 hM1 (Classical.byContradiction c65) | exact hok h b c hb hc rfl rfl M1 hM1 c65)
  · skip
    refine V.aload_n dX9_apart_0 rfl (i := 0) rfl ?_
    refine V.iload_n dX9_apart_1 rfl (i := 1) rfl ?_
    refine V.invv (z := mX9_isBell) (As := [_]) dX9_apart_2 rfl mlRX9_118 okX9_isBell npX9_isBell rfl rfl rfl ⟨by decide, by decide⟩ (Nat.le_of_ble_eq_true rfl) rfl (Nat.le_of_ble_eq_true rfl) (c_isBell   ?_)
    show V cS g (d + 5) mX9_apart 5 [some (.ref 0), some (.int a), some (.int w), some (.int v), none] [.int (b2i (0 ≤ a ∧ a < M 1 2 ∧ a < 8))] (M) Q
    refine V.if_eq (tgt := 28) dX9_apart_5 (by decide) (fun c5 => ?_) (fun c5 => ?_)
    · refine V.aload_n dX9_apart_28 rfl (i := 0) rfl ?_
      refine V.ldc dX9_apart_29 rfl ctRX9_81 ?_
      refine V.invv (z := mX9_error) (As := [_]) dX9_apart_31 rfl mlRX9_82 okX9_error npX9_error rfl rfl rfl ⟨by decide, by decide⟩ (Nat.le_of_ble_eq_true rfl) rfl (Nat.le_of_ble_eq_true rfl) (c_err1   ?_)
      show V cS g (d + 5) mX9_apart 34 [some (.ref 0), some (.int a), some (.int w), some (.int v), none] [.int (-1000000001 : Int32)] (put (M) 9 1 ((M) 9 1 + 1)) Q
      exact V.ret dX9_apart_34 rfl (hbad h)
    · refine V.aload_n dX9_apart_8 rfl (i := 0) rfl ?_
      refine V.iload_n dX9_apart_9 rfl (i := 2) rfl ?_
      refine V.invv (z := mX9_isBell) (As := [_]) dX9_apart_10 rfl mlRX9_118 okX9_isBell npX9_isBell rfl rfl rfl ⟨by decide, by decide⟩ (Nat.le_of_ble_eq_true rfl) rfl (Nat.le_of_ble_eq_true rfl) (c_isBell   ?_)
      show V cS g (d + 5) mX9_apart 13 [some (.ref 0), some (.int a), some (.int w), some (.int v), none] [.int (b2i (0 ≤ w ∧ w < (M) 1 2 ∧ w < 8))] ((M)) Q
      refine V.if_eq (tgt := 28) dX9_apart_13 (by decide) (fun c13 => ?_) (fun c13 => ?_)
      · refine V.aload_n dX9_apart_28 rfl (i := 0) rfl ?_
        refine V.ldc dX9_apart_29 rfl ctRX9_81 ?_
        refine V.invv (z := mX9_error) (As := [_]) dX9_apart_31 rfl mlRX9_82 okX9_error npX9_error rfl rfl rfl ⟨by decide, by decide⟩ (Nat.le_of_ble_eq_true rfl) rfl (Nat.le_of_ble_eq_true rfl) (c_err1   ?_)
        show V cS g (d + 5) mX9_apart 34 [some (.ref 0), some (.int a), some (.int w), some (.int v), none] [.int (-1000000001 : Int32)] (put ((M)) 9 1 (((M)) 9 1 + 1)) Q
        exact V.ret dX9_apart_34 rfl (hbad h)
      · refine V.iload_n dX9_apart_16 rfl (i := 1) rfl ?_
        refine V.iload_n dX9_apart_17 rfl (i := 2) rfl ?_
        refine V.ic_eq (tgt := 28) dX9_apart_18 (by decide) (fun c18 => ?_) (fun c18 => ?_)
        · refine V.aload_n dX9_apart_28 rfl (i := 0) rfl ?_
          refine V.ldc dX9_apart_29 rfl ctRX9_81 ?_
          refine V.invv (z := mX9_error) (As := [_]) dX9_apart_31 rfl mlRX9_82 okX9_error npX9_error rfl rfl rfl ⟨by decide, by decide⟩ (Nat.le_of_ble_eq_true rfl) rfl (Nat.le_of_ble_eq_true rfl) (c_err1   ?_)
          show V cS g (d + 5) mX9_apart 34 [some (.ref 0), some (.int a), some (.int w), some (.int v), none] [.int (-1000000001 : Int32)] (put ((M)) 9 1 (((M)) 9 1 + 1)) Q
          exact V.ret dX9_apart_34 rfl (hbad h)
        · refine V.iload_n dX9_apart_21 rfl (i := 3) rfl ?_
          refine V.invs (z := mX9_isHour) (As := [_]) dX9_apart_22 rfl mlRX9_138 okX9_isHour npX9_isHour rfl (Nat.le_of_ble_eq_true rfl) rfl (Nat.le_of_ble_eq_true rfl) (c_isHour   ?_)
          show V cS g (d + 5) mX9_apart 25 [some (.ref 0), some (.int a), some (.int w), some (.int v), none] [.int (b2i (0 ≤ v ∧ v ≤ 23))] (((M))) Q
          refine V.if_ne (tgt := 35) dX9_apart_25 (by decide) (fun c25 => ?_) (fun c25 => ?_)
          · exact absurd ⟨(Classical.byContradiction fun z => c5 (b2i_f z)), (Classical.byContradiction fun z => c13 (b2i_f z)), c18, (Classical.byContradiction fun z => c25 (b2i_f z))⟩ h
          · refine V.aload_n dX9_apart_28 rfl (i := 0) rfl ?_
            refine V.ldc dX9_apart_29 rfl ctRX9_81 ?_
            refine V.invv (z := mX9_error) (As := [_]) dX9_apart_31 rfl mlRX9_82 okX9_error npX9_error rfl rfl rfl ⟨by decide, by decide⟩ (Nat.le_of_ble_eq_true rfl) rfl (Nat.le_of_ble_eq_true rfl) (c_err1   ?_)
            show V cS g (d + 5) mX9_apart 34 [some (.ref 0), some (.int a), some (.int w), some (.int v), none] [.int (-1000000001 : Int32)] (put (((M))) 9 1 ((((M))) 9 1 + 1)) Q
            exact V.ret dX9_apart_34 rfl (hbad h)
set_option maxHeartbeats 4000000 in
set_option maxRecDepth 100000 in
theorem c9_quiet {g : GG} {d : Nat} {M : Mem} {Q : Option Value → Mem → Prop} {a : Int32} {n ne : Nat} (hV : VB M n ne) (hbad : ¬ (0 ≤ a ∧ a ≤ 1) → Q (some (.int (-1000000001))) (put M 9 1 (M 9 1 + 1))) (hok : (0 ≤ a ∧ a ≤ 1) → ∀ M', eqx scrQ M M' → Q (some (.int (if a = 0 then nI (argm (hqA (fun b h => strk (M (30 + b) 0) (M (30 + b) 1) (M (30 + b) 6) (nI h)) (fun a b => nI (cB (cl2 (hpF M (fun _ => true) (M 1 5)) (wyF M (M 1 5)) (M 1 6) (fun b => M (30 + b) 4) a b) ne)) n n 0 (fun _ => 0)) 23) else (hqA (fun b h => strk (M (30 + b) 0) (M (30 + b) 1) (M (30 + b) 6) (nI h)) (fun a b => nI (cB (cl2 (hpF M (fun _ => true) (M 1 5)) (wyF M (M 1 5)) (M 1 6) (fun b => M (30 + b) 4) a b) ne)) n n 0 (fun _ => 0)) (argm (hqA (fun b h => strk (M (30 + b) 0) (M (30 + b) 1) (M (30 + b) 6) (nI h)) (fun a b => nI (cB (cl2 (hpF M (fun _ => true) (M 1 5)) (wyF M (M 1 5)) (M 1 6) (fun b => M (30 + b) 4) a b) ne)) n n 0 (fun _ => 0)) 23)))) M') : V cS g (d + 5) mX9_quiet 0 [some (.ref 0), some (.int a), none] [] M Q := by
  have h8 := hV.2.1
  have ha23 := argm_le (hqA (fun b h => strk (M (30 + b) 0) (M (30 + b) 1) (M (30 + b) 6) (nI h)) (fun a b => nI (cB (cl2 (hpF M (fun _ => true) (M 1 5)) (wyF M (M 1 5)) (M 1 6) (fun b => M (30 + b) 4) a b) ne)) n n 0 (fun _ => 0)) 23
  have ha24 : argm (hqA (fun b h => strk (M (30 + b) 0) (M (30 + b) 1) (M (30 + b) 6) (nI h)) (fun a b => nI (cB (cl2 (hpF M (fun _ => true) (M 1 5)) (wyF M (M 1 5)) (M 1 6) (fun b => M (30 + b) 4) a b) ne)) n n 0 (fun _ => 0)) 23 < 24 := by omega
  by_cases h : (0 ≤ a ∧ a ≤ 1)
  · skip
    refine V.iload_n dX9_quiet_0 rfl (i := 1) rfl ?_
    refine V.invs (z := mX9_isEither) (As := [_]) dX9_quiet_1 rfl mlRX9_225 okX9_isEither npX9_isEither rfl (Nat.le_of_ble_eq_true rfl) rfl (Nat.le_of_ble_eq_true rfl) (c_isEither   ?_)
    show V cS g (d + 5) mX9_quiet 4 [some (.ref 0), some (.int a), none] [.int (b2i (0 ≤ a ∧ a ≤ 1))] (M) Q
    refine V.if_ne (tgt := 14) dX9_quiet_4 (by decide) (fun c4 => ?_) (fun q => absurd q ((fun z => b2i_0.mp z h)))
    refine V.aload_n dX9_quiet_14 rfl (i := 0) rfl ?_
    refine V.getR dX9_quiet_15 rfl flRX9_31 rfl ⟨by decide, by decide⟩ ?_
    refine V.invv (z := mX1_quietestHour) (As := []) dX9_quiet_18 rfl mlRX9_238 okX1_quietestHour npX1_quietestHour rfl rfl rfl ⟨by decide, by decide⟩ (Nat.le_of_ble_eq_true rfl) rfl (Nat.le_of_ble_eq_true rfl) (c_quiet hV (fun M1 hM1 h54 => ?_))
    show V cS g (d + 5) mX9_quiet 21 [some (.ref 0), some (.int a), none] [.int (nI (argm (hqA (fun b h => strk (M (30 + b) 0) (M (30 + b) 1) (M (30 + b) 6) (nI h)) (fun a b => nI (cB (cl2 (hpF M (fun _ => true) (M 1 5)) (wyF M (M 1 5)) (M 1 6) (fun b => M (30 + b) 4) a b) ne)) n n 0 (fun _ => 0)) 23))] M1 Q
    refine V.istore_n dX9_quiet_21 rfl (i := 2) (by decide) (fun _ h => by cases h; exact Or.inl rfl) rfl ?_
    refine V.iload_n dX9_quiet_22 rfl (i := 1) rfl ?_
    refine V.if_ne (tgt := 30) dX9_quiet_23 (by decide) (fun c23 => ?_) (fun c23 => ?_)
    · refine V.aload_n dX9_quiet_30 rfl (i := 0) rfl ?_
      refine V.getR dX9_quiet_31 rfl flRX9_31 rfl ⟨by decide, by decide⟩ ?_
      refine V.iload_n dX9_quiet_34 rfl (i := 2) rfl ?_
      refine V.invv (z := mX1_clashCountAt) (As := [_]) dX9_quiet_35 rfl mlRX9_241 okX1_clashCountAt npX1_clashCountAt rfl rfl rfl ⟨by decide, by decide⟩ (Nat.le_of_ble_eq_true rfl) rfl (Nat.le_of_ble_eq_true rfl) (c_ccAt ha24 ?_)
      show V cS g (d + 5) mX9_quiet 38 [some (.ref 0), some (.int a), some (.int (nI (argm (hqA (fun b h => strk (M (30 + b) 0) (M (30 + b) 1) (M (30 + b) 6) (nI h)) (fun a b => nI (cB (cl2 (hpF M (fun _ => true) (M 1 5)) (wyF M (M 1 5)) (M 1 6) (fun b => M (30 + b) 4) a b) ne)) n n 0 (fun _ => 0)) 23)))] [.int (M1 54 (argm (hqA (fun b h => strk (M (30 + b) 0) (M (30 + b) 1) (M (30 + b) 6) (nI h)) (fun a b => nI (cB (cl2 (hpF M (fun _ => true) (M 1 5)) (wyF M (M 1 5)) (M 1 6) (fun b => M (30 + b) 4) a b) ne)) n n 0 (fun _ => 0)) 23))] M1 Q
      exact V.ret dX9_quiet_38 rfl (Qi (hok h M1 hM1) (by first | rw [if_pos c23] | rw [if_neg c23, h54 _ ha24]))
    · refine V.iload_n dX9_quiet_26 rfl (i := 2) rfl ?_
      refine V.goto dX9_quiet_27 (tgt := 38) (by decide) ?_
      exact V.ret dX9_quiet_38 rfl (Qi (hok h M1 hM1) (by first | rw [if_pos c23] | rw [if_neg c23, h54 _ ha24]))
  · skip
    refine V.iload_n dX9_quiet_0 rfl (i := 1) rfl ?_
    refine V.invs (z := mX9_isEither) (As := [_]) dX9_quiet_1 rfl mlRX9_225 okX9_isEither npX9_isEither rfl (Nat.le_of_ble_eq_true rfl) rfl (Nat.le_of_ble_eq_true rfl) (c_isEither   ?_)
    show V cS g (d + 5) mX9_quiet 4 [some (.ref 0), some (.int a), none] [.int (b2i (0 ≤ a ∧ a ≤ 1))] (M) Q
    refine V.if_ne (tgt := 14) dX9_quiet_4 (by decide) (fun c4 => ?_) (fun c4 => ?_)
    · exact absurd (Classical.byContradiction fun z => c4 (b2i_f z)) h
    · refine V.aload_n dX9_quiet_7 rfl (i := 0) rfl ?_
      refine V.ldc dX9_quiet_8 rfl ctRX9_81 ?_
      refine V.invv (z := mX9_error) (As := [_]) dX9_quiet_10 rfl mlRX9_82 okX9_error npX9_error rfl rfl rfl ⟨by decide, by decide⟩ (Nat.le_of_ble_eq_true rfl) rfl (Nat.le_of_ble_eq_true rfl) (c_err1   ?_)
      show V cS g (d + 5) mX9_quiet 13 [some (.ref 0), some (.int a), none] [.int (-1000000001 : Int32)] (put (M) 9 1 ((M) 9 1 + 1)) Q
      exact V.ret dX9_quiet_13 rfl (hbad h)
set_option maxHeartbeats 4000000 in
set_option maxRecDepth 100000 in
theorem c9_silence {g : GG} {d : Nat} {M : Mem} {Q : Option Value → Mem → Prop} {a w : Int32} {n ne : Nat} (hV : VB M n ne) (hbad : ¬ ((0 ≤ a ∧ a ≤ 23) ∧ 0 ≤ w ∧ w ≤ 1) → Q (some (.int (-1000000001))) (put M 9 1 (M 9 1 + 1))) (hok : ((0 ≤ a ∧ a ≤ 23) ∧ 0 ≤ w ∧ w ≤ 1) → ∀ M1 M', eqx scrH M M1 → eqx [57] M1 M' → Q (some (.int (if w = 0 then nI (csD (fun s => rkF M1 n (nI s)) (fun s => !anB (stB (fun x => bI (enP (hpH M a) (wyH M) (M1 1 6) (fun b => M1 (30 + b) 4) ne x) n) (nI s)) n) (2 ^ n) (2 ^ n - 1)) else rkF M' n (nI (csD (fun s => rkF M1 n (nI s)) (fun s => !anB (stB (fun x => bI (enP (hpH M a) (wyH M) (M1 1 6) (fun b => M1 (30 + b) 4) ne x) n) (nI s)) n) (2 ^ n) (2 ^ n - 1)))))) M') : V cS g (d + 5) mX9_silence 0 [some (.ref 0), some (.int a), some (.int w), none] [] M Q := by
  have h8 := hV.2.1
  by_cases h : ((0 ≤ a ∧ a ≤ 23) ∧ 0 ≤ w ∧ w ≤ 1)
  · skip
    refine V.iload_n dX9_silence_0 rfl (i := 1) rfl ?_
    refine V.invs (z := mX9_isHour) (As := [_]) dX9_silence_1 rfl mlRX9_138 okX9_isHour npX9_isHour rfl (Nat.le_of_ble_eq_true rfl) rfl (Nat.le_of_ble_eq_true rfl) (c_isHour   ?_)
    show V cS g (d + 5) mX9_silence 4 [some (.ref 0), some (.int a), some (.int w), none] [.int (b2i (0 ≤ a ∧ a ≤ 23))] (M) Q
    refine V.if_eq (tgt := 14) dX9_silence_4 (by decide) (fun q => absurd q ((fun z => b2i_0.mp z h.1))) (fun c4 => ?_)
    refine V.iload_n dX9_silence_7 rfl (i := 2) rfl ?_
    refine V.invs (z := mX9_isEither) (As := [_]) dX9_silence_8 rfl mlRX9_225 okX9_isEither npX9_isEither rfl (Nat.le_of_ble_eq_true rfl) rfl (Nat.le_of_ble_eq_true rfl) (c_isEither   ?_)
    show V cS g (d + 5) mX9_silence 11 [some (.ref 0), some (.int a), some (.int w), none] [.int (b2i (0 ≤ w ∧ w ≤ 1))] ((M)) Q
    refine V.if_ne (tgt := 21) dX9_silence_11 (by decide) (fun c11 => ?_) (fun q => absurd q ((fun z => b2i_0.mp z h.2)))
    refine V.aload_n dX9_silence_21 rfl (i := 0) rfl ?_
    refine V.getR dX9_silence_22 rfl flRX9_31 rfl ⟨by decide, by decide⟩ ?_
    refine V.iload_n dX9_silence_25 rfl (i := 1) rfl ?_
    refine V.aload_n dX9_silence_26 rfl (i := 0) rfl ?_
    refine V.getR dX9_silence_27 rfl flRX9_12 rfl ⟨by decide, by decide⟩ ?_
    refine V.getI dX9_silence_30 rfl flRX9_94 rfl ⟨by decide, by decide⟩ ?_
    refine V.invv (z := mX1_listen) (As := [_, _]) dX9_silence_33 rfl mlRX9_195 okX1_listen npX1_listen rfl rfl rfl ⟨by decide, by decide⟩ (Nat.le_of_ble_eq_true rfl) rfl (Nat.le_of_ble_eq_true rfl) (c_listen hV (fun M1 hM1 hH1 => ?_))
    show V cS g (d + 5) mX9_silence 36 [some (.ref 0), some (.int a), some (.int w), none] [] M1 Q
    refine V.aload_n dX9_silence_36 rfl (i := 0) rfl ?_
    refine V.getR dX9_silence_37 rfl flRX9_47 rfl ⟨by decide, by decide⟩ ?_
    refine V.invv (z := mX6_cheapestSilence) (As := []) dX9_silence_40 rfl mlRX9_267 okX6_cheapestSilence npX6_cheapestSilence rfl rfl rfl ⟨by decide, by decide⟩ (Nat.le_of_ble_eq_true rfl) rfl (Nat.le_of_ble_eq_true rfl) (c_cs (hV.eq hM1 (by decide) (by decide) (by decide) (fun b hb => by simp; omega)).cn hH1 (fun M2 hM2 => ?_))
    show V cS g (d + 5) mX9_silence 43 [some (.ref 0), some (.int a), some (.int w), none] [.int (nI (csD (fun s => rkF M1 n (nI s)) (fun s => !anB (stB (fun x => bI (enP (hpH M a) (wyH M) (M1 1 6) (fun b => M1 (30 + b) 4) ne x) n) (nI s)) n) (2 ^ n) (2 ^ n - 1)))] M2 Q
    refine V.istore_n dX9_silence_43 rfl (i := 3) (by decide) (fun _ h => by cases h; exact Or.inl rfl) rfl ?_
    refine V.iload_n dX9_silence_44 rfl (i := 2) rfl ?_
    refine V.if_ne (tgt := 52) dX9_silence_45 (by decide) (fun c45 => ?_) (fun c45 => ?_)
    · refine V.aload_n dX9_silence_52 rfl (i := 0) rfl ?_
      refine V.getR dX9_silence_53 rfl flRX9_12 rfl ⟨by decide, by decide⟩ ?_
      refine V.iload_n dX9_silence_56 rfl (i := 3) rfl ?_
      refine V.invv (z := mX7_ranksOf) (As := [_]) dX9_silence_57 rfl mlRX9_270 okX7_ranksOf npX7_ranksOf rfl rfl rfl ⟨by decide, by decide⟩ (Nat.le_of_ble_eq_true rfl) rfl (Nat.le_of_ble_eq_true rfl) (c_ranksOf (by rw [hM2 1 (by decide), hM1 1 (by decide)]; exact hV.1) h8 ?_)
      show V cS g (d + 5) mX9_silence 60 [some (.ref 0), some (.int a), some (.int w), some (.int (nI (csD (fun s => rkF M1 n (nI s)) (fun s => !anB (stB (fun x => bI (enP (hpH M a) (wyH M) (M1 1 6) (fun b => M1 (30 + b) 4) ne x) n) (nI s)) n) (2 ^ n) (2 ^ n - 1))))] [.int (rkF M2 n (nI (csD (fun s => rkF M1 n (nI s)) (fun s => !anB (stB (fun x => bI (enP (hpH M a) (wyH M) (M1 1 6) (fun b => M1 (30 + b) 4) ne x) n) (nI s)) n) (2 ^ n) (2 ^ n - 1))))] M2 Q
      exact V.ret dX9_silence_60 rfl (Qi (hok h M1 M2 hM1 hM2) (by first | rw [if_pos c45] | rw [if_neg c45]))
    · refine V.iload_n dX9_silence_48 rfl (i := 3) rfl ?_
      refine V.goto dX9_silence_49 (tgt := 60) (by decide) ?_
      exact V.ret dX9_silence_60 rfl (Qi (hok h M1 M2 hM1 hM2) (by first | rw [if_pos c45] | rw [if_neg c45]))
  · skip
    refine V.iload_n dX9_silence_0 rfl (i := 1) rfl ?_
    refine V.invs (z := mX9_isHour) (As := [_]) dX9_silence_1 rfl mlRX9_138 okX9_isHour npX9_isHour rfl (Nat.le_of_ble_eq_true rfl) rfl (Nat.le_of_ble_eq_true rfl) (c_isHour   ?_)
    show V cS g (d + 5) mX9_silence 4 [some (.ref 0), some (.int a), some (.int w), none] [.int (b2i (0 ≤ a ∧ a ≤ 23))] (M) Q
    refine V.if_eq (tgt := 14) dX9_silence_4 (by decide) (fun c4 => ?_) (fun c4 => ?_)
    · refine V.aload_n dX9_silence_14 rfl (i := 0) rfl ?_
      refine V.ldc dX9_silence_15 rfl ctRX9_81 ?_
      refine V.invv (z := mX9_error) (As := [_]) dX9_silence_17 rfl mlRX9_82 okX9_error npX9_error rfl rfl rfl ⟨by decide, by decide⟩ (Nat.le_of_ble_eq_true rfl) rfl (Nat.le_of_ble_eq_true rfl) (c_err1   ?_)
      show V cS g (d + 5) mX9_silence 20 [some (.ref 0), some (.int a), some (.int w), none] [.int (-1000000001 : Int32)] (put (M) 9 1 ((M) 9 1 + 1)) Q
      exact V.ret dX9_silence_20 rfl (hbad h)
    · refine V.iload_n dX9_silence_7 rfl (i := 2) rfl ?_
      refine V.invs (z := mX9_isEither) (As := [_]) dX9_silence_8 rfl mlRX9_225 okX9_isEither npX9_isEither rfl (Nat.le_of_ble_eq_true rfl) rfl (Nat.le_of_ble_eq_true rfl) (c_isEither   ?_)
      show V cS g (d + 5) mX9_silence 11 [some (.ref 0), some (.int a), some (.int w), none] [.int (b2i (0 ≤ w ∧ w ≤ 1))] ((M)) Q
      refine V.if_ne (tgt := 21) dX9_silence_11 (by decide) (fun c11 => ?_) (fun c11 => ?_)
      · exact absurd ⟨(Classical.byContradiction fun z => c4 (b2i_f z)), (Classical.byContradiction fun z => c11 (b2i_f z))⟩ h
      · refine V.aload_n dX9_silence_14 rfl (i := 0) rfl ?_
        refine V.ldc dX9_silence_15 rfl ctRX9_81 ?_
        refine V.invv (z := mX9_error) (As := [_]) dX9_silence_17 rfl mlRX9_82 okX9_error npX9_error rfl rfl rfl ⟨by decide, by decide⟩ (Nat.le_of_ble_eq_true rfl) rfl (Nat.le_of_ble_eq_true rfl) (c_err1   ?_)
        show V cS g (d + 5) mX9_silence 20 [some (.ref 0), some (.int a), some (.int w), none] [.int (-1000000001 : Int32)] (put ((M)) 9 1 (((M)) 9 1 + 1)) Q
        exact V.ret dX9_silence_20 rfl (hbad h)

