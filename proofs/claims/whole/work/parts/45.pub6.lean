/-! ===== public methods: slate, bell ===== -/
set_option maxHeartbeats 4000000 in
set_option maxRecDepth 100000 in
theorem c9_slate {g : GG} {d : Nat} {M : Mem} {Q : Option Value → Mem → Prop} {a w v : Int32} {n ne : Nat} (hV : VB M n ne) (hbad : ¬ ((0 ≤ a ∧ a < M 1 2 ∧ a < 8) ∧ (0 ≤ w ∧ w ≤ 23) ∧ 0 ≤ v ∧ v ≤ 1) → Q (some (.int (-1000000001))) (put M 9 1 (M 9 1 + 1))) (hst : ((0 ≤ a ∧ a < M 1 2 ∧ a < 8) ∧ (0 ≤ w ∧ w ≤ 23) ∧ 0 ≤ v ∧ v ≤ 1) → ∀ b, b < n → a = nI b → strk (M (30 + b) 0) (M (30 + b) 1) (M (30 + b) 6) w = false → Q (some (.int (-1000000003))) (put M 9 3 (M 9 3 + 1))) (hnone : ((0 ≤ a ∧ a < M 1 2 ∧ a < 8) ∧ (0 ≤ w ∧ w ≤ 23) ∧ 0 ≤ v ∧ v ≤ 1) → ∀ b, b < n → a = nI b → strk (M (30 + b) 0) (M (30 + b) 1) (M (30 + b) 6) w = true → ∀ M1 M2, eqx (5 :: 55 :: scrH) M M1 → eqx [56] M1 M2 → M 1 7 < (lbF (loT (geC (fun a' b' => gpF (hpH M w) (wyH M) (M1 1 6) a' b' ne)) (fun a' b' => gpF (hpH M w) (wyH M) (M1 1 6) a' b' ne) (fun x => M1 (30 + x) 4) (odN M w n) (M 1 7) (odM M w n)) (fun x => M2 (30 + x) 4) (odN M w n) (odM M w n)) → Q (some (.int (-1000000002))) (put M2 9 2 (M2 9 2 + 1))) (hok0 : ((0 ≤ a ∧ a < M 1 2 ∧ a < 8) ∧ (0 ≤ w ∧ w ≤ 23) ∧ 0 ≤ v ∧ v ≤ 1) → ∀ b, b < n → a = nI b → strk (M (30 + b) 0) (M (30 + b) 1) (M (30 + b) 6) w = true → ¬ v = 1 → ∀ M1 M2, eqx (5 :: 55 :: scrH) M M1 → eqx [56] M1 M2 → ¬ M 1 7 < (lbF (loT (geC (fun a' b' => gpF (hpH M w) (wyH M) (M1 1 6) a' b' ne)) (fun a' b' => gpF (hpH M w) (wyH M) (M1 1 6) a' b' ne) (fun x => M1 (30 + x) 4) (odN M w n) (M 1 7) (odM M w n)) (fun x => M2 (30 + x) 4) (odN M w n) (odM M w n)) → (∀ i, i < (odM M w n) → M2 56 ((odN M w n) i) = (loT (geC (fun a' b' => gpF (hpH M w) (wyH M) (M1 1 6) a' b' ne)) (fun a' b' => gpF (hpH M w) (wyH M) (M1 1 6) a' b' ne) (fun x => M1 (30 + x) 4) (odN M w n) (M 1 7) (odM M w n)) i) → Q (some (.int (M2 56 b))) M2) (hok1 : ((0 ≤ a ∧ a < M 1 2 ∧ a < 8) ∧ (0 ≤ w ∧ w ≤ 23) ∧ 0 ≤ v ∧ v ≤ 1) → ∀ b, b < n → a = nI b → strk (M (30 + b) 0) (M (30 + b) 1) (M (30 + b) 6) w = true → v = 1 → ∀ M1 M2, eqx (5 :: 55 :: scrH) M M1 → eqx [56] M1 M2 → ∀ M3, eqx [56] M2 M3 → ¬ M 1 7 < (lbF (loT (geC (fun a' b' => gpF (hpH M w) (wyH M) (M1 1 6) a' b' ne)) (fun a' b' => gpF (hpH M w) (wyH M) (M1 1 6) a' b' ne) (fun x => M1 (30 + x) 4) (odN M w n) (M 1 7) (odM M w n)) (fun x => M2 (30 + x) 4) (odN M w n) (odM M w n)) → (∀ i, i < (odM M w n) → M3 56 ((odN M w n) i) = (hiT (geC (fun a' b' => gpF (hpH M w) (wyH M) (M2 1 6) a' b' ne)) (fun a' b' => gpF (hpH M w) (wyH M) (M2 1 6) a' b' ne) (fun x => M2 (30 + x) 4) (odN M w n) (M 1 7) (odM M w n) (odM M w n)) i) → Q (some (.int (M3 56 b))) M3) : V cS g (d + 6) mX9_slate 0 [some (.ref 0), some (.int a), some (.int w), some (.int v)] [] M Q := by
  have h8 := hV.2.1
  by_cases h : ((0 ≤ a ∧ a < M 1 2 ∧ a < 8) ∧ (0 ≤ w ∧ w ≤ 23) ∧ 0 ≤ v ∧ v ≤ 1)
  · have h12 := h.1.2.1
    rw [hV.1] at h12
    obtain ⟨b, hb, rfl⟩ := nI_ex (n := n) (by omega) h.1.1 h12
    have hb8 : b < 8 := by omega
    refine V.aload_n dX9_slate_0 rfl (i := 0) rfl ?_
    refine V.iload_n dX9_slate_1 rfl (i := 1) rfl ?_
    refine V.invv (z := mX9_isBell) (As := [_]) dX9_slate_2 rfl mlRX9_118 okX9_isBell npX9_isBell rfl rfl rfl ⟨by decide, by decide⟩ (Nat.le_of_ble_eq_true rfl) rfl (Nat.le_of_ble_eq_true rfl) (c_isBell   ?_)
    show V cS g (d + 6) mX9_slate 5 [some (.ref 0), some (.int (nI b)), some (.int w), some (.int v)] [.int (b2i (0 ≤ (nI b) ∧ (nI b) < M 1 2 ∧ (nI b) < 8))] (M) Q
    refine V.if_eq (tgt := 22) dX9_slate_5 (by decide) (fun q => absurd q ((fun z => b2i_0.mp z h.1))) (fun c5 => ?_)
    refine V.iload_n dX9_slate_8 rfl (i := 2) rfl ?_
    refine V.invs (z := mX9_isHour) (As := [_]) dX9_slate_9 rfl mlRX9_138 okX9_isHour npX9_isHour rfl (Nat.le_of_ble_eq_true rfl) rfl (Nat.le_of_ble_eq_true rfl) (c_isHour   ?_)
    show V cS g (d + 6) mX9_slate 12 [some (.ref 0), some (.int (nI b)), some (.int w), some (.int v)] [.int (b2i (0 ≤ w ∧ w ≤ 23))] ((M)) Q
    refine V.if_eq (tgt := 22) dX9_slate_12 (by decide) (fun q => absurd q ((fun z => b2i_0.mp z h.2.1))) (fun c12 => ?_)
    refine V.iload_n dX9_slate_15 rfl (i := 3) rfl ?_
    refine V.invs (z := mX9_isEither) (As := [_]) dX9_slate_16 rfl mlRX9_225 okX9_isEither npX9_isEither rfl (Nat.le_of_ble_eq_true rfl) rfl (Nat.le_of_ble_eq_true rfl) (c_isEither   ?_)
    show V cS g (d + 6) mX9_slate 19 [some (.ref 0), some (.int (nI b)), some (.int w), some (.int v)] [.int (b2i (0 ≤ v ∧ v ≤ 1))] (((M))) Q
    refine V.if_ne (tgt := 29) dX9_slate_19 (by decide) (fun c19 => ?_) (fun q => absurd q ((fun z => b2i_0.mp z h.2.2)))
    refine V.aload_n dX9_slate_29 rfl (i := 0) rfl ?_
    refine V.getR dX9_slate_30 rfl flRX9_12 rfl ⟨by decide, by decide⟩ ?_
    refine V.getR dX9_slate_33 rfl flRX9_108 rfl ⟨by decide, by decide⟩ ?_
    refine V.iload_n dX9_slate_36 rfl (i := 1) rfl ?_
    refine V.aaldBN dX9_slate_37 rfl ⟨by decide, by decide⟩ (by first | assumption | decide | omega) (by decide) ?_
    refine V.iload_n dX9_slate_38 rfl (i := 2) rfl ?_
    refine V.invv (z := mX0_ringsAt) (As := [_]) dX9_slate_39 rfl mlRX9_141 okX0_ringsAt npX0_ringsAt rfl (layO30 (by first | assumption | decide | omega)) rfl (inB30 (by first | assumption | decide | omega)) (Nat.le_of_ble_eq_true rfl) rfl (Nat.le_of_ble_eq_true rfl) (c_ringsAt  (by first | assumption | decide | omega) ?_)
    show V cS g (d + 6) mX9_slate 42 [some (.ref 0), some (.int (nI b)), some (.int w), some (.int v)] [.int (b2i (strk ((((M))) (30 + b) 0) ((((M))) (30 + b) 1) ((((M))) (30 + b) 6) w = true))] ((((M)))) Q
    refine V.if_ne (tgt := 52) dX9_slate_42 (by decide) (fun c42 => ?_) (fun c42 => ?_)
    · refine V.aload_n dX9_slate_52 rfl (i := 0) rfl ?_
      refine V.getR dX9_slate_53 rfl flRX9_40 rfl ⟨by decide, by decide⟩ ?_
      refine V.iload_n dX9_slate_56 rfl (i := 2) rfl ?_
      refine V.invv (z := mX5_lineUp) (As := [_]) dX9_slate_57 rfl mlRX9_249 okX5_lineUp npX5_lineUp rfl rfl rfl ⟨by decide, by decide⟩ (Nat.le_of_ble_eq_true rfl) rfl (Nat.le_of_ble_eq_true rfl) (c_lineUp hV (fun M1 hM1 hH1 h53 h55 => ?_))
      show V cS g (d + 6) mX9_slate 60 [some (.ref 0), some (.int (nI b)), some (.int w), some (.int v)] [] M1 Q
      refine V.aload_n dX9_slate_60 rfl (i := 0) rfl ?_
      refine V.getR dX9_slate_61 rfl flRX9_40 rfl ⟨by decide, by decide⟩ ?_
      refine V.aload_n dX9_slate_64 rfl (i := 0) rfl ?_
      refine V.getR dX9_slate_65 rfl flRX9_12 rfl ⟨by decide, by decide⟩ ?_
      refine V.getI dX9_slate_68 rfl flRX9_101 rfl ⟨by decide, by decide⟩ ?_
      refine V.top (x' := (M 1 7)) ((by rw [hM1 1 (by decide)])) ?_
      refine V.invv (z := mX5_goEarly) (As := [_]) dX9_slate_71 rfl mlRX9_252 okX5_goEarly npX5_goEarly rfl rfl rfl ⟨by decide, by decide⟩ (Nat.le_of_ble_eq_true rfl) rfl (Nat.le_of_ble_eq_true rfl) (c_goEarly (hV.eq hM1 (by decide) (by decide) (by decide) (fun b hb => by simp; omega)).cn hH1 (Od_line hV h53 h55) (fun M2 hM2 h56 => ?_))
      show V cS g (d + 6) mX9_slate 74 [some (.ref 0), some (.int (nI b)), some (.int w), some (.int v)] [] M2 Q
      refine V.aload_n dX9_slate_74 rfl (i := 0) rfl ?_
      refine V.getR dX9_slate_75 rfl flRX9_40 rfl ⟨by decide, by decide⟩ ?_
      refine V.invv (z := mX5_latestBehind) (As := []) dX9_slate_78 rfl mlRX9_255 okX5_latestBehind npX5_latestBehind rfl rfl rfl ⟨by decide, by decide⟩ (Nat.le_of_ble_eq_true rfl) rfl (Nat.le_of_ble_eq_true rfl) (c_lb ((Od_line hV h53 h55).eq hM2 (by decide) (by decide)) h56 ?_)
      show V cS g (d + 6) mX9_slate 81 [some (.ref 0), some (.int (nI b)), some (.int w), some (.int v)] [.int (lbF (loT (geC (fun a' b' => gpF (hpH M w) (wyH M) (M1 1 6) a' b' ne)) (fun a' b' => gpF (hpH M w) (wyH M) (M1 1 6) a' b' ne) (fun x => M1 (30 + x) 4) (odN M w n) (M 1 7) (odM M w n)) (fun x => M2 (30 + x) 4) (odN M w n) (odM M w n))] M2 Q
      refine V.aload_n dX9_slate_81 rfl (i := 0) rfl ?_
      refine V.getR dX9_slate_82 rfl flRX9_12 rfl ⟨by decide, by decide⟩ ?_
      refine V.getI dX9_slate_85 rfl flRX9_101 rfl ⟨by decide, by decide⟩ ?_
      refine V.top (x' := (M 1 7)) ((by rw [hM2 1 (by decide), hM1 1 (by decide)])) ?_
      refine V.ic_le (tgt := 98) dX9_slate_88 (by decide) (fun c88 => ?_) (fun c88 => ?_)
      · refine V.iload_n dX9_slate_98 rfl (i := 3) rfl ?_
        refine V.iconst dX9_slate_99 (v := 1) (by decide) ?_
        refine V.ic_ne (tgt := 117) dX9_slate_100 (by decide) (fun c100 => ?_) (fun c100 => ?_)
        · refine V.aload_n dX9_slate_117 rfl (i := 0) rfl ?_
          refine V.getR dX9_slate_118 rfl flRX9_40 rfl ⟨by decide, by decide⟩ ?_
          refine V.iload_n dX9_slate_121 rfl (i := 1) rfl ?_
          refine V.invv (z := mX5_offsetOf) (As := [_]) dX9_slate_122 rfl mlRX9_261 okX5_offsetOf npX5_offsetOf rfl rfl rfl ⟨by decide, by decide⟩ (Nat.le_of_ble_eq_true rfl) rfl (Nat.le_of_ble_eq_true rfl) (c_offsetOf  (by first | assumption | decide | omega) ?_)
          show V cS g (d + 6) mX9_slate 125 [some (.ref 0), some (.int (nI b)), some (.int w), some (.int v)] [.int (M2 56 b)] (M2) Q
          exact V.ret dX9_slate_125 rfl (by first | exact hok0 h b hb rfl (Classical.byContradiction fun z => c42 (b2i_f z)) c100 M1 M2 hM1 hM2 (Int32.not_lt.mpr c88) h56 | exact hok1 h b hb rfl (Classical.byContradiction fun z => c42 (b2i_f z)) c100 M1 M2 hM1 hM2 M3 hM3 (Int32.not_lt.mpr c88) h57)
        · refine V.aload_n dX9_slate_103 rfl (i := 0) rfl ?_
          refine V.getR dX9_slate_104 rfl flRX9_40 rfl ⟨by decide, by decide⟩ ?_
          refine V.aload_n dX9_slate_107 rfl (i := 0) rfl ?_
          refine V.getR dX9_slate_108 rfl flRX9_12 rfl ⟨by decide, by decide⟩ ?_
          refine V.getI dX9_slate_111 rfl flRX9_101 rfl ⟨by decide, by decide⟩ ?_
          refine V.top (x' := (M 1 7)) ((by rw [hM2 1 (by decide), hM1 1 (by decide)])) ?_
          refine V.invv (z := mX5_goLate) (As := [_]) dX9_slate_114 rfl mlRX9_258 okX5_goLate npX5_goLate rfl rfl rfl ⟨by decide, by decide⟩ (Nat.le_of_ble_eq_true rfl) rfl (Nat.le_of_ble_eq_true rfl) (c_goLate (((hV.eq hM1 (by decide) (by decide) (by decide) (fun b hb => by simp; omega)).cn).eq hM2 (by decide)) (hH1.eq hM2 h8 (by decide) (fun b hb => by simp; omega)) ((Od_line hV h53 h55).eq hM2 (by decide) (by decide)) (fun M3 hM3 h57 => ?_))
          show V cS g (d + 6) mX9_slate 117 [some (.ref 0), some (.int (nI b)), some (.int w), some (.int v)] [] M3 Q
          refine V.aload_n dX9_slate_117 rfl (i := 0) rfl ?_
          refine V.getR dX9_slate_118 rfl flRX9_40 rfl ⟨by decide, by decide⟩ ?_
          refine V.iload_n dX9_slate_121 rfl (i := 1) rfl ?_
          refine V.invv (z := mX5_offsetOf) (As := [_]) dX9_slate_122 rfl mlRX9_261 okX5_offsetOf npX5_offsetOf rfl rfl rfl ⟨by decide, by decide⟩ (Nat.le_of_ble_eq_true rfl) rfl (Nat.le_of_ble_eq_true rfl) (c_offsetOf  (by first | assumption | decide | omega) ?_)
          show V cS g (d + 6) mX9_slate 125 [some (.ref 0), some (.int (nI b)), some (.int w), some (.int v)] [.int (M3 56 b)] (M3) Q
          exact V.ret dX9_slate_125 rfl (by first | exact hok0 h b hb rfl (Classical.byContradiction fun z => c42 (b2i_f z)) c100 M1 M2 hM1 hM2 (Int32.not_lt.mpr c88) h56 | exact hok1 h b hb rfl (Classical.byContradiction fun z => c42 (b2i_f z)) c100 M1 M2 hM1 hM2 M3 hM3 (Int32.not_lt.mpr c88) h57)
      · refine V.aload_n dX9_slate_91 rfl (i := 0) rfl ?_
        refine V.ldc dX9_slate_92 rfl ctRX9_157 ?_
        refine V.invv (z := mX9_error) (As := [_]) dX9_slate_94 rfl mlRX9_82 okX9_error npX9_error rfl rfl rfl ⟨by decide, by decide⟩ (Nat.le_of_ble_eq_true rfl) rfl (Nat.le_of_ble_eq_true rfl) (c_err2   ?_)
        show V cS g (d + 6) mX9_slate 97 [some (.ref 0), some (.int (nI b)), some (.int w), some (.int v)] [.int (-1000000002 : Int32)] (put M2 9 2 (M2 9 2 + 1)) Q
        exact V.ret dX9_slate_97 rfl (hnone h b hb rfl (Classical.byContradiction fun z => c42 (b2i_f z)) M1 M2 hM1 hM2 (Int32.not_le.mp c88))
    · refine V.aload_n dX9_slate_45 rfl (i := 0) rfl ?_
      refine V.ldc dX9_slate_46 rfl ctRX9_248 ?_
      refine V.invv (z := mX9_error) (As := [_]) dX9_slate_48 rfl mlRX9_82 okX9_error npX9_error rfl rfl rfl ⟨by decide, by decide⟩ (Nat.le_of_ble_eq_true rfl) rfl (Nat.le_of_ble_eq_true rfl) (c_err3   ?_)
      show V cS g (d + 6) mX9_slate 51 [some (.ref 0), some (.int (nI b)), some (.int w), some (.int v)] [.int (-1000000003 : Int32)] (put ((((M)))) 9 3 (((((M)))) 9 3 + 1)) Q
      exact V.ret dX9_slate_51 rfl (hst h b hb rfl (Bool.eq_false_iff.mpr (b2i_0.mp c42)))
  · skip
    refine V.aload_n dX9_slate_0 rfl (i := 0) rfl ?_
    refine V.iload_n dX9_slate_1 rfl (i := 1) rfl ?_
    refine V.invv (z := mX9_isBell) (As := [_]) dX9_slate_2 rfl mlRX9_118 okX9_isBell npX9_isBell rfl rfl rfl ⟨by decide, by decide⟩ (Nat.le_of_ble_eq_true rfl) rfl (Nat.le_of_ble_eq_true rfl) (c_isBell   ?_)
    show V cS g (d + 6) mX9_slate 5 [some (.ref 0), some (.int a), some (.int w), some (.int v)] [.int (b2i (0 ≤ a ∧ a < M 1 2 ∧ a < 8))] (M) Q
    refine V.if_eq (tgt := 22) dX9_slate_5 (by decide) (fun c5 => ?_) (fun c5 => ?_)
    · refine V.aload_n dX9_slate_22 rfl (i := 0) rfl ?_
      refine V.ldc dX9_slate_23 rfl ctRX9_81 ?_
      refine V.invv (z := mX9_error) (As := [_]) dX9_slate_25 rfl mlRX9_82 okX9_error npX9_error rfl rfl rfl ⟨by decide, by decide⟩ (Nat.le_of_ble_eq_true rfl) rfl (Nat.le_of_ble_eq_true rfl) (c_err1   ?_)
      show V cS g (d + 6) mX9_slate 28 [some (.ref 0), some (.int a), some (.int w), some (.int v)] [.int (-1000000001 : Int32)] (put (M) 9 1 ((M) 9 1 + 1)) Q
      exact V.ret dX9_slate_28 rfl (hbad h)
    · refine V.iload_n dX9_slate_8 rfl (i := 2) rfl ?_
      refine V.invs (z := mX9_isHour) (As := [_]) dX9_slate_9 rfl mlRX9_138 okX9_isHour npX9_isHour rfl (Nat.le_of_ble_eq_true rfl) rfl (Nat.le_of_ble_eq_true rfl) (c_isHour   ?_)
      show V cS g (d + 6) mX9_slate 12 [some (.ref 0), some (.int a), some (.int w), some (.int v)] [.int (b2i (0 ≤ w ∧ w ≤ 23))] ((M)) Q
      refine V.if_eq (tgt := 22) dX9_slate_12 (by decide) (fun c12 => ?_) (fun c12 => ?_)
      · refine V.aload_n dX9_slate_22 rfl (i := 0) rfl ?_
        refine V.ldc dX9_slate_23 rfl ctRX9_81 ?_
        refine V.invv (z := mX9_error) (As := [_]) dX9_slate_25 rfl mlRX9_82 okX9_error npX9_error rfl rfl rfl ⟨by decide, by decide⟩ (Nat.le_of_ble_eq_true rfl) rfl (Nat.le_of_ble_eq_true rfl) (c_err1   ?_)
        show V cS g (d + 6) mX9_slate 28 [some (.ref 0), some (.int a), some (.int w), some (.int v)] [.int (-1000000001 : Int32)] (put ((M)) 9 1 (((M)) 9 1 + 1)) Q
        exact V.ret dX9_slate_28 rfl (hbad h)
      · refine V.iload_n dX9_slate_15 rfl (i := 3) rfl ?_
        refine V.invs (z := mX9_isEither) (As := [_]) dX9_slate_16 rfl mlRX9_225 okX9_isEither npX9_isEither rfl (Nat.le_of_ble_eq_true rfl) rfl (Nat.le_of_ble_eq_true rfl) (c_isEither   ?_)
        show V cS g (d + 6) mX9_slate 19 [some (.ref 0), some (.int a), some (.int w), some (.int v)] [.int (b2i (0 ≤ v ∧ v ≤ 1))] (((M))) Q
        refine V.if_ne (tgt := 29) dX9_slate_19 (by decide) (fun c19 => ?_) (fun c19 => ?_)
        · exact absurd ⟨(Classical.byContradiction fun z => c5 (b2i_f z)), (Classical.byContradiction fun z => c12 (b2i_f z)), (Classical.byContradiction fun z => c19 (b2i_f z))⟩ h
        · refine V.aload_n dX9_slate_22 rfl (i := 0) rfl ?_
          refine V.ldc dX9_slate_23 rfl ctRX9_81 ?_
          refine V.invv (z := mX9_error) (As := [_]) dX9_slate_25 rfl mlRX9_82 okX9_error npX9_error rfl rfl rfl ⟨by decide, by decide⟩ (Nat.le_of_ble_eq_true rfl) rfl (Nat.le_of_ble_eq_true rfl) (c_err1   ?_)
          show V cS g (d + 6) mX9_slate 28 [some (.ref 0), some (.int a), some (.int w), some (.int v)] [.int (-1000000001 : Int32)] (put (((M))) 9 1 ((((M))) 9 1 + 1)) Q
          exact V.ret dX9_slate_28 rfl (hbad h)

