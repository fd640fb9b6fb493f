/-! ===== public methods: images, voices, days ahead, what is told ===== -/
set_option maxHeartbeats 4000000 in
set_option maxRecDepth 100000 in
theorem c9_seed {g : GG} {d : Nat} {M : Mem} {Q : Option Value → Mem → Prop} {a : Int32} (hQ : Q (some (.int (M 1 12))) (put M 1 12 a)) : V cS g d mX9_seed 0 [some (.ref 0), some (.int a), none] [] M Q := by
  refine V.aload_n dX9_seed_0 rfl (i := 0) rfl ?_
  refine V.getR dX9_seed_1 rfl flRX9_12 rfl ⟨by decide, by decide⟩ ?_
  refine V.getI dX9_seed_4 rfl flRX9_309 rfl ⟨by decide, by decide⟩ ?_
  refine V.istore_n dX9_seed_7 rfl (i := 2) (by decide) (fun _ h => by cases h; exact Or.inl rfl) rfl ?_
  refine V.aload_n dX9_seed_8 rfl (i := 0) rfl ?_
  refine V.getR dX9_seed_9 rfl flRX9_12 rfl ⟨by decide, by decide⟩ ?_
  refine V.iload_n dX9_seed_12 rfl (i := 1) rfl ?_
  refine V.putI dX9_seed_13 rfl fpRX9_309 rfl ⟨by decide, by decide⟩ ?_
  refine V.iload_n dX9_seed_16 rfl (i := 2) rfl ?_
  exact V.ret dX9_seed_17 rfl (hQ)
set_option maxHeartbeats 4000000 in
set_option maxRecDepth 100000 in
theorem c9_image {g : GG} {d : Nat} {M : Mem} {Q : Option Value → Mem → Prop} (hQ : ∀ M', bec2 M M' → Q (some (.int (M' 0 9 + 1))) (put M' 0 9 (M' 0 9 + 1))) : V cS g (d + 3) mX9_image 0 [some (.ref 0)] [] M Q := by
  refine V.aload_n dX9_image_0 rfl (i := 0) rfl ?_
  refine V.getR dX9_image_1 rfl flRX9_16 rfl ⟨by decide, by decide⟩ ?_
  refine V.aload_n dX9_image_4 rfl (i := 0) rfl ?_
  refine V.getR dX9_image_5 rfl flRX9_12 rfl ⟨by decide, by decide⟩ ?_
  refine V.invv (z := mX7_become) (As := [_]) dX9_image_8 rfl mlRX9_342 okX7_become npX7_become rfl rfl rfl ⟨by decide, by decide⟩ (Nat.le_of_ble_eq_true rfl) rfl (Nat.le_of_ble_eq_true rfl) (c_vb2 (fun M1 hM1 => ?_))
  show V cS g (d + 3) mX9_image 11 [some (.ref 0)] [] M1 Q
  refine V.aload_n dX9_image_11 rfl (i := 0) rfl ?_
  refine V.dup dX9_image_12 rfl ?_
  refine V.getI dX9_image_13 rfl flRX9_345 rfl ⟨by decide, by decide⟩ ?_
  refine V.iconst dX9_image_16 (v := 1) (by decide) ?_
  refine V.iadd dX9_image_17 ?_
  refine V.putI dX9_image_18 rfl fpRX9_345 rfl ⟨by decide, by decide⟩ ?_
  refine V.aload_n dX9_image_21 rfl (i := 0) rfl ?_
  refine V.getI dX9_image_22 rfl flRX9_345 rfl ⟨by decide, by decide⟩ ?_
  exact V.ret dX9_image_25 rfl (Qi (hQ M1 hM1) (by first | rfl | exact put_s))
set_option maxHeartbeats 4000000 in
set_option maxRecDepth 100000 in
theorem c9_restore {g : GG} {d : Nat} {M : Mem} {Q : Option Value → Mem → Prop} (hnone : M 0 9 = 0 → Q (some (.int (-1000000002))) (put M 9 2 (M 9 2 + 1))) (hok : ¬ M 0 9 = 0 → ∀ M', bec1 M M' → Q (some (.int (M' 1 2))) M') : V cS g (d + 3) mX9_restore 0 [some (.ref 0)] [] M Q := by
  refine V.aload_n dX9_restore_0 rfl (i := 0) rfl ?_
  refine V.getI dX9_restore_1 rfl flRX9_345 rfl ⟨by decide, by decide⟩ ?_
  refine V.if_ne (tgt := 14) dX9_restore_4 (by decide) (fun c4 => ?_) (fun c4 => ?_)
  · refine V.aload_n dX9_restore_14 rfl (i := 0) rfl ?_
    refine V.getR dX9_restore_15 rfl flRX9_12 rfl ⟨by decide, by decide⟩ ?_
    refine V.aload_n dX9_restore_18 rfl (i := 0) rfl ?_
    refine V.getR dX9_restore_19 rfl flRX9_16 rfl ⟨by decide, by decide⟩ ?_
    refine V.invv (z := mX7_become) (As := [_]) dX9_restore_22 rfl mlRX9_342 okX7_become npX7_become rfl rfl rfl ⟨by decide, by decide⟩ (Nat.le_of_ble_eq_true rfl) rfl (Nat.le_of_ble_eq_true rfl) (c_vb1 (fun M1 hM1 => ?_))
    show V cS g (d + 3) mX9_restore 25 [some (.ref 0)] [] M1 Q
    refine V.aload_n dX9_restore_25 rfl (i := 0) rfl ?_
    refine V.getR dX9_restore_26 rfl flRX9_12 rfl ⟨by decide, by decide⟩ ?_
    refine V.getI dX9_restore_29 rfl flRX9_104 rfl ⟨by decide, by decide⟩ ?_
    exact V.ret dX9_restore_32 rfl (hok c4 M1 hM1)
  · refine V.aload_n dX9_restore_7 rfl (i := 0) rfl ?_
    refine V.ldc dX9_restore_8 rfl ctRX9_157 ?_
    refine V.invv (z := mX9_error) (As := [_]) dX9_restore_10 rfl mlRX9_82 okX9_error npX9_error rfl rfl rfl ⟨by decide, by decide⟩ (Nat.le_of_ble_eq_true rfl) rfl (Nat.le_of_ble_eq_true rfl) (c_err2   ?_)
    show V cS g (d + 3) mX9_restore 13 [some (.ref 0)] [.int (-1000000002 : Int32)] (put M 9 2 (M 9 2 + 1)) Q
    exact V.ret dX9_restore_13 rfl (hnone c4)
set_option maxHeartbeats 4000000 in
set_option maxRecDepth 100000 in
theorem c9_tell {g : GG} {d : Nat} {M : Mem} {Q : Option Value → Mem → Prop} {a : Int32} {n : Nat} (hn : M 1 14 = nI n) (h20 : n ≤ 20) (hfull : n = 20 → Q (some (.int (-1000000004))) (put M 9 4 (M 9 4 + 1))) (hok : n < 20 → Q (some (.int (nI (n + 1)))) (put (put M 16 n a) 1 14 (nI (n + 1)))) : V cS g (d + 2) mX9_tell 0 [some (.ref 0), some (.int a)] [] M Q := by
  by_cases q : n < 20
  · skip
    refine V.aload_n dX9_tell_0 rfl (i := 0) rfl ?_
    refine V.getR dX9_tell_1 rfl flRX9_12 rfl ⟨by decide, by decide⟩ ?_
    refine V.getI dX9_tell_4 rfl flRX9_348 rfl ⟨by decide, by decide⟩ ?_
    refine V.top (x' := (nI n)) (hn) ?_
    refine V.bipush dX9_tell_7 (v := 20) (by decide) ?_
    refine V.ic_lt (tgt := 19) dX9_tell_9 (by decide) (fun c9 => ?_) (fun q => absurd ((nI_lt (b := 20) (by omega) (by omega))) q)
    refine V.aload_n dX9_tell_19 rfl (i := 0) rfl ?_
    refine V.getR dX9_tell_20 rfl flRX9_12 rfl ⟨by decide, by decide⟩ ?_
    refine V.getR dX9_tell_23 rfl flRX9_351 rfl ⟨by decide, by decide⟩ ?_
    refine V.aload_n dX9_tell_26 rfl (i := 0) rfl ?_
    refine V.getR dX9_tell_27 rfl flRX9_12 rfl ⟨by decide, by decide⟩ ?_
    refine V.getI dX9_tell_30 rfl flRX9_348 rfl ⟨by decide, by decide⟩ ?_
    refine V.top (x' := (nI n)) (hn) ?_
    refine V.iload_n dX9_tell_33 rfl (i := 1) rfl ?_
    refine V.iastN dX9_tell_34 rfl ⟨by decide, by decide⟩ (by first | assumption | decide | omega) (by decide) ?_
    refine V.aload_n dX9_tell_35 rfl (i := 0) rfl ?_
    refine V.getR dX9_tell_36 rfl flRX9_12 rfl ⟨by decide, by decide⟩ ?_
    refine V.dup dX9_tell_39 rfl ?_
    refine V.getI dX9_tell_40 rfl flRX9_348 rfl ⟨by decide, by decide⟩ ?_
    refine V.top (x' := (nI n)) ((by rw [put_cell (by decide)]; exact hn)) ?_
    refine V.iconst dX9_tell_43 (v := 1) (by decide) ?_
    refine V.iadd dX9_tell_44 ?_
    refine V.top (x' := (nI (n + 1))) (nI_add n 1) ?_
    refine V.putI dX9_tell_45 rfl fpRX9_348 rfl ⟨by decide, by decide⟩ ?_
    refine V.aload_n dX9_tell_48 rfl (i := 0) rfl ?_
    refine V.getR dX9_tell_49 rfl flRX9_12 rfl ⟨by decide, by decide⟩ ?_
    refine V.getI dX9_tell_52 rfl flRX9_348 rfl ⟨by decide, by decide⟩ ?_
    exact V.ret dX9_tell_55 rfl (Qi (hok q) (by first | rfl | exact put_s))
  · obtain rfl : n = 20 := by omega
    refine V.aload_n dX9_tell_0 rfl (i := 0) rfl ?_
    refine V.getR dX9_tell_1 rfl flRX9_12 rfl ⟨by decide, by decide⟩ ?_
    refine V.getI dX9_tell_4 rfl flRX9_348 rfl ⟨by decide, by decide⟩ ?_
    refine V.top (x' := (nI 20)) (hn) ?_
    refine V.bipush dX9_tell_7 (v := 20) (by decide) ?_
    refine V.ic_lt (tgt := 19) dX9_tell_9 (by decide) (fun q => absurd q ((by decide))) (fun c9 => ?_)
    refine V.aload_n dX9_tell_12 rfl (i := 0) rfl ?_
    refine V.ldc dX9_tell_13 rfl ctRX9_107 ?_
    refine V.invv (z := mX9_error) (As := [_]) dX9_tell_15 rfl mlRX9_82 okX9_error npX9_error rfl rfl rfl ⟨by decide, by decide⟩ (Nat.le_of_ble_eq_true rfl) rfl (Nat.le_of_ble_eq_true rfl) (c_err4   ?_)
    show V cS g (d + 2) mX9_tell 18 [some (.ref 0), some (.int a)] [.int (-1000000004 : Int32)] (put M 9 4 (M 9 4 + 1)) Q
    exact V.ret dX9_tell_18 rfl (hfull rfl)
set_option maxHeartbeats 4000000 in
set_option maxRecDepth 100000 in
theorem c9_told {g : GG} {d : Nat} {M : Mem} {Q : Option Value → Mem → Prop} {a : Int32} (hbad : ¬ (1 ≤ a ∧ a ≤ 5) → Q (some (.int (-1000000001))) (put M 9 1 (M 9 1 + 1))) (hok : (1 ≤ a ∧ a ≤ 5) → ∀ k, k < 6 → a = nI k → Q (some (.int (M 9 k))) M) : V cS g (d + 2) mX9_told 0 [some (.ref 0), some (.int a)] [] M Q := by
  by_cases h : (1 ≤ a ∧ a ≤ 5)
  · obtain ⟨k, hk, rfl⟩ := nI_ex (n := 6) (by omega) (Int32.le_trans (by decide) h.1) (Int32.lt_of_le_of_lt h.2 (by decide))
    refine V.iload_n dX9_told_0 rfl (i := 1) rfl ?_
    refine V.iconst dX9_told_1 (v := 1) (by decide) ?_
    refine V.ic_lt (tgt := 10) dX9_told_2 (by decide) (fun q => absurd q ((Int32.not_lt.mpr h.1))) (fun c2 => ?_)
    refine V.iload_n dX9_told_5 rfl (i := 1) rfl ?_
    refine V.iconst dX9_told_6 (v := 5) (by decide) ?_
    refine V.ic_le (tgt := 17) dX9_told_7 (by decide) (fun c7 => ?_) (fun q => absurd ((h.2)) q)
    refine V.aload_n dX9_told_17 rfl (i := 0) rfl ?_
    refine V.getR dX9_told_18 rfl flRX9_65 rfl ⟨by decide, by decide⟩ ?_
    refine V.iload_n dX9_told_21 rfl (i := 1) rfl ?_
    refine V.ialdN dX9_told_22 rfl ⟨by decide, by decide⟩ (by first | assumption | decide | omega) (by decide) ?_
    exact V.ret dX9_told_23 rfl (hok h k hk rfl)
  · skip
    refine V.iload_n dX9_told_0 rfl (i := 1) rfl ?_
    refine V.iconst dX9_told_1 (v := 1) (by decide) ?_
    refine V.ic_lt (tgt := 10) dX9_told_2 (by decide) (fun c2 => ?_) (fun c2 => ?_)
    · refine V.aload_n dX9_told_10 rfl (i := 0) rfl ?_
      refine V.ldc dX9_told_11 rfl ctRX9_81 ?_
      refine V.invv (z := mX9_error) (As := [_]) dX9_told_13 rfl mlRX9_82 okX9_error npX9_error rfl rfl rfl ⟨by decide, by decide⟩ (Nat.le_of_ble_eq_true rfl) rfl (Nat.le_of_ble_eq_true rfl) (c_err1   ?_)
      show V cS g (d + 2) mX9_told 16 [some (.ref 0), some (.int a)] [.int (-1000000001 : Int32)] (put M 9 1 (M 9 1 + 1)) Q
      exact V.ret dX9_told_16 rfl (hbad h)
    · refine V.iload_n dX9_told_5 rfl (i := 1) rfl ?_
      refine V.iconst dX9_told_6 (v := 5) (by decide) ?_
      refine V.ic_le (tgt := 17) dX9_told_7 (by decide) (fun c7 => ?_) (fun c7 => ?_)
      · exact absurd ⟨Int32.not_lt.mp c2, c7⟩ h
      · refine V.aload_n dX9_told_10 rfl (i := 0) rfl ?_
        refine V.ldc dX9_told_11 rfl ctRX9_81 ?_
        refine V.invv (z := mX9_error) (As := [_]) dX9_told_13 rfl mlRX9_82 okX9_error npX9_error rfl rfl rfl ⟨by decide, by decide⟩ (Nat.le_of_ble_eq_true rfl) rfl (Nat.le_of_ble_eq_true rfl) (c_err1   ?_)
        show V cS g (d + 2) mX9_told 16 [some (.ref 0), some (.int a)] [.int (-1000000001 : Int32)] (put M 9 1 (M 9 1 + 1)) Q
        exact V.ret dX9_told_16 rfl (hbad h)
set_option maxHeartbeats 4000000 in
set_option maxRecDepth 100000 in
theorem c9_trace {g : GG} {d : Nat} {M : Mem} {Q : Option Value → Mem → Prop} {a : Int32} {t : Nat} (ht : M 7 1 = nI t) (h40 : t ≤ 40) (hbad : ¬ (0 ≤ a ∧ a < M 7 1) → Q (some (.int (-1000000002))) (put M 9 2 (M 9 2 + 1))) (hok : (0 ≤ a ∧ a < M 7 1) → ∀ k, k < t → a = nI k → Q (some (.int (M 60 k))) M) : V cS g (d + 2) mX9_trace 0 [some (.ref 0), some (.int a)] [] M Q := by
  by_cases h : (0 ≤ a ∧ a < M 7 1)
  · have h2 := h.2
    rw [ht] at h2
    obtain ⟨k, hk, rfl⟩ := nI_ex (n := t) (by omega) h.1 h2
    have hk40 : k < 40 := by omega
    refine V.iload_n dX9_trace_0 rfl (i := 1) rfl ?_
    refine V.if_lt (tgt := 15) dX9_trace_1 (by decide) (fun q => absurd q ((Int32.not_lt.mpr h.1))) (fun c1 => ?_)
    refine V.iload_n dX9_trace_4 rfl (i := 1) rfl ?_
    refine V.aload_n dX9_trace_5 rfl (i := 0) rfl ?_
    refine V.getR dX9_trace_6 rfl flRX9_54 rfl ⟨by decide, by decide⟩ ?_
    refine V.getI dX9_trace_9 rfl flRX9_316 rfl ⟨by decide, by decide⟩ ?_
    refine V.ic_lt (tgt := 22) dX9_trace_12 (by decide) (fun c12 => ?_) (fun q => absurd ((h.2)) q)
    refine V.aload_n dX9_trace_22 rfl (i := 0) rfl ?_
    refine V.getR dX9_trace_23 rfl flRX9_54 rfl ⟨by decide, by decide⟩ ?_
    refine V.getR dX9_trace_26 rfl flRX9_319 rfl ⟨by decide, by decide⟩ ?_
    refine V.iload_n dX9_trace_29 rfl (i := 1) rfl ?_
    refine V.ialdN dX9_trace_30 rfl ⟨by decide, by decide⟩ (by first | assumption | decide | omega) (by decide) ?_
    exact V.ret dX9_trace_31 rfl (hok h k hk rfl)
  · skip
    refine V.iload_n dX9_trace_0 rfl (i := 1) rfl ?_
    refine V.if_lt (tgt := 15) dX9_trace_1 (by decide) (fun c1 => ?_) (fun c1 => ?_)
    · refine V.aload_n dX9_trace_15 rfl (i := 0) rfl ?_
      refine V.ldc dX9_trace_16 rfl ctRX9_157 ?_
      refine V.invv (z := mX9_error) (As := [_]) dX9_trace_18 rfl mlRX9_82 okX9_error npX9_error rfl rfl rfl ⟨by decide, by decide⟩ (Nat.le_of_ble_eq_true rfl) rfl (Nat.le_of_ble_eq_true rfl) (c_err2   ?_)
      show V cS g (d + 2) mX9_trace 21 [some (.ref 0), some (.int a)] [.int (-1000000002 : Int32)] (put M 9 2 (M 9 2 + 1)) Q
      exact V.ret dX9_trace_21 rfl (hbad h)
    · refine V.iload_n dX9_trace_4 rfl (i := 1) rfl ?_
      refine V.aload_n dX9_trace_5 rfl (i := 0) rfl ?_
      refine V.getR dX9_trace_6 rfl flRX9_54 rfl ⟨by decide, by decide⟩ ?_
      refine V.getI dX9_trace_9 rfl flRX9_316 rfl ⟨by decide, by decide⟩ ?_
      refine V.ic_lt (tgt := 22) dX9_trace_12 (by decide) (fun c12 => ?_) (fun c12 => ?_)
      · exact absurd ⟨Int32.not_lt.mp c1, c12⟩ h
      · refine V.aload_n dX9_trace_15 rfl (i := 0) rfl ?_
        refine V.ldc dX9_trace_16 rfl ctRX9_157 ?_
        refine V.invv (z := mX9_error) (As := [_]) dX9_trace_18 rfl mlRX9_82 okX9_error npX9_error rfl rfl rfl ⟨by decide, by decide⟩ (Nat.le_of_ble_eq_true rfl) rfl (Nat.le_of_ble_eq_true rfl) (c_err2   ?_)
        show V cS g (d + 2) mX9_trace 21 [some (.ref 0), some (.int a)] [.int (-1000000002 : Int32)] (put M 9 2 (M 9 2 + 1)) Q
        exact V.ret dX9_trace_21 rfl (hbad h)
set_option maxHeartbeats 4000000 in
set_option maxRecDepth 100000 in
theorem c9_voice {g : GG} {d : Nat} {M : Mem} {Q : Option Value → Mem → Prop} {a w x : Int32} (hbad : ¬ ((0 ≤ a ∧ a < M 1 2 ∧ a < 8) ∧ 0 ≤ w ∧ w < 4) → Q (some (.int (-1000000001))) (put M 9 1 (M 9 1 + 1))) (hk : ∀ b, b < 8 → ∃ k, k < 7 ∧ M (30 + b) 0 = nI k) (hok : ((0 ≤ a ∧ a < M 1 2 ∧ a < 8) ∧ 0 ≤ w ∧ w < 4) → ∀ b e k, b < 8 → e < 4 → k < 7 → a = nI b → w = nI e → M (30 + b) 0 = nI k → Q (some (.int (vR k (nI b) (M (30 + b) 1) 12 (bdN k e) x))) (wr (put (put (put (put M 7 1 0) 7 2 (nI k)) 7 3 (nI b)) 7 4 (M (30 + b) 1)) 0 (vL k 12 (bdN k e)))) : V cS g (d + 27) mX9_voice 0 [some (.ref 0), some (.int a), some (.int w), some (.int x)] [] M Q := by
  by_cases h : ((0 ≤ a ∧ a < M 1 2 ∧ a < 8) ∧ 0 ≤ w ∧ w < 4)
  · obtain ⟨b, hb, rfl⟩ := nI_ex (n := 8) (by omega) h.1.1 h.1.2.2
    obtain ⟨e, he, rfl⟩ := nI_ex (n := 4) (by omega) h.2.1 h.2.2
    obtain ⟨k, hk7, hkk⟩ := hk b hb
    refine V.aload_n dX9_voice_0 rfl (i := 0) rfl ?_
    refine V.iload_n dX9_voice_1 rfl (i := 1) rfl ?_
    refine V.invv (z := mX9_isBell) (As := [_]) dX9_voice_2 rfl mlRX9_118 okX9_isBell npX9_isBell rfl rfl rfl ⟨by decide, by decide⟩ (Nat.le_of_ble_eq_true rfl) rfl (Nat.le_of_ble_eq_true rfl) (c_isBell   ?_)
    show V cS g (d + 27) mX9_voice 5 [some (.ref 0), some (.int (nI b)), some (.int (nI e)), some (.int x)] [.int (b2i (0 ≤ (nI b) ∧ (nI b) < M 1 2 ∧ (nI b) < 8))] (M) Q
    refine V.if_eq (tgt := 17) dX9_voice_5 (by decide) (fun q => absurd q ((fun z => b2i_0.mp z h.1))) (fun c5 => ?_)
    refine V.iload_n dX9_voice_8 rfl (i := 2) rfl ?_
    refine V.if_lt (tgt := 17) dX9_voice_9 (by decide) (fun q => absurd q ((Int32.not_lt.mpr h.2.1))) (fun c9 => ?_)
    refine V.iload_n dX9_voice_12 rfl (i := 2) rfl ?_
    refine V.iconst dX9_voice_13 (v := 4) (by decide) ?_
    refine V.ic_lt (tgt := 24) dX9_voice_14 (by decide) (fun c14 => ?_) (fun q => absurd ((h.2.2)) q)
    refine V.aload_n dX9_voice_24 rfl (i := 0) rfl ?_
    refine V.getR dX9_voice_25 rfl flRX9_54 rfl ⟨by decide, by decide⟩ ?_
    refine V.aload_n dX9_voice_28 rfl (i := 0) rfl ?_
    refine V.getR dX9_voice_29 rfl flRX9_12 rfl ⟨by decide, by decide⟩ ?_
    refine V.getR dX9_voice_32 rfl flRX9_108 rfl ⟨by decide, by decide⟩ ?_
    refine V.iload_n dX9_voice_35 rfl (i := 1) rfl ?_
    refine V.aaldBN dX9_voice_36 rfl ⟨by decide, by decide⟩ (by first | assumption | decide | omega) (by decide) ?_
    refine V.iload_n dX9_voice_37 rfl (i := 1) rfl ?_
    refine V.iload_n dX9_voice_38 rfl (i := 2) rfl ?_
    refine V.iload_n dX9_voice_39 rfl (i := 3) rfl ?_
    refine V.invv (z := mX8_speak) (As := [_, _, _, _]) dX9_voice_40 rfl mlRX9_312 okX8_speak npX8_speak rfl rfl rfl ⟨by decide, by decide⟩ (Nat.le_of_ble_eq_true rfl) rfl (Nat.le_of_ble_eq_true rfl) (c_speak hb hk7 he hkk ?_)
    show V cS g (d + 27) mX9_voice 43 [some (.ref 0), some (.int (nI b)), some (.int (nI e)), some (.int x)] [.int (vR k (nI b) (M (30 + b) 1) 12 (bdN k e) x)] (wr (put (put (put (put M 7 1 0) 7 2 (nI k)) 7 3 (nI b)) 7 4 (M (30 + b) 1)) 0 (vL k 12 (bdN k e))) Q
    exact V.ret dX9_voice_43 rfl (hok h b e k hb he hk7 rfl rfl hkk)
  · skip
    refine V.aload_n dX9_voice_0 rfl (i := 0) rfl ?_
    refine V.iload_n dX9_voice_1 rfl (i := 1) rfl ?_
    refine V.invv (z := mX9_isBell) (As := [_]) dX9_voice_2 rfl mlRX9_118 okX9_isBell npX9_isBell rfl rfl rfl ⟨by decide, by decide⟩ (Nat.le_of_ble_eq_true rfl) rfl (Nat.le_of_ble_eq_true rfl) (c_isBell   ?_)
    show V cS g (d + 27) mX9_voice 5 [some (.ref 0), some (.int a), some (.int w), some (.int x)] [.int (b2i (0 ≤ a ∧ a < M 1 2 ∧ a < 8))] (M) Q
    refine V.if_eq (tgt := 17) dX9_voice_5 (by decide) (fun c5 => ?_) (fun c5 => ?_)
    · refine V.aload_n dX9_voice_17 rfl (i := 0) rfl ?_
      refine V.ldc dX9_voice_18 rfl ctRX9_81 ?_
      refine V.invv (z := mX9_error) (As := [_]) dX9_voice_20 rfl mlRX9_82 okX9_error npX9_error rfl rfl rfl ⟨by decide, by decide⟩ (Nat.le_of_ble_eq_true rfl) rfl (Nat.le_of_ble_eq_true rfl) (c_err1   ?_)
      show V cS g (d + 27) mX9_voice 23 [some (.ref 0), some (.int a), some (.int w), some (.int x)] [.int (-1000000001 : Int32)] (put (M) 9 1 ((M) 9 1 + 1)) Q
      exact V.ret dX9_voice_23 rfl (hbad h)
    · refine V.iload_n dX9_voice_8 rfl (i := 2) rfl ?_
      refine V.if_lt (tgt := 17) dX9_voice_9 (by decide) (fun c9 => ?_) (fun c9 => ?_)
      · refine V.aload_n dX9_voice_17 rfl (i := 0) rfl ?_
        refine V.ldc dX9_voice_18 rfl ctRX9_81 ?_
        refine V.invv (z := mX9_error) (As := [_]) dX9_voice_20 rfl mlRX9_82 okX9_error npX9_error rfl rfl rfl ⟨by decide, by decide⟩ (Nat.le_of_ble_eq_true rfl) rfl (Nat.le_of_ble_eq_true rfl) (c_err1   ?_)
        show V cS g (d + 27) mX9_voice 23 [some (.ref 0), some (.int a), some (.int w), some (.int x)] [.int (-1000000001 : Int32)] (put (M) 9 1 ((M) 9 1 + 1)) Q
        exact V.ret dX9_voice_23 rfl (hbad h)
      · refine V.iload_n dX9_voice_12 rfl (i := 2) rfl ?_
        refine V.iconst dX9_voice_13 (v := 4) (by decide) ?_
        refine V.ic_lt (tgt := 24) dX9_voice_14 (by decide) (fun c14 => ?_) (fun c14 => ?_)
        · exact absurd ⟨(Classical.byContradiction fun z => c5 (b2i_f z)), Int32.not_lt.mp c9, c14⟩ h
        · refine V.aload_n dX9_voice_17 rfl (i := 0) rfl ?_
          refine V.ldc dX9_voice_18 rfl ctRX9_81 ?_
          refine V.invv (z := mX9_error) (As := [_]) dX9_voice_20 rfl mlRX9_82 okX9_error npX9_error rfl rfl rfl ⟨by decide, by decide⟩ (Nat.le_of_ble_eq_true rfl) rfl (Nat.le_of_ble_eq_true rfl) (c_err1   ?_)
          show V cS g (d + 27) mX9_voice 23 [some (.ref 0), some (.int a), some (.int w), some (.int x)] [.int (-1000000001 : Int32)] (put (M) 9 1 ((M) 9 1 + 1)) Q
          exact V.ret dX9_voice_23 rfl (hbad h)

