/-! ===== more public methods ===== -/
set_option maxHeartbeats 4000000 in
set_option maxRecDepth 100000 in
theorem c9_as {g : GG} {d : Nat} {M : Mem} {Q : Option Value → Mem → Prop} {a w : Int32} (hk : ∀ b, b < 8 → 0 ≤ M (30 + b) 0 ∧ M (30 + b) 0 ≤ 6) (hbad : ¬ ((0 ≤ a ∧ a < M 1 2 ∧ a < 8) ∧ 0 ≤ w ∧ w < 7) → Q (some (.int (-1000000001))) (put M 9 1 (M 9 1 + 1))) (hkind : ((0 ≤ a ∧ a < M 1 2 ∧ a < 8) ∧ 0 ≤ w ∧ w < 7) → ∀ b, b < 8 → a = nI b → isOfB (M (30 + b) 0) w = false → Q (some (.int (-1000000005))) (put M 9 5 (M 9 5 + 1))) (hok : ((0 ≤ a ∧ a < M 1 2 ∧ a < 8) ∧ 0 ≤ w ∧ w < 7) → ∀ b, b < 8 → a = nI b → isOfB (M (30 + b) 0) w = true → Q (some (.int (M (30 + b) 3))) M) : V cS g (d + 2) mX9_as 0 [some (.ref 0), some (.int a), some (.int w)] [] M Q := by
  by_cases h : ((0 ≤ a ∧ a < M 1 2 ∧ a < 8) ∧ 0 ≤ w ∧ w < 7)
  · obtain ⟨b, hb, rfl⟩ := nI_ex (n := 8) (by omega) h.1.1 h.1.2.2
    refine V.aload_n dX9_as_0 rfl (i := 0) rfl ?_
    refine V.iload_n dX9_as_1 rfl (i := 1) rfl ?_
    refine V.invv (z := mX9_isBell) (As := [_]) dX9_as_2 rfl mlRX9_118 okX9_isBell npX9_isBell rfl rfl rfl ⟨by decide, by decide⟩ (Nat.le_of_ble_eq_true rfl) rfl (Nat.le_of_ble_eq_true rfl) (c_isBell   ?_)
    show V cS g (d + 2) mX9_as 5 [some (.ref 0), some (.int (nI b)), some (.int w)] [.int (b2i (0 ≤ (nI b) ∧ (nI b) < M 1 2 ∧ (nI b) < 8))] (M) Q
    refine V.if_eq (tgt := 18) dX9_as_5 (by decide) (fun q => absurd q ((fun z => b2i_0.mp z h.1))) (fun c5 => ?_)
    refine V.iload_n dX9_as_8 rfl (i := 2) rfl ?_
    refine V.if_lt (tgt := 18) dX9_as_9 (by decide) (fun q => absurd q ((Int32.not_lt.mpr h.2.1))) (fun c9 => ?_)
    refine V.iload_n dX9_as_12 rfl (i := 2) rfl ?_
    refine V.bipush dX9_as_13 (v := 7) (by decide) ?_
    refine V.ic_lt (tgt := 25) dX9_as_15 (by decide) (fun c15 => ?_) (fun q => absurd ((h.2.2)) q)
    refine V.aload_n dX9_as_25 rfl (i := 0) rfl ?_
    refine V.getR dX9_as_26 rfl flRX9_12 rfl ⟨by decide, by decide⟩ ?_
    refine V.getR dX9_as_29 rfl flRX9_108 rfl ⟨by decide, by decide⟩ ?_
    refine V.iload_n dX9_as_32 rfl (i := 1) rfl ?_
    refine V.aaldBN dX9_as_33 rfl ⟨by decide, by decide⟩ (by first | assumption | decide | omega) (by decide) ?_
    refine V.iload_n dX9_as_34 rfl (i := 2) rfl ?_
    refine V.invv (z := mX0_isOf) (As := [_]) dX9_as_35 rfl mlRX9_131 okX0_isOf npX0_isOf rfl (layO30 (by first | assumption | decide | omega)) rfl (inB30 (by first | assumption | decide | omega)) (Nat.le_of_ble_eq_true rfl) rfl (Nat.le_of_ble_eq_true rfl) (c_isOf hb (hk b hb) h.2.1 ?_)
    show V cS g (d + 2) mX9_as 38 [some (.ref 0), some (.int (nI b)), some (.int w)] [.int (b2i (isOfB (M (30 + b) 0) w = true))] M Q
    refine V.if_ne (tgt := 48) dX9_as_38 (by decide) (fun c38 => ?_) (fun c38 => ?_)
    · refine V.aload_n dX9_as_48 rfl (i := 0) rfl ?_
      refine V.getR dX9_as_49 rfl flRX9_12 rfl ⟨by decide, by decide⟩ ?_
      refine V.getR dX9_as_52 rfl flRX9_108 rfl ⟨by decide, by decide⟩ ?_
      refine V.iload_n dX9_as_55 rfl (i := 1) rfl ?_
      refine V.aaldBN dX9_as_56 rfl ⟨by decide, by decide⟩ (by first | assumption | decide | omega) (by decide) ?_
      refine V.getI dX9_as_57 rfl flRX9_135 (fkB30 (by first | assumption | decide | omega) (by decide)) (inB30 (by first | assumption | decide | omega)) ?_
      exact V.ret dX9_as_60 rfl (hok h b hb rfl (Classical.byContradiction fun z => c38 (b2i_f z)))
    · refine V.aload_n dX9_as_41 rfl (i := 0) rfl ?_
      refine V.ldc dX9_as_42 rfl ctRX9_134 ?_
      refine V.invv (z := mX9_error) (As := [_]) dX9_as_44 rfl mlRX9_82 okX9_error npX9_error rfl rfl rfl ⟨by decide, by decide⟩ (Nat.le_of_ble_eq_true rfl) rfl (Nat.le_of_ble_eq_true rfl) (c_err5   ?_)
      show V cS g (d + 2) mX9_as 47 [some (.ref 0), some (.int (nI b)), some (.int w)] [.int (-1000000005 : Int32)] (put M 9 5 (M 9 5 + 1)) Q
      exact V.ret dX9_as_47 rfl (hkind h b hb rfl (Bool.eq_false_iff.mpr (b2i_0.mp c38)))
  · skip
    refine V.aload_n dX9_as_0 rfl (i := 0) rfl ?_
    refine V.iload_n dX9_as_1 rfl (i := 1) rfl ?_
    refine V.invv (z := mX9_isBell) (As := [_]) dX9_as_2 rfl mlRX9_118 okX9_isBell npX9_isBell rfl rfl rfl ⟨by decide, by decide⟩ (Nat.le_of_ble_eq_true rfl) rfl (Nat.le_of_ble_eq_true rfl) (c_isBell   ?_)
    show V cS g (d + 2) mX9_as 5 [some (.ref 0), some (.int a), some (.int w)] [.int (b2i (0 ≤ a ∧ a < M 1 2 ∧ a < 8))] (M) Q
    refine V.if_eq (tgt := 18) dX9_as_5 (by decide) (fun c5 => ?_) (fun c5 => ?_)
    · refine V.aload_n dX9_as_18 rfl (i := 0) rfl ?_
      refine V.ldc dX9_as_19 rfl ctRX9_81 ?_
      refine V.invv (z := mX9_error) (As := [_]) dX9_as_21 rfl mlRX9_82 okX9_error npX9_error rfl rfl rfl ⟨by decide, by decide⟩ (Nat.le_of_ble_eq_true rfl) rfl (Nat.le_of_ble_eq_true rfl) (c_err1   ?_)
      show V cS g (d + 2) mX9_as 24 [some (.ref 0), some (.int a), some (.int w)] [.int (-1000000001 : Int32)] (put (M) 9 1 ((M) 9 1 + 1)) Q
      exact V.ret dX9_as_24 rfl (hbad h)
    · refine V.iload_n dX9_as_8 rfl (i := 2) rfl ?_
      refine V.if_lt (tgt := 18) dX9_as_9 (by decide) (fun c9 => ?_) (fun c9 => ?_)
      · refine V.aload_n dX9_as_18 rfl (i := 0) rfl ?_
        refine V.ldc dX9_as_19 rfl ctRX9_81 ?_
        refine V.invv (z := mX9_error) (As := [_]) dX9_as_21 rfl mlRX9_82 okX9_error npX9_error rfl rfl rfl ⟨by decide, by decide⟩ (Nat.le_of_ble_eq_true rfl) rfl (Nat.le_of_ble_eq_true rfl) (c_err1   ?_)
        show V cS g (d + 2) mX9_as 24 [some (.ref 0), some (.int a), some (.int w)] [.int (-1000000001 : Int32)] (put (M) 9 1 ((M) 9 1 + 1)) Q
        exact V.ret dX9_as_24 rfl (hbad h)
      · refine V.iload_n dX9_as_12 rfl (i := 2) rfl ?_
        refine V.bipush dX9_as_13 (v := 7) (by decide) ?_
        refine V.ic_lt (tgt := 25) dX9_as_15 (by decide) (fun c15 => ?_) (fun c15 => ?_)
        · exact absurd ⟨(Classical.byContradiction fun z => c5 (b2i_f z)), Int32.not_lt.mp c9, c15⟩ h
        · refine V.aload_n dX9_as_18 rfl (i := 0) rfl ?_
          refine V.ldc dX9_as_19 rfl ctRX9_81 ?_
          refine V.invv (z := mX9_error) (As := [_]) dX9_as_21 rfl mlRX9_82 okX9_error npX9_error rfl rfl rfl ⟨by decide, by decide⟩ (Nat.le_of_ble_eq_true rfl) rfl (Nat.le_of_ble_eq_true rfl) (c_err1   ?_)
          show V cS g (d + 2) mX9_as 24 [some (.ref 0), some (.int a), some (.int w)] [.int (-1000000001 : Int32)] (put (M) 9 1 ((M) 9 1 + 1)) Q
          exact V.ret dX9_as_24 rfl (hbad h)
set_option maxHeartbeats 4000000 in
set_option maxRecDepth 100000 in
theorem c9_change {g : GG} {d : Nat} {M : Mem} {Q : Option Value → Mem → Prop} {a w v : Int32} (hbad : ¬ ((0 ≤ a ∧ a < M 1 2 ∧ a < 8) ∧ mayB w v = true) → Q (some (.int (-1000000001))) (put M 9 1 (M 9 1 + 1))) (hok : ((0 ≤ a ∧ a < M 1 2 ∧ a < 8) ∧ mayB w v = true) → ∀ b, b < 8 → a = nI b → Q (some (.int (prtF M b w))) (put M (30 + b) (if w = 2 then 2 else if w = 3 then 3 else if w = 4 then 4 else if w = 5 then 5 else 6) v)) : V cS g (d + 2) mX9_change 0 [some (.ref 0), some (.int a), some (.int w), some (.int v), none] [] M Q := by
  by_cases h : ((0 ≤ a ∧ a < M 1 2 ∧ a < 8) ∧ mayB w v = true)
  · obtain ⟨b, hb, rfl⟩ := nI_ex (n := 8) (by omega) h.1.1 h.1.2.2
    refine V.aload_n dX9_change_0 rfl (i := 0) rfl ?_
    refine V.iload_n dX9_change_1 rfl (i := 1) rfl ?_
    refine V.invv (z := mX9_isBell) (As := [_]) dX9_change_2 rfl mlRX9_118 okX9_isBell npX9_isBell rfl rfl rfl ⟨by decide, by decide⟩ (Nat.le_of_ble_eq_true rfl) rfl (Nat.le_of_ble_eq_true rfl) (c_isBell   ?_)
    show V cS g (d + 2) mX9_change 5 [some (.ref 0), some (.int (nI b)), some (.int w), some (.int v), none] [.int (b2i (0 ≤ (nI b) ∧ (nI b) < M 1 2 ∧ (nI b) < 8))] (M) Q
    refine V.if_eq (tgt := 16) dX9_change_5 (by decide) (fun q => absurd q ((fun z => b2i_0.mp z h.1))) (fun c5 => ?_)
    refine V.iload_n dX9_change_8 rfl (i := 2) rfl ?_
    refine V.iload_n dX9_change_9 rfl (i := 3) rfl ?_
    refine V.invs (z := mX0_mayBecome) (As := [_, _]) dX9_change_10 rfl mlRX9_124 okX0_mayBecome npX0_mayBecome rfl (Nat.le_of_ble_eq_true rfl) rfl (Nat.le_of_ble_eq_true rfl) (c_mayBecome   ?_)
    show V cS g (d + 2) mX9_change 13 [some (.ref 0), some (.int (nI b)), some (.int w), some (.int v), none] [.int (b2i (mayB w v = true))] (M) Q
    refine V.if_ne (tgt := 23) dX9_change_13 (by decide) (fun c13 => ?_) (fun q => absurd q ((fun z => b2i_0.mp z h.2)))
    refine V.aload_n dX9_change_23 rfl (i := 0) rfl ?_
    refine V.getR dX9_change_24 rfl flRX9_12 rfl ⟨by decide, by decide⟩ ?_
    refine V.getR dX9_change_27 rfl flRX9_108 rfl ⟨by decide, by decide⟩ ?_
    refine V.iload_n dX9_change_30 rfl (i := 1) rfl ?_
    refine V.aaldBN dX9_change_31 rfl ⟨by decide, by decide⟩ (by first | assumption | decide | omega) (by decide) ?_
    refine V.iload_n dX9_change_32 rfl (i := 2) rfl ?_
    refine V.invv (z := mX0_part) (As := [_]) dX9_change_33 rfl mlRX9_121 okX0_part npX0_part rfl (layO30 (by first | assumption | decide | omega)) rfl (inB30 (by first | assumption | decide | omega)) (Nat.le_of_ble_eq_true rfl) rfl (Nat.le_of_ble_eq_true rfl) (c_part  (by first | assumption | decide | omega) ?_)
    show V cS g (d + 2) mX9_change 36 [some (.ref 0), some (.int (nI b)), some (.int w), some (.int v), none] [.int (if w = 0 then (M) (30 + b) 0 else if w = 1 then (M) (30 + b) 1 else if w = 2 then (M) (30 + b) 2 else if w = 3 then (M) (30 + b) 3 else if w = 4 then (M) (30 + b) 4 else if w = 5 then (M) (30 + b) 5 else (M) (30 + b) 6)] ((M)) Q
    refine V.istore dX9_change_36 (i := 4) (by decide) (fun _ h => by cases h; exact Or.inl rfl) rfl ?_
    refine V.aload_n dX9_change_38 rfl (i := 0) rfl ?_
    refine V.getR dX9_change_39 rfl flRX9_12 rfl ⟨by decide, by decide⟩ ?_
    refine V.getR dX9_change_42 rfl flRX9_108 rfl ⟨by decide, by decide⟩ ?_
    refine V.iload_n dX9_change_45 rfl (i := 1) rfl ?_
    refine V.aaldBN dX9_change_46 rfl ⟨by decide, by decide⟩ (by first | assumption | decide | omega) (by decide) ?_
    refine V.iload_n dX9_change_47 rfl (i := 2) rfl ?_
    refine V.iload_n dX9_change_48 rfl (i := 3) rfl ?_
    refine V.invv (z := mX0_changePart) (As := [_, _]) dX9_change_49 rfl mlRX9_127 okX0_changePart npX0_changePart rfl (layO30 (by first | assumption | decide | omega)) rfl (inB30 (by first | assumption | decide | omega)) (Nat.le_of_ble_eq_true rfl) rfl (Nat.le_of_ble_eq_true rfl) (c_changePart  (by first | assumption | decide | omega) ?_)
    show V cS g (d + 2) mX9_change 52 [some (.ref 0), some (.int (nI b)), some (.int w), some (.int v), some (.int (if w = 0 then (M) (30 + b) 0 else if w = 1 then (M) (30 + b) 1 else if w = 2 then (M) (30 + b) 2 else if w = 3 then (M) (30 + b) 3 else if w = 4 then (M) (30 + b) 4 else if w = 5 then (M) (30 + b) 5 else (M) (30 + b) 6))] [] (put ((M)) (30 + b) (if w = 2 then 2 else if w = 3 then 3 else if w = 4 then 4 else if w = 5 then 5 else 6) v) Q
    refine V.iload dX9_change_52 rfl ?_
    exact V.ret dX9_change_54 rfl (hok h b hb rfl)
  · skip
    refine V.aload_n dX9_change_0 rfl (i := 0) rfl ?_
    refine V.iload_n dX9_change_1 rfl (i := 1) rfl ?_
    refine V.invv (z := mX9_isBell) (As := [_]) dX9_change_2 rfl mlRX9_118 okX9_isBell npX9_isBell rfl rfl rfl ⟨by decide, by decide⟩ (Nat.le_of_ble_eq_true rfl) rfl (Nat.le_of_ble_eq_true rfl) (c_isBell   ?_)
    show V cS g (d + 2) mX9_change 5 [some (.ref 0), some (.int a), some (.int w), some (.int v), none] [.int (b2i (0 ≤ a ∧ a < M 1 2 ∧ a < 8))] (M) Q
    refine V.if_eq (tgt := 16) dX9_change_5 (by decide) (fun c5 => ?_) (fun c5 => ?_)
    · refine V.aload_n dX9_change_16 rfl (i := 0) rfl ?_
      refine V.ldc dX9_change_17 rfl ctRX9_81 ?_
      refine V.invv (z := mX9_error) (As := [_]) dX9_change_19 rfl mlRX9_82 okX9_error npX9_error rfl rfl rfl ⟨by decide, by decide⟩ (Nat.le_of_ble_eq_true rfl) rfl (Nat.le_of_ble_eq_true rfl) (c_err1   ?_)
      show V cS g (d + 2) mX9_change 22 [some (.ref 0), some (.int a), some (.int w), some (.int v), none] [.int (-1000000001 : Int32)] (put (M) 9 1 ((M) 9 1 + 1)) Q
      exact V.ret dX9_change_22 rfl (hbad h)
    · refine V.iload_n dX9_change_8 rfl (i := 2) rfl ?_
      refine V.iload_n dX9_change_9 rfl (i := 3) rfl ?_
      refine V.invs (z := mX0_mayBecome) (As := [_, _]) dX9_change_10 rfl mlRX9_124 okX0_mayBecome npX0_mayBecome rfl (Nat.le_of_ble_eq_true rfl) rfl (Nat.le_of_ble_eq_true rfl) (c_mayBecome   ?_)
      show V cS g (d + 2) mX9_change 13 [some (.ref 0), some (.int a), some (.int w), some (.int v), none] [.int (b2i (mayB w v = true))] (M) Q
      refine V.if_ne (tgt := 23) dX9_change_13 (by decide) (fun c13 => ?_) (fun c13 => ?_)
      · exact absurd ⟨(Classical.byContradiction fun z => c5 (b2i_f z)), (Classical.byContradiction fun z => c13 (b2i_f z))⟩ h
      · refine V.aload_n dX9_change_16 rfl (i := 0) rfl ?_
        refine V.ldc dX9_change_17 rfl ctRX9_81 ?_
        refine V.invv (z := mX9_error) (As := [_]) dX9_change_19 rfl mlRX9_82 okX9_error npX9_error rfl rfl rfl ⟨by decide, by decide⟩ (Nat.le_of_ble_eq_true rfl) rfl (Nat.le_of_ble_eq_true rfl) (c_err1   ?_)
        show V cS g (d + 2) mX9_change 22 [some (.ref 0), some (.int a), some (.int w), some (.int v), none] [.int (-1000000001 : Int32)] (put (M) 9 1 ((M) 9 1 + 1)) Q
        exact V.ret dX9_change_22 rfl (hbad h)
set_option maxHeartbeats 4000000 in
set_option maxRecDepth 100000 in
theorem c9_ear {g : GG} {d : Nat} {M : Mem} {Q : Option Value → Mem → Prop} {a : Int32} {n : Nat} (hn : M 1 4 = nI n) (h10 : n ≤ 10) (hbad : ¬ (0 ≤ a ∧ a ≤ 99) → Q (some (.int (-1000000001))) (put M 9 1 (M 9 1 + 1))) (hfull : (0 ≤ a ∧ a ≤ 99) → n = 10 → Q (some (.int (-1000000004))) (put M 9 4 (M 9 4 + 1))) (hok : (0 ≤ a ∧ a ≤ 99) → n < 10 → Q (some (.int (nI n))) (put (put M 12 n a) 1 4 (nI (n + 1)))) : V cS g (d + 2) mX9_ear 0 [some (.ref 0), some (.int a)] [] M Q := by
  by_cases h : (0 ≤ a ∧ a ≤ 99)
  · by_cases q : n < 10
    · skip
      refine V.iload_n dX9_ear_0 rfl (i := 1) rfl ?_
      refine V.invs (z := mX9_isSpot) (As := [_]) dX9_ear_1 rfl mlRX9_77 okX9_isSpot npX9_isSpot rfl (Nat.le_of_ble_eq_true rfl) rfl (Nat.le_of_ble_eq_true rfl) (c_isSpot   ?_)
      show V cS g (d + 2) mX9_ear 4 [some (.ref 0), some (.int a)] [.int (b2i (0 ≤ a ∧ a ≤ 99))] (M) Q
      refine V.if_ne (tgt := 14) dX9_ear_4 (by decide) (fun c4 => ?_) (fun q => absurd q ((fun z => b2i_0.mp z h)))
      refine V.aload_n dX9_ear_14 rfl (i := 0) rfl ?_
      refine V.getR dX9_ear_15 rfl flRX9_12 rfl ⟨by decide, by decide⟩ ?_
      refine V.getI dX9_ear_18 rfl flRX9_144 rfl ⟨by decide, by decide⟩ ?_
      refine V.top (x' := (nI n)) (hn) ?_
      refine V.bipush dX9_ear_21 (v := 10) (by decide) ?_
      refine V.ic_lt (tgt := 33) dX9_ear_23 (by decide) (fun c23 => ?_) (fun q => absurd ((nI_lt (b := 10) (by omega) (by omega))) q)
      refine V.aload_n dX9_ear_33 rfl (i := 0) rfl ?_
      refine V.getR dX9_ear_34 rfl flRX9_12 rfl ⟨by decide, by decide⟩ ?_
      refine V.iload_n dX9_ear_37 rfl (i := 1) rfl ?_
      refine V.invv (z := mX7_addEar) (As := [_]) dX9_ear_38 rfl mlRX9_147 okX7_addEar npX7_addEar rfl rfl rfl ⟨by decide, by decide⟩ (Nat.le_of_ble_eq_true rfl) rfl (Nat.le_of_ble_eq_true rfl) (c_addEar hn q ?_)
      show V cS g (d + 2) mX9_ear 41 [some (.ref 0), some (.int a)] [] (put (put M 12 n a) 1 4 (nI (n + 1))) Q
      refine V.aload_n dX9_ear_41 rfl (i := 0) rfl ?_
      refine V.getR dX9_ear_42 rfl flRX9_12 rfl ⟨by decide, by decide⟩ ?_
      refine V.getI dX9_ear_45 rfl flRX9_144 rfl ⟨by decide, by decide⟩ ?_
      refine V.top (x' := (nI (n + 1))) ((put_s)) ?_
      refine V.iconst dX9_ear_48 (v := 1) (by decide) ?_
      refine V.isub dX9_ear_49 ?_
      exact V.ret dX9_ear_50 rfl (Qi (hok h q) (by first | rfl | exact nI_pred n))
    · obtain rfl : n = 10 := by omega
      refine V.iload_n dX9_ear_0 rfl (i := 1) rfl ?_
      refine V.invs (z := mX9_isSpot) (As := [_]) dX9_ear_1 rfl mlRX9_77 okX9_isSpot npX9_isSpot rfl (Nat.le_of_ble_eq_true rfl) rfl (Nat.le_of_ble_eq_true rfl) (c_isSpot   ?_)
      show V cS g (d + 2) mX9_ear 4 [some (.ref 0), some (.int a)] [.int (b2i (0 ≤ a ∧ a ≤ 99))] (M) Q
      refine V.if_ne (tgt := 14) dX9_ear_4 (by decide) (fun c4 => ?_) (fun q => absurd q ((fun z => b2i_0.mp z h)))
      refine V.aload_n dX9_ear_14 rfl (i := 0) rfl ?_
      refine V.getR dX9_ear_15 rfl flRX9_12 rfl ⟨by decide, by decide⟩ ?_
      refine V.getI dX9_ear_18 rfl flRX9_144 rfl ⟨by decide, by decide⟩ ?_
      refine V.top (x' := (nI 10)) (hn) ?_
      refine V.bipush dX9_ear_21 (v := 10) (by decide) ?_
      refine V.ic_lt (tgt := 33) dX9_ear_23 (by decide) (fun q => absurd q ((by decide))) (fun c23 => ?_)
      refine V.aload_n dX9_ear_26 rfl (i := 0) rfl ?_
      refine V.ldc dX9_ear_27 rfl ctRX9_107 ?_
      refine V.invv (z := mX9_error) (As := [_]) dX9_ear_29 rfl mlRX9_82 okX9_error npX9_error rfl rfl rfl ⟨by decide, by decide⟩ (Nat.le_of_ble_eq_true rfl) rfl (Nat.le_of_ble_eq_true rfl) (c_err4   ?_)
      show V cS g (d + 2) mX9_ear 32 [some (.ref 0), some (.int a)] [.int (-1000000004 : Int32)] (put (M) 9 4 ((M) 9 4 + 1)) Q
      exact V.ret dX9_ear_32 rfl (hfull h rfl)
  · skip
    refine V.iload_n dX9_ear_0 rfl (i := 1) rfl ?_
    refine V.invs (z := mX9_isSpot) (As := [_]) dX9_ear_1 rfl mlRX9_77 okX9_isSpot npX9_isSpot rfl (Nat.le_of_ble_eq_true rfl) rfl (Nat.le_of_ble_eq_true rfl) (c_isSpot   ?_)
    show V cS g (d + 2) mX9_ear 4 [some (.ref 0), some (.int a)] [.int (b2i (0 ≤ a ∧ a ≤ 99))] (M) Q
    refine V.if_ne (tgt := 14) dX9_ear_4 (by decide) (fun c4 => ?_) (fun c4 => ?_)
    · exact absurd (Classical.byContradiction fun z => c4 (b2i_f z)) h
    · refine V.aload_n dX9_ear_7 rfl (i := 0) rfl ?_
      refine V.ldc dX9_ear_8 rfl ctRX9_81 ?_
      refine V.invv (z := mX9_error) (As := [_]) dX9_ear_10 rfl mlRX9_82 okX9_error npX9_error rfl rfl rfl ⟨by decide, by decide⟩ (Nat.le_of_ble_eq_true rfl) rfl (Nat.le_of_ble_eq_true rfl) (c_err1   ?_)
      show V cS g (d + 2) mX9_ear 13 [some (.ref 0), some (.int a)] [.int (-1000000001 : Int32)] (put (M) 9 1 ((M) 9 1 + 1)) Q
      exact V.ret dX9_ear_13 rfl (hbad h)
set_option maxHeartbeats 4000000 in
set_option maxRecDepth 100000 in
theorem c9_heard {g : GG} {d : Nat} {M : Mem} {Q : Option Value → Mem → Prop} {a w : Int32} {n ne : Nat} (hV : VB M n ne) (hbad : ¬ ((0 ≤ a ∧ a < M 1 4 ∧ a < 10) ∧ 0 ≤ w ∧ w ≤ 23) → Q (some (.int (-1000000001))) (put M 9 1 (M 9 1 + 1))) (hok : ((0 ≤ a ∧ a < M 1 4 ∧ a < 10) ∧ 0 ≤ w ∧ w ≤ 23) → ∀ e, e < ne → a = nI e → ∀ M', eqx scrH M M' → Q (some (.int (bI (fun b => hpF M (fun b => strk (M (30 + b) 0) (M (30 + b) 1) (M (30 + b) 6) w) (M 1 5) b e) n))) M') : V cS g (d + 5) mX9_heard 0 [some (.ref 0), some (.int a), some (.int w)] [] M Q := by
  have h10 := hV.2.2.2.1
  by_cases h : ((0 ≤ a ∧ a < M 1 4 ∧ a < 10) ∧ 0 ≤ w ∧ w ≤ 23)
  · have h12 := h.1.2.1
    rw [hV.2.2.1] at h12
    obtain ⟨e, he, rfl⟩ := nI_ex (n := ne) (by omega) h.1.1 h12
    have he10 : e < 10 := by omega
    refine V.aload_n dX9_heard_0 rfl (i := 0) rfl ?_
    refine V.iload_n dX9_heard_1 rfl (i := 1) rfl ?_
    refine V.invv (z := mX9_isEar) (As := [_]) dX9_heard_2 rfl mlRX9_164 okX9_isEar npX9_isEar rfl rfl rfl ⟨by decide, by decide⟩ (Nat.le_of_ble_eq_true rfl) rfl (Nat.le_of_ble_eq_true rfl) (c_isEar   ?_)
    show V cS g (d + 5) mX9_heard 5 [some (.ref 0), some (.int (nI e)), some (.int w)] [.int (b2i (0 ≤ (nI e) ∧ (nI e) < M 1 4 ∧ (nI e) < 10))] (M) Q
    refine V.if_eq (tgt := 15) dX9_heard_5 (by decide) (fun q => absurd q ((fun z => b2i_0.mp z h.1))) (fun c5 => ?_)
    refine V.iload_n dX9_heard_8 rfl (i := 2) rfl ?_
    refine V.invs (z := mX9_isHour) (As := [_]) dX9_heard_9 rfl mlRX9_138 okX9_isHour npX9_isHour rfl (Nat.le_of_ble_eq_true rfl) rfl (Nat.le_of_ble_eq_true rfl) (c_isHour   ?_)
    show V cS g (d + 5) mX9_heard 12 [some (.ref 0), some (.int (nI e)), some (.int w)] [.int (b2i (0 ≤ w ∧ w ≤ 23))] ((M)) Q
    refine V.if_ne (tgt := 22) dX9_heard_12 (by decide) (fun c12 => ?_) (fun q => absurd q ((fun z => b2i_0.mp z h.2)))
    refine V.aload_n dX9_heard_22 rfl (i := 0) rfl ?_
    refine V.getR dX9_heard_23 rfl flRX9_31 rfl ⟨by decide, by decide⟩ ?_
    refine V.iload_n dX9_heard_26 rfl (i := 2) rfl ?_
    refine V.aload_n dX9_heard_27 rfl (i := 0) rfl ?_
    refine V.getR dX9_heard_28 rfl flRX9_12 rfl ⟨by decide, by decide⟩ ?_
    refine V.getI dX9_heard_31 rfl flRX9_94 rfl ⟨by decide, by decide⟩ ?_
    refine V.invv (z := mX1_listen) (As := [_, _]) dX9_heard_34 rfl mlRX9_195 okX1_listen npX1_listen rfl rfl rfl ⟨by decide, by decide⟩ (Nat.le_of_ble_eq_true rfl) rfl (Nat.le_of_ble_eq_true rfl) (c_listen hV (fun M1 hM1 hH1 => ?_))
    show V cS g (d + 5) mX9_heard 37 [some (.ref 0), some (.int (nI e)), some (.int w)] [] M1 Q
    refine V.aload_n dX9_heard_37 rfl (i := 0) rfl ?_
    refine V.getR dX9_heard_38 rfl flRX9_31 rfl ⟨by decide, by decide⟩ ?_
    refine V.iload_n dX9_heard_41 rfl (i := 1) rfl ?_
    refine V.invv (z := mX1_heardAt) (As := [_]) dX9_heard_42 rfl mlRX9_198 okX1_heardAt npX1_heardAt rfl rfl rfl ⟨by decide, by decide⟩ (Nat.le_of_ble_eq_true rfl) rfl (Nat.le_of_ble_eq_true rfl) (c_heardAt  (by first | assumption | decide | omega) ?_)
    show V cS g (d + 5) mX9_heard 45 [some (.ref 0), some (.int (nI e)), some (.int w)] [.int (M1 29 e)] (M1) Q
    exact V.ret dX9_heard_45 rfl (Qi (hok h e he rfl M1 hM1) (hH1.1 e he))
  · skip
    refine V.aload_n dX9_heard_0 rfl (i := 0) rfl ?_
    refine V.iload_n dX9_heard_1 rfl (i := 1) rfl ?_
    refine V.invv (z := mX9_isEar) (As := [_]) dX9_heard_2 rfl mlRX9_164 okX9_isEar npX9_isEar rfl rfl rfl ⟨by decide, by decide⟩ (Nat.le_of_ble_eq_true rfl) rfl (Nat.le_of_ble_eq_true rfl) (c_isEar   ?_)
    show V cS g (d + 5) mX9_heard 5 [some (.ref 0), some (.int a), some (.int w)] [.int (b2i (0 ≤ a ∧ a < M 1 4 ∧ a < 10))] (M) Q
    refine V.if_eq (tgt := 15) dX9_heard_5 (by decide) (fun c5 => ?_) (fun c5 => ?_)
    · refine V.aload_n dX9_heard_15 rfl (i := 0) rfl ?_
      refine V.ldc dX9_heard_16 rfl ctRX9_81 ?_
      refine V.invv (z := mX9_error) (As := [_]) dX9_heard_18 rfl mlRX9_82 okX9_error npX9_error rfl rfl rfl ⟨by decide, by decide⟩ (Nat.le_of_ble_eq_true rfl) rfl (Nat.le_of_ble_eq_true rfl) (c_err1   ?_)
      show V cS g (d + 5) mX9_heard 21 [some (.ref 0), some (.int a), some (.int w)] [.int (-1000000001 : Int32)] (put (M) 9 1 ((M) 9 1 + 1)) Q
      exact V.ret dX9_heard_21 rfl (hbad h)
    · refine V.iload_n dX9_heard_8 rfl (i := 2) rfl ?_
      refine V.invs (z := mX9_isHour) (As := [_]) dX9_heard_9 rfl mlRX9_138 okX9_isHour npX9_isHour rfl (Nat.le_of_ble_eq_true rfl) rfl (Nat.le_of_ble_eq_true rfl) (c_isHour   ?_)
      show V cS g (d + 5) mX9_heard 12 [some (.ref 0), some (.int a), some (.int w)] [.int (b2i (0 ≤ w ∧ w ≤ 23))] ((M)) Q
      refine V.if_ne (tgt := 22) dX9_heard_12 (by decide) (fun c12 => ?_) (fun c12 => ?_)
      · exact absurd ⟨(Classical.byContradiction fun z => c5 (b2i_f z)), (Classical.byContradiction fun z => c12 (b2i_f z))⟩ h
      · refine V.aload_n dX9_heard_15 rfl (i := 0) rfl ?_
        refine V.ldc dX9_heard_16 rfl ctRX9_81 ?_
        refine V.invv (z := mX9_error) (As := [_]) dX9_heard_18 rfl mlRX9_82 okX9_error npX9_error rfl rfl rfl ⟨by decide, by decide⟩ (Nat.le_of_ble_eq_true rfl) rfl (Nat.le_of_ble_eq_true rfl) (c_err1   ?_)
        show V cS g (d + 5) mX9_heard 21 [some (.ref 0), some (.int a), some (.int w)] [.int (-1000000001 : Int32)] (put ((M)) 9 1 (((M)) 9 1 + 1)) Q
        exact V.ret dX9_heard_21 rfl (hbad h)

