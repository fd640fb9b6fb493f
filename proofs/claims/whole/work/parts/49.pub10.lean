/-! ===== public methods: days, sheet ===== -/
set_option maxHeartbeats 4000000 in
set_option maxRecDepth 100000 in
theorem c9_days {g : GG} {d : Nat} {M : Mem} {Q : Option Value → Mem → Prop} {a : Int32} {n : Nat} (hn : M 1 2 = nI n) (h8 : n ≤ 8) (hk : ∀ b, b < 8 → 0 ≤ M (30 + b) 0 ∧ M (30 + b) 0 ≤ 6) (hw : sz50 (M 15 1)) (hbad : ¬ (1 ≤ a ∧ a ≤ 60) → Q (some (.int (-1000000001))) (put M 9 1 (M 9 1 + 1))) (hok : (1 ≤ a ∧ a ≤ 60) → ∀ N, N ≤ 60 → a = nI N → ∀ M', eqx [72, 73] (zs M (daysF (fun a r m => lawG M a r m 0 0) (fun b => M (30 + b) 0) (fun b => M (30 + b) 1) n N (M 1 12, fun b => M (30 + b) 2))) M' → Q (some (.int (sI (fun b => M' (30 + b) 2) n))) M') : V cS g (d + 4) mX9_days 0 [some (.ref 0), some (.int a)] [] M Q := by
  by_cases h : (1 ≤ a ∧ a ≤ 60)
  · obtain ⟨N, hN, rfl⟩ := nI_ex (n := 61) (by omega) (Int32.le_trans (by decide) h.1) (Int32.lt_of_le_of_lt h.2 (by decide))
    have hN60 : N ≤ 60 := by omega
    refine V.iload_n dX9_days_0 rfl (i := 1) rfl ?_
    refine V.iconst dX9_days_1 (v := 1) (by decide) ?_
    refine V.ic_lt (tgt := 11) dX9_days_2 (by decide) (fun q => absurd q ((Int32.not_lt.mpr h.1))) (fun c2 => ?_)
    refine V.iload_n dX9_days_5 rfl (i := 1) rfl ?_
    refine V.bipush dX9_days_6 (v := 60) (by decide) ?_
    refine V.ic_le (tgt := 18) dX9_days_8 (by decide) (fun c8 => ?_) (fun q => absurd ((h.2)) q)
    refine V.aload_n dX9_days_18 rfl (i := 0) rfl ?_
    refine V.getR dX9_days_19 rfl flRX9_12 rfl ⟨by decide, by decide⟩ ?_
    refine V.iload_n dX9_days_22 rfl (i := 1) rfl ?_
    refine V.invv (z := mX7_goDays) (As := [_]) dX9_days_23 rfl mlRX9_300 okX7_goDays npX7_goDays rfl rfl rfl ⟨by decide, by decide⟩ (Nat.le_of_ble_eq_true rfl) rfl (Nat.le_of_ble_eq_true rfl) (c_goDays hN60 hn h8 hk hw (fun M1 hM1 => ?_))
    show V cS g (d + 4) mX9_days 26 [some (.ref 0), some (.int (nI N))] [] M1 Q
    refine V.aload_n dX9_days_26 rfl (i := 0) rfl ?_
    refine V.getR dX9_days_27 rfl flRX9_12 rfl ⟨by decide, by decide⟩ ?_
    refine V.invv (z := mX7_spotsTogether) (As := []) dX9_days_30 rfl mlRX9_303 okX7_spotsTogether npX7_spotsTogether rfl rfl rfl ⟨by decide, by decide⟩ (Nat.le_of_ble_eq_true rfl) rfl (Nat.le_of_ble_eq_true rfl) (c_spots (by rw [hM1 1 (by decide), zs_1 (by decide)]; exact hn) h8 ?_)
    show V cS g (d + 4) mX9_days 33 [some (.ref 0), some (.int (nI N))] [.int (sI (fun b => M1 (30 + b) 2) n)] M1 Q
    exact V.ret dX9_days_33 rfl (hok h N hN60 rfl M1 hM1)
  · skip
    refine V.iload_n dX9_days_0 rfl (i := 1) rfl ?_
    refine V.iconst dX9_days_1 (v := 1) (by decide) ?_
    refine V.ic_lt (tgt := 11) dX9_days_2 (by decide) (fun c2 => ?_) (fun c2 => ?_)
    · refine V.aload_n dX9_days_11 rfl (i := 0) rfl ?_
      refine V.ldc dX9_days_12 rfl ctRX9_81 ?_
      refine V.invv (z := mX9_error) (As := [_]) dX9_days_14 rfl mlRX9_82 okX9_error npX9_error rfl rfl rfl ⟨by decide, by decide⟩ (Nat.le_of_ble_eq_true rfl) rfl (Nat.le_of_ble_eq_true rfl) (c_err1   ?_)
      show V cS g (d + 4) mX9_days 17 [some (.ref 0), some (.int a)] [.int (-1000000001 : Int32)] (put M 9 1 (M 9 1 + 1)) Q
      exact V.ret dX9_days_17 rfl (hbad h)
    · refine V.iload_n dX9_days_5 rfl (i := 1) rfl ?_
      refine V.bipush dX9_days_6 (v := 60) (by decide) ?_
      refine V.ic_le (tgt := 18) dX9_days_8 (by decide) (fun c8 => ?_) (fun c8 => ?_)
      · exact absurd ⟨Int32.not_lt.mp c2, c8⟩ h
      · refine V.aload_n dX9_days_11 rfl (i := 0) rfl ?_
        refine V.ldc dX9_days_12 rfl ctRX9_81 ?_
        refine V.invv (z := mX9_error) (As := [_]) dX9_days_14 rfl mlRX9_82 okX9_error npX9_error rfl rfl rfl ⟨by decide, by decide⟩ (Nat.le_of_ble_eq_true rfl) rfl (Nat.le_of_ble_eq_true rfl) (c_err1   ?_)
        show V cS g (d + 4) mX9_days 17 [some (.ref 0), some (.int a)] [.int (-1000000001 : Int32)] (put M 9 1 (M 9 1 + 1)) Q
        exact V.ret dX9_days_17 rfl (hbad h)
set_option maxHeartbeats 4000000 in
set_option maxRecDepth 100000 in
theorem c9_sheet {g : GG} {d : Nat} {M : Mem} {Q : Option Value → Mem → Prop} {a b c : Int32} (hbad : ¬ ((0 ≤ a ∧ a ≤ 3) ∧ (b = 0 ∨ b = 8 ∨ b = 16 ∨ b = 32)) → Q (some (.int (-1000000001))) (put M 9 1 (M 9 1 + 1))) (h0 : ((0 ≤ a ∧ a ≤ 3) ∧ (b = 0 ∨ b = 8 ∨ b = 16 ∨ b = 32)) → ∀ s, s < 4 → a = nI s → b = 0 → Q (some (.int 1)) (um (put (put M 62 s 0) 63 s 0) (64 + s) (fun i => if i < 40 then 0 else M (64 + s) i))) (hst : ((0 ≤ a ∧ a ≤ 3) ∧ (b = 0 ∨ b = 8 ∨ b = 16 ∨ b = 32)) → ¬ b = 0 → c < 0 → Q (some (.int (-1000000003))) (put M 9 3 (M 9 3 + 1))) (hlong : ((0 ≤ a ∧ a ≤ 3) ∧ (b = 0 ∨ b = 8 ∨ b = 16 ∨ b = 32)) → ¬ b = 0 → ¬ c < 0 → ¬ c ≤ 40 → Q (some (.int (-1000000001))) (put M 9 1 (M 9 1 + 1))) (hok : ((0 ≤ a ∧ a ≤ 3) ∧ (b = 0 ∨ b = 8 ∨ b = 16 ∨ b = 32)) → ¬ b = 0 → ¬ c < 0 → c ≤ 40 → ∀ s, s < 4 → a = nI s → Q (some (.int 1)) (um (put (put M 62 s b) 63 s c) (64 + s) (fun i => if i < 40 then 0 else M (64 + s) i))) : V cS g (d + 2) mX9_sheet 0 [some (.ref 0), some (.int a), some (.int b), some (.int c)] [] M Q := by
  by_cases h : ((0 ≤ a ∧ a ≤ 3) ∧ (b = 0 ∨ b = 8 ∨ b = 16 ∨ b = 32))
  · obtain ⟨s, hs, rfl⟩ := nI_ex (n := 4) (by omega) h.1.1 (Int32.lt_of_le_of_lt h.1.2 (by decide))
    refine V.iload_n dX9_sheet_0 rfl (i := 1) rfl ?_
    refine V.invs (z := mX4_canBe) (As := [_]) dX9_sheet_1 rfl mlRX9_151 okX4_canBe npX4_canBe rfl (Nat.le_of_ble_eq_true rfl) rfl (Nat.le_of_ble_eq_true rfl) (c_canBe   ?_)
    show V cS g (d + 2) mX9_sheet 4 [some (.ref 0), some (.int (nI s)), some (.int b), some (.int c)] [.int (b2i (0 ≤ (nI s) ∧ (nI s) ≤ 3))] (M) Q
    refine V.if_eq (tgt := 14) dX9_sheet_4 (by decide) (fun q => absurd q ((fun z => b2i_0.mp z h.1))) (fun c4 => ?_)
    refine V.iload_n dX9_sheet_7 rfl (i := 2) rfl ?_
    refine V.invs (z := mX4_canHave) (As := [_]) dX9_sheet_8 rfl mlRX9_322 okX4_canHave npX4_canHave rfl (Nat.le_of_ble_eq_true rfl) rfl (Nat.le_of_ble_eq_true rfl) (c_canHave   ?_)
    show V cS g (d + 2) mX9_sheet 11 [some (.ref 0), some (.int (nI s)), some (.int b), some (.int c)] [.int (b2i (b = 0 ∨ b = 8 ∨ b = 16 ∨ b = 32))] ((M)) Q
    refine V.if_ne (tgt := 21) dX9_sheet_11 (by decide) (fun c11 => ?_) (fun q => absurd q ((fun z => b2i_0.mp z h.2)))
    refine V.iload_n dX9_sheet_21 rfl (i := 2) rfl ?_
    refine V.if_ne (tgt := 37) dX9_sheet_22 (by decide) (fun c22 => ?_) (fun c22 => ?_)
    · refine V.iload_n dX9_sheet_37 rfl (i := 3) rfl ?_
      refine V.if_ge (tgt := 48) dX9_sheet_38 (by decide) (fun c38 => ?_) (fun c38 => ?_)
      · refine V.iload_n dX9_sheet_48 rfl (i := 3) rfl ?_
        refine V.bipush dX9_sheet_49 (v := 40) (by decide) ?_
        refine V.ic_le (tgt := 61) dX9_sheet_51 (by decide) (fun c51 => ?_) (fun c51 => ?_)
        · refine V.aload_n dX9_sheet_61 rfl (i := 0) rfl ?_
          refine V.getR dX9_sheet_62 rfl flRX9_61 rfl ⟨by decide, by decide⟩ ?_
          refine V.iload_n dX9_sheet_65 rfl (i := 1) rfl ?_
          refine V.iload_n dX9_sheet_66 rfl (i := 2) rfl ?_
          refine V.iload_n dX9_sheet_67 rfl (i := 3) rfl ?_
          refine V.invv (z := mX4_begin) (As := [_, _, _]) dX9_sheet_68 rfl mlRX9_325 okX4_begin npX4_begin rfl rfl rfl ⟨by decide, by decide⟩ (Nat.le_of_ble_eq_true rfl) rfl (Nat.le_of_ble_eq_true rfl) (c_sheetBegin hs ?_)
          show V cS g (d + 2) mX9_sheet 71 [some (.ref 0), some (.int (nI s)), some (.int b), some (.int c)] [] (um (put (put M 62 s b) 63 s c) (64 + s) (fun i => if i < 40 then 0 else M (64 + s) i)) Q
          refine V.iconst dX9_sheet_71 (v := 1) (by decide) ?_
          exact V.ret dX9_sheet_72 rfl (hok h c22 (Int32.not_lt.mpr c38) c51 s hs rfl)
        · refine V.aload_n dX9_sheet_54 rfl (i := 0) rfl ?_
          refine V.ldc dX9_sheet_55 rfl ctRX9_81 ?_
          refine V.invv (z := mX9_error) (As := [_]) dX9_sheet_57 rfl mlRX9_82 okX9_error npX9_error rfl rfl rfl ⟨by decide, by decide⟩ (Nat.le_of_ble_eq_true rfl) rfl (Nat.le_of_ble_eq_true rfl) (c_err1   ?_)
          show V cS g (d + 2) mX9_sheet 60 [some (.ref 0), some (.int (nI s)), some (.int b), some (.int c)] [.int (-1000000001 : Int32)] (put ((M)) 9 1 (((M)) 9 1 + 1)) Q
          exact V.ret dX9_sheet_60 rfl (hlong h c22 (Int32.not_lt.mpr c38) c51)
      · refine V.aload_n dX9_sheet_41 rfl (i := 0) rfl ?_
        refine V.ldc dX9_sheet_42 rfl ctRX9_248 ?_
        refine V.invv (z := mX9_error) (As := [_]) dX9_sheet_44 rfl mlRX9_82 okX9_error npX9_error rfl rfl rfl ⟨by decide, by decide⟩ (Nat.le_of_ble_eq_true rfl) rfl (Nat.le_of_ble_eq_true rfl) (c_err3   ?_)
        show V cS g (d + 2) mX9_sheet 47 [some (.ref 0), some (.int (nI s)), some (.int b), some (.int c)] [.int (-1000000003 : Int32)] (put ((M)) 9 3 (((M)) 9 3 + 1)) Q
        exact V.ret dX9_sheet_47 rfl (hst h c22 (Int32.not_le.mp c38))
    · refine V.aload_n dX9_sheet_25 rfl (i := 0) rfl ?_
      refine V.getR dX9_sheet_26 rfl flRX9_61 rfl ⟨by decide, by decide⟩ ?_
      refine V.iload_n dX9_sheet_29 rfl (i := 1) rfl ?_
      refine V.iconst dX9_sheet_30 (v := 0) (by decide) ?_
      refine V.iconst dX9_sheet_31 (v := 0) (by decide) ?_
      refine V.invv (z := mX4_begin) (As := [_, _, _]) dX9_sheet_32 rfl mlRX9_325 okX4_begin npX4_begin rfl rfl rfl ⟨by decide, by decide⟩ (Nat.le_of_ble_eq_true rfl) rfl (Nat.le_of_ble_eq_true rfl) (c_sheetBegin hs ?_)
      show V cS g (d + 2) mX9_sheet 35 [some (.ref 0), some (.int (nI s)), some (.int b), some (.int c)] [] (um (put (put M 62 s 0) 63 s 0) (64 + s) (fun i => if i < 40 then 0 else M (64 + s) i)) Q
      refine V.iconst dX9_sheet_35 (v := 1) (by decide) ?_
      exact V.ret dX9_sheet_36 rfl (h0 h s hs rfl c22)
  · skip
    refine V.iload_n dX9_sheet_0 rfl (i := 1) rfl ?_
    refine V.invs (z := mX4_canBe) (As := [_]) dX9_sheet_1 rfl mlRX9_151 okX4_canBe npX4_canBe rfl (Nat.le_of_ble_eq_true rfl) rfl (Nat.le_of_ble_eq_true rfl) (c_canBe   ?_)
    show V cS g (d + 2) mX9_sheet 4 [some (.ref 0), some (.int a), some (.int b), some (.int c)] [.int (b2i (0 ≤ a ∧ a ≤ 3))] (M) Q
    refine V.if_eq (tgt := 14) dX9_sheet_4 (by decide) (fun c4 => ?_) (fun c4 => ?_)
    · refine V.aload_n dX9_sheet_14 rfl (i := 0) rfl ?_
      refine V.ldc dX9_sheet_15 rfl ctRX9_81 ?_
      refine V.invv (z := mX9_error) (As := [_]) dX9_sheet_17 rfl mlRX9_82 okX9_error npX9_error rfl rfl rfl ⟨by decide, by decide⟩ (Nat.le_of_ble_eq_true rfl) rfl (Nat.le_of_ble_eq_true rfl) (c_err1   ?_)
      show V cS g (d + 2) mX9_sheet 20 [some (.ref 0), some (.int a), some (.int b), some (.int c)] [.int (-1000000001 : Int32)] (put (M) 9 1 ((M) 9 1 + 1)) Q
      exact V.ret dX9_sheet_20 rfl (hbad h)
    · refine V.iload_n dX9_sheet_7 rfl (i := 2) rfl ?_
      refine V.invs (z := mX4_canHave) (As := [_]) dX9_sheet_8 rfl mlRX9_322 okX4_canHave npX4_canHave rfl (Nat.le_of_ble_eq_true rfl) rfl (Nat.le_of_ble_eq_true rfl) (c_canHave   ?_)
      show V cS g (d + 2) mX9_sheet 11 [some (.ref 0), some (.int a), some (.int b), some (.int c)] [.int (b2i (b = 0 ∨ b = 8 ∨ b = 16 ∨ b = 32))] ((M)) Q
      refine V.if_ne (tgt := 21) dX9_sheet_11 (by decide) (fun c11 => ?_) (fun c11 => ?_)
      · exact absurd ⟨(Classical.byContradiction fun z => c4 (b2i_f z)), (Classical.byContradiction fun z => c11 (b2i_f z))⟩ h
      · refine V.aload_n dX9_sheet_14 rfl (i := 0) rfl ?_
        refine V.ldc dX9_sheet_15 rfl ctRX9_81 ?_
        refine V.invv (z := mX9_error) (As := [_]) dX9_sheet_17 rfl mlRX9_82 okX9_error npX9_error rfl rfl rfl ⟨by decide, by decide⟩ (Nat.le_of_ble_eq_true rfl) rfl (Nat.le_of_ble_eq_true rfl) (c_err1   ?_)
        show V cS g (d + 2) mX9_sheet 20 [some (.ref 0), some (.int a), some (.int b), some (.int c)] [.int (-1000000001 : Int32)] (put ((M)) 9 1 (((M)) 9 1 + 1)) Q
        exact V.ret dX9_sheet_20 rfl (hbad h)

