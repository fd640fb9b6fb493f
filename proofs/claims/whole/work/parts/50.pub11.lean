/-! ===== public methods: hangs, count ===== -/
set_option maxHeartbeats 4000000 in
set_option maxRecDepth 100000 in
theorem c9_hangs {g : GG} {d : Nat} {M : Mem} {Q : Option Value → Mem → Prop} {a w : Int32} {n ne : Nat} (hV : VB M n ne) (hbad : ¬ ((0 ≤ a ∧ a ≤ 99) ∧ 0 ≤ w ∧ w ≤ 23) → Q (some (.int (-1000000001))) (put M 9 1 (M 9 1 + 1))) (hnone : ((0 ≤ a ∧ a ≤ 99) ∧ 0 ≤ w ∧ w ≤ 23) → ∀ M1 M2, eqx scrH M M1 → eqx [58, 69, 70] M1 M2 → (ldF (fun l => !anB (fun e => bdP M1 (hpH M w) (wyH M) n a e && hpL M1 (nI l) a e) ne) 100) < 0 → Q (some (.int (-1000000002))) (put M2 9 2 (M2 9 2 + 1))) (hok : ((0 ≤ a ∧ a ≤ 99) ∧ 0 ≤ w ∧ w ≤ 23) → ∀ M1 M2, eqx scrH M M1 → eqx [58, 69, 70] M1 M2 → ¬ (ldF (fun l => !anB (fun e => bdP M1 (hpH M w) (wyH M) n a e && hpL M1 (nI l) a e) ne) 100) < 0 → Q (some (.int (ldF (fun l => !anB (fun e => bdP M1 (hpH M w) (wyH M) n a e && hpL M1 (nI l) a e) ne) 100))) M2) : V cS g (d + 5) mX9_hangs 0 [some (.ref 0), some (.int a), some (.int w), none] [] M Q := by
  have h8 := hV.2.1
  by_cases h : ((0 ≤ a ∧ a ≤ 99) ∧ 0 ≤ w ∧ w ≤ 23)
  · skip
    refine V.iload_n dX9_hangs_0 rfl (i := 1) rfl ?_
    refine V.invs (z := mX9_isSpot) (As := [_]) dX9_hangs_1 rfl mlRX9_77 okX9_isSpot npX9_isSpot rfl (Nat.le_of_ble_eq_true rfl) rfl (Nat.le_of_ble_eq_true rfl) (c_isSpot   ?_)
    show V cS g (d + 5) mX9_hangs 4 [some (.ref 0), some (.int a), some (.int w), none] [.int (b2i (0 ≤ a ∧ a ≤ 99))] (M) Q
    refine V.if_eq (tgt := 14) dX9_hangs_4 (by decide) (fun q => absurd q ((fun z => b2i_0.mp z h.1))) (fun c4 => ?_)
    refine V.iload_n dX9_hangs_7 rfl (i := 2) rfl ?_
    refine V.invs (z := mX9_isHour) (As := [_]) dX9_hangs_8 rfl mlRX9_138 okX9_isHour npX9_isHour rfl (Nat.le_of_ble_eq_true rfl) rfl (Nat.le_of_ble_eq_true rfl) (c_isHour   ?_)
    show V cS g (d + 5) mX9_hangs 11 [some (.ref 0), some (.int a), some (.int w), none] [.int (b2i (0 ≤ w ∧ w ≤ 23))] ((M)) Q
    refine V.if_ne (tgt := 21) dX9_hangs_11 (by decide) (fun c11 => ?_) (fun q => absurd q ((fun z => b2i_0.mp z h.2)))
    refine V.aload_n dX9_hangs_21 rfl (i := 0) rfl ?_
    refine V.getR dX9_hangs_22 rfl flRX9_31 rfl ⟨by decide, by decide⟩ ?_
    refine V.iload_n dX9_hangs_25 rfl (i := 2) rfl ?_
    refine V.aload_n dX9_hangs_26 rfl (i := 0) rfl ?_
    refine V.getR dX9_hangs_27 rfl flRX9_12 rfl ⟨by decide, by decide⟩ ?_
    refine V.getI dX9_hangs_30 rfl flRX9_94 rfl ⟨by decide, by decide⟩ ?_
    refine V.invv (z := mX1_listen) (As := [_, _]) dX9_hangs_33 rfl mlRX9_195 okX1_listen npX1_listen rfl rfl rfl ⟨by decide, by decide⟩ (Nat.le_of_ble_eq_true rfl) rfl (Nat.le_of_ble_eq_true rfl) (c_listen hV (fun M1 hM1 hH1 => ?_))
    show V cS g (d + 5) mX9_hangs 36 [some (.ref 0), some (.int a), some (.int w), none] [] M1 Q
    refine V.aload_n dX9_hangs_36 rfl (i := 0) rfl ?_
    refine V.getR dX9_hangs_37 rfl flRX9_47 rfl ⟨by decide, by decide⟩ ?_
    refine V.iload_n dX9_hangs_40 rfl (i := 1) rfl ?_
    refine V.invv (z := mX6_loudestAt) (As := [_]) dX9_hangs_41 rfl mlRX9_297 okX6_loudestAt npX6_loudestAt rfl rfl rfl ⟨by decide, by decide⟩ (Nat.le_of_ble_eq_true rfl) rfl (Nat.le_of_ble_eq_true rfl) (c_la (hV.eq hM1 (by decide) (by decide) (by decide) (fun b hb => by simp; omega)) hH1 h.1 (fun M2 hM2 => ?_))
    show V cS g (d + 5) mX9_hangs 44 [some (.ref 0), some (.int a), some (.int w), none] [.int (ldF (fun l => !anB (fun e => bdP M1 (hpH M w) (wyH M) n a e && hpL M1 (nI l) a e) ne) 100)] M2 Q
    refine V.istore_n dX9_hangs_44 rfl (i := 3) (by decide) (fun _ h => by cases h; exact Or.inl rfl) rfl ?_
    refine V.iload_n dX9_hangs_45 rfl (i := 3) rfl ?_
    refine V.if_ge (tgt := 58) dX9_hangs_46 (by decide) (fun c46 => ?_) (fun c46 => ?_)
    · refine V.iload_n dX9_hangs_58 rfl (i := 3) rfl ?_
      exact V.ret dX9_hangs_59 rfl (by first | exact hnone h M1 M2 hM1 hM2 (Int32.not_le.mp c46) | exact hok h M1 M2 hM1 hM2 (Int32.not_lt.mpr c46))
    · refine V.aload_n dX9_hangs_49 rfl (i := 0) rfl ?_
      refine V.ldc dX9_hangs_50 rfl ctRX9_157 ?_
      refine V.invv (z := mX9_error) (As := [_]) dX9_hangs_52 rfl mlRX9_82 okX9_error npX9_error rfl rfl rfl ⟨by decide, by decide⟩ (Nat.le_of_ble_eq_true rfl) rfl (Nat.le_of_ble_eq_true rfl) (c_err2   ?_)
      show V cS g (d + 5) mX9_hangs 55 [some (.ref 0), some (.int a), some (.int w), some (.int (ldF (fun l => !anB (fun e => bdP M1 (hpH M w) (wyH M) n a e && hpL M1 (nI l) a e) ne) 100))] [.int (-1000000002 : Int32)] (put M2 9 2 (M2 9 2 + 1)) Q
      refine V.goto dX9_hangs_55 (tgt := 59) (by decide) ?_
      exact V.ret dX9_hangs_59 rfl (by first | exact hnone h M1 M2 hM1 hM2 (Int32.not_le.mp c46) | exact hok h M1 M2 hM1 hM2 (Int32.not_lt.mpr c46))
  · skip
    refine V.iload_n dX9_hangs_0 rfl (i := 1) rfl ?_
    refine V.invs (z := mX9_isSpot) (As := [_]) dX9_hangs_1 rfl mlRX9_77 okX9_isSpot npX9_isSpot rfl (Nat.le_of_ble_eq_true rfl) rfl (Nat.le_of_ble_eq_true rfl) (c_isSpot   ?_)
    show V cS g (d + 5) mX9_hangs 4 [some (.ref 0), some (.int a), some (.int w), none] [.int (b2i (0 ≤ a ∧ a ≤ 99))] (M) Q
    refine V.if_eq (tgt := 14) dX9_hangs_4 (by decide) (fun c4 => ?_) (fun c4 => ?_)
    · refine V.aload_n dX9_hangs_14 rfl (i := 0) rfl ?_
      refine V.ldc dX9_hangs_15 rfl ctRX9_81 ?_
      refine V.invv (z := mX9_error) (As := [_]) dX9_hangs_17 rfl mlRX9_82 okX9_error npX9_error rfl rfl rfl ⟨by decide, by decide⟩ (Nat.le_of_ble_eq_true rfl) rfl (Nat.le_of_ble_eq_true rfl) (c_err1   ?_)
      show V cS g (d + 5) mX9_hangs 20 [some (.ref 0), some (.int a), some (.int w), none] [.int (-1000000001 : Int32)] (put (M) 9 1 ((M) 9 1 + 1)) Q
      exact V.ret dX9_hangs_20 rfl (hbad h)
    · refine V.iload_n dX9_hangs_7 rfl (i := 2) rfl ?_
      refine V.invs (z := mX9_isHour) (As := [_]) dX9_hangs_8 rfl mlRX9_138 okX9_isHour npX9_isHour rfl (Nat.le_of_ble_eq_true rfl) rfl (Nat.le_of_ble_eq_true rfl) (c_isHour   ?_)
      show V cS g (d + 5) mX9_hangs 11 [some (.ref 0), some (.int a), some (.int w), none] [.int (b2i (0 ≤ w ∧ w ≤ 23))] ((M)) Q
      refine V.if_ne (tgt := 21) dX9_hangs_11 (by decide) (fun c11 => ?_) (fun c11 => ?_)
      · exact absurd ⟨(Classical.byContradiction fun z => c4 (b2i_f z)), (Classical.byContradiction fun z => c11 (b2i_f z))⟩ h
      · refine V.aload_n dX9_hangs_14 rfl (i := 0) rfl ?_
        refine V.ldc dX9_hangs_15 rfl ctRX9_81 ?_
        refine V.invv (z := mX9_error) (As := [_]) dX9_hangs_17 rfl mlRX9_82 okX9_error npX9_error rfl rfl rfl ⟨by decide, by decide⟩ (Nat.le_of_ble_eq_true rfl) rfl (Nat.le_of_ble_eq_true rfl) (c_err1   ?_)
        show V cS g (d + 5) mX9_hangs 20 [some (.ref 0), some (.int a), some (.int w), none] [.int (-1000000001 : Int32)] (put ((M)) 9 1 (((M)) 9 1 + 1)) Q
        exact V.ret dX9_hangs_20 rfl (hbad h)
set_option maxHeartbeats 4000000 in
set_option maxRecDepth 100000 in
theorem c9_count {g : GG} {d : Nat} {M : Mem} {Q : Option Value → Mem → Prop} {a : Int32} {n : Nat} (hn : M 1 2 = nI n) (h8 : n ≤ 8) (hbad : ¬ (0 ≤ a ∧ a ≤ 7) → Q (some (.int (-1000000001))) (put M 9 1 (M 9 1 + 1))) (h0 : a = 0 → Q (some (.int (M 1 2))) M) (h1 : a = 1 → Q (some (.int (M 1 4))) M) (h2 : a = 2 → Q (some (.int (sI (fun b => M (30 + b) 6) n))) M) (h3 : a = 3 → Q (some (.int (M 1 5))) M) (h4 : a = 4 → Q (some (.int (M 1 9))) M) (h5 : a = 5 → Q (some (.int (M 1 14))) M) (h6 : a = 6 → Q (some (.int (M 7 1))) M) (h7 : a = 7 → Q (some (.int (M 1 12))) M) : V cS g (d + 2) mX9_count 0 [some (.ref 0), some (.int a)] [] M Q := by
  refine V.iload_n dX9_count_0 rfl (i := 1) rfl ?_
  by_cases s1_0 : a = (0 : Int32)
  · refine V.tabIn (tgt := 48) dX9_count_1 (by rw [s1_0]; decide) (by rw [s1_0]; decide) (by rw [s1_0]; rfl) (by decide) ?_
    refine V.aload_n dX9_count_48 rfl (i := 0) rfl ?_
    refine V.getR dX9_count_49 rfl flRX9_12 rfl ⟨by decide, by decide⟩ ?_
    refine V.getI dX9_count_52 rfl flRX9_104 rfl ⟨by decide, by decide⟩ ?_
    exact V.ret dX9_count_55 rfl (h0 s1_0)
  by_cases s1_1 : a = (1 : Int32)
  · refine V.tabIn (tgt := 56) dX9_count_1 (by rw [s1_1]; decide) (by rw [s1_1]; decide) (by rw [s1_1]; rfl) (by decide) ?_
    refine V.aload_n dX9_count_56 rfl (i := 0) rfl ?_
    refine V.getR dX9_count_57 rfl flRX9_12 rfl ⟨by decide, by decide⟩ ?_
    refine V.getI dX9_count_60 rfl flRX9_144 rfl ⟨by decide, by decide⟩ ?_
    exact V.ret dX9_count_63 rfl (h1 s1_1)
  by_cases s1_2 : a = (2 : Int32)
  · refine V.tabIn (tgt := 64) dX9_count_1 (by rw [s1_2]; decide) (by rw [s1_2]; decide) (by rw [s1_2]; rfl) (by decide) ?_
    refine V.aload_n dX9_count_64 rfl (i := 0) rfl ?_
    refine V.getR dX9_count_65 rfl flRX9_12 rfl ⟨by decide, by decide⟩ ?_
    refine V.invv (z := mX7_silentCount) (As := []) dX9_count_68 rfl mlRX9_357 okX7_silentCount npX7_silentCount rfl rfl rfl ⟨by decide, by decide⟩ (Nat.le_of_ble_eq_true rfl) rfl (Nat.le_of_ble_eq_true rfl) (c_silent hn h8 ?_)
    show V cS g (d + 2) mX9_count 71 [some (.ref 0), some (.int a)] [.int (sI (fun b => M (30 + b) 6) n)] M Q
    exact V.ret dX9_count_71 rfl (h2 s1_2)
  by_cases s1_3 : a = (3 : Int32)
  · refine V.tabIn (tgt := 72) dX9_count_1 (by rw [s1_3]; decide) (by rw [s1_3]; decide) (by rw [s1_3]; rfl) (by decide) ?_
    refine V.aload_n dX9_count_72 rfl (i := 0) rfl ?_
    refine V.getR dX9_count_73 rfl flRX9_12 rfl ⟨by decide, by decide⟩ ?_
    refine V.getI dX9_count_76 rfl flRX9_94 rfl ⟨by decide, by decide⟩ ?_
    exact V.ret dX9_count_79 rfl (h3 s1_3)
  by_cases s1_4 : a = (4 : Int32)
  · refine V.tabIn (tgt := 80) dX9_count_1 (by rw [s1_4]; decide) (by rw [s1_4]; decide) (by rw [s1_4]; rfl) (by decide) ?_
    refine V.aload_n dX9_count_80 rfl (i := 0) rfl ?_
    refine V.getR dX9_count_81 rfl flRX9_12 rfl ⟨by decide, by decide⟩ ?_
    refine V.getI dX9_count_84 rfl flRX9_201 rfl ⟨by decide, by decide⟩ ?_
    exact V.ret dX9_count_87 rfl (h4 s1_4)
  by_cases s1_5 : a = (5 : Int32)
  · refine V.tabIn (tgt := 88) dX9_count_1 (by rw [s1_5]; decide) (by rw [s1_5]; decide) (by rw [s1_5]; rfl) (by decide) ?_
    refine V.aload_n dX9_count_88 rfl (i := 0) rfl ?_
    refine V.getR dX9_count_89 rfl flRX9_12 rfl ⟨by decide, by decide⟩ ?_
    refine V.getI dX9_count_92 rfl flRX9_348 rfl ⟨by decide, by decide⟩ ?_
    exact V.ret dX9_count_95 rfl (h5 s1_5)
  by_cases s1_6 : a = (6 : Int32)
  · refine V.tabIn (tgt := 96) dX9_count_1 (by rw [s1_6]; decide) (by rw [s1_6]; decide) (by rw [s1_6]; rfl) (by decide) ?_
    refine V.aload_n dX9_count_96 rfl (i := 0) rfl ?_
    refine V.getR dX9_count_97 rfl flRX9_54 rfl ⟨by decide, by decide⟩ ?_
    refine V.getI dX9_count_100 rfl flRX9_316 rfl ⟨by decide, by decide⟩ ?_
    exact V.ret dX9_count_103 rfl (h6 s1_6)
  by_cases s1_7 : a = (7 : Int32)
  · refine V.tabIn (tgt := 104) dX9_count_1 (by rw [s1_7]; decide) (by rw [s1_7]; decide) (by rw [s1_7]; rfl) (by decide) ?_
    refine V.aload_n dX9_count_104 rfl (i := 0) rfl ?_
    refine V.getR dX9_count_105 rfl flRX9_12 rfl ⟨by decide, by decide⟩ ?_
    refine V.getI dX9_count_108 rfl flRX9_309 rfl ⟨by decide, by decide⟩ ?_
    exact V.ret dX9_count_111 rfl (h7 s1_7)
  · refine V.tabOut (tgt := 112) dX9_count_1 (by have z0 := lv_neT (a := 0) s1_0 (by decide); have z1 := lv_neT (a := 1) s1_1 (by decide); have z2 := lv_neT (a := 2) s1_2 (by decide); have z3 := lv_neT (a := 3) s1_3 (by decide); have z4 := lv_neT (a := 4) s1_4 (by decide); have z5 := lv_neT (a := 5) s1_5 (by decide); have z6 := lv_neT (a := 6) s1_6 (by decide); have z7 := lv_neT (a := 7) s1_7 (by decide); omega) (by decide) ?_
    refine V.aload_n dX9_count_112 rfl (i := 0) rfl ?_
    refine V.ldc dX9_count_113 rfl ctRX9_81 ?_
    refine V.invv (z := mX9_error) (As := [_]) dX9_count_115 rfl mlRX9_82 okX9_error npX9_error rfl rfl rfl ⟨by decide, by decide⟩ (Nat.le_of_ble_eq_true rfl) rfl (Nat.le_of_ble_eq_true rfl) (c_err1   ?_)
    show V cS g (d + 2) mX9_count 118 [some (.ref 0), some (.int a)] [.int (-1000000001 : Int32)] (put M 9 1 (M 9 1 + 1)) Q
    exact V.ret dX9_count_118 rfl (hbad (fun z => by simp only [Int32.lt_iff_toInt_lt, Int32.le_iff_toInt_le, ← Int32.toInt_inj, Int32.reduceToInt] at *; omega))

