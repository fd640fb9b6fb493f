/-! ===== public methods: way ===== -/
set_option maxHeartbeats 4000000 in
set_option maxRecDepth 100000 in
theorem c9_way {g : GG} {d : Nat} {M : Mem} {Q : Option Value → Mem → Prop} {a w v : Int32} {n ne : Nat} (hV : VB M n ne) (hbad : ¬ ((0 ≤ a ∧ a < M 1 2 ∧ a < 8) ∧ 0 ≤ w ∧ w < M 1 4 ∧ w < 10) → Q (some (.int (-1000000001))) (put M 9 1 (M 9 1 + 1))) (hbad2 : ((0 ≤ a ∧ a < M 1 2 ∧ a < 8) ∧ 0 ≤ w ∧ w < M 1 4 ∧ w < 10) → ¬ (0 ≤ v ∧ v ≤ 4) → Q (some (.int (-1000000001))) (put M 9 1 (M 9 1 + 1))) (h0 : ((0 ≤ a ∧ a < M 1 2 ∧ a < 8) ∧ 0 ≤ w ∧ w < M 1 4 ∧ w < 10) → ∀ b e, b < 8 → e < 10 → a = nI b → w = nI e → v = 0 → Q (some (.int (if 0 ≤ (M (30 + b) 2 - M 12 e) then (M (30 + b) 2 - M 12 e) else 0 - (M (30 + b) 2 - M 12 e)))) M) (h1 : ((0 ≤ a ∧ a < M 1 2 ∧ a < 8) ∧ 0 ≤ w ∧ w < M 1 4 ∧ w < 10) → ∀ b e, b < 8 → e < 10 → a = nI b → w = nI e → v = 1 → ∀ f t, f < 100 → t < 100 → M (30 + b) 2 = nI f → M 12 e = nI t → Q (some (.int (if f < t then (if f + 1 < t then M 10 t - M 10 (f + 1) else 0) else (if t + 1 < f then M 10 f - M 10 (t + 1) else 0)))) M) (h2 : ((0 ≤ a ∧ a < M 1 2 ∧ a < 8) ∧ 0 ≤ w ∧ w < M 1 4 ∧ w < 10) → ∀ b e, b < 8 → e < 10 → a = nI b → w = nI e → v = 2 → Q (some (.int (wayF (M (30 + b) 2) (M 12 e) (M 1 5)))) M) (h3 : ((0 ≤ a ∧ a < M 1 2 ∧ a < 8) ∧ 0 ≤ w ∧ w < M 1 4 ∧ w < 10) → ∀ b e, b < 8 → e < 10 → a = nI b → w = nI e → v = 3 → ∀ M', eqx [69, 70] M M' → Q (some (.int (strS M (M (30 + b) 0) (M (30 + b) 3) (M (30 + b) 2) (M 12 e) (M 1 5)))) M') (h4 : ((0 ≤ a ∧ a < M 1 2 ∧ a < 8) ∧ 0 ≤ w ∧ w < M 1 4 ∧ w < 10) → ∀ b e, b < 8 → e < 10 → a = nI b → w = nI e → v = 4 → Q (some (.int (M (30 + b) 4 + wayF (M (30 + b) 2) (M 12 e) (M 1 5)))) M) : V cS g (d + 5) mX9_way 0 [some (.ref 0), some (.int a), some (.int w), some (.int v), none, none] [] M Q := by
  by_cases h : ((0 ≤ a ∧ a < M 1 2 ∧ a < 8) ∧ 0 ≤ w ∧ w < M 1 4 ∧ w < 10)
  · obtain ⟨b, hb, rfl⟩ := nI_ex (n := 8) (by omega) h.1.1 h.1.2.2
    obtain ⟨e, he, rfl⟩ := nI_ex (n := 10) (by omega) h.2.1 h.2.2.2
    have hs := hV.2.2.2.2.2.1 b hb
    have hq := hV.2.2.2.2.2.2 e he
    obtain ⟨f, hf, hff⟩ := nI_ex (n := 100) (by omega) hs.1 (Int32.lt_of_le_of_lt hs.2 (by decide))
    obtain ⟨t, ht, htt⟩ := nI_ex (n := 100) (by omega) hq.1 (Int32.lt_of_le_of_lt hq.2 (by decide))
    refine V.aload_n dX9_way_0 rfl (i := 0) rfl ?_
    refine V.iload_n dX9_way_1 rfl (i := 1) rfl ?_
    refine V.invv (z := mX9_isBell) (As := [_]) dX9_way_2 rfl mlRX9_118 okX9_isBell npX9_isBell rfl rfl rfl ⟨by decide, by decide⟩ (Nat.le_of_ble_eq_true rfl) rfl (Nat.le_of_ble_eq_true rfl) (c_isBell   ?_)
    show V cS g (d + 5) mX9_way 5 [some (.ref 0), some (.int (nI b)), some (.int (nI e)), some (.int v), none, none] [.int (b2i (0 ≤ (nI b) ∧ (nI b) < M 1 2 ∧ (nI b) < 8))] (M) Q
    refine V.if_eq (tgt := 16) dX9_way_5 (by decide) (fun q => absurd q ((fun z => b2i_0.mp z h.1))) (fun c5 => ?_)
    refine V.aload_n dX9_way_8 rfl (i := 0) rfl ?_
    refine V.iload_n dX9_way_9 rfl (i := 2) rfl ?_
    refine V.invv (z := mX9_isEar) (As := [_]) dX9_way_10 rfl mlRX9_164 okX9_isEar npX9_isEar rfl rfl rfl ⟨by decide, by decide⟩ (Nat.le_of_ble_eq_true rfl) rfl (Nat.le_of_ble_eq_true rfl) (c_isEar   ?_)
    show V cS g (d + 5) mX9_way 13 [some (.ref 0), some (.int (nI b)), some (.int (nI e)), some (.int v), none, none] [.int (b2i (0 ≤ (nI e) ∧ (nI e) < (M) 1 4 ∧ (nI e) < 10))] ((M)) Q
    refine V.if_ne (tgt := 23) dX9_way_13 (by decide) (fun c13 => ?_) (fun q => absurd q ((fun z => b2i_0.mp z h.2)))
    refine V.aload_n dX9_way_23 rfl (i := 0) rfl ?_
    refine V.getR dX9_way_24 rfl flRX9_12 rfl ⟨by decide, by decide⟩ ?_
    refine V.getR dX9_way_27 rfl flRX9_108 rfl ⟨by decide, by decide⟩ ?_
    refine V.iload_n dX9_way_30 rfl (i := 1) rfl ?_
    refine V.aaldBN dX9_way_31 rfl ⟨by decide, by decide⟩ (by first | assumption | decide | omega) (by decide) ?_
    refine V.astore dX9_way_32 (i := 4) (by decide) (fun _ h => by cases h; exact Or.inl rfl) rfl ?_
    refine V.aload_n dX9_way_34 rfl (i := 0) rfl ?_
    refine V.getR dX9_way_35 rfl flRX9_12 rfl ⟨by decide, by decide⟩ ?_
    refine V.getR dX9_way_38 rfl flRX9_167 rfl ⟨by decide, by decide⟩ ?_
    refine V.iload_n dX9_way_41 rfl (i := 2) rfl ?_
    refine V.ialdN dX9_way_42 rfl ⟨by decide, by decide⟩ (by first | assumption | decide | omega) (by decide) ?_
    refine V.istore dX9_way_43 (i := 5) (by decide) (fun _ h => by cases h; exact Or.inl rfl) rfl ?_
    refine V.iload_n dX9_way_45 rfl (i := 3) rfl ?_
    by_cases s46_0 : v = (0 : Int32)
    · refine V.tabIn (tgt := 80) dX9_way_46 (by rw [s46_0]; decide) (by rw [s46_0]; decide) (by rw [s46_0]; rfl) (by decide) ?_
      refine V.aload dX9_way_80 rfl ?_
      refine V.getI dX9_way_82 rfl flRX9_170 (fkB30 (by first | assumption | decide | omega) (by decide)) (inB30 (by first | assumption | decide | omega)) ?_
      refine V.iload dX9_way_85 rfl ?_
      refine V.isub dX9_way_87 ?_
      refine V.mabs dX9_way_88 rfl mlRX9_173 (Nat.le_of_ble_eq_true rfl) ?_
      exact V.ret dX9_way_91 rfl (h0 h b e hb he rfl rfl s46_0)
    by_cases s46_1 : v = (1 : Int32)
    · refine V.tabIn (tgt := 92) dX9_way_46 (by rw [s46_1]; decide) (by rw [s46_1]; decide) (by rw [s46_1]; rfl) (by decide) ?_
      refine V.aload_n dX9_way_92 rfl (i := 0) rfl ?_
      refine V.getR dX9_way_93 rfl flRX9_12 rfl ⟨by decide, by decide⟩ ?_
      refine V.aload dX9_way_96 rfl ?_
      refine V.getI dX9_way_98 rfl flRX9_170 (fkB30 (by first | assumption | decide | omega) (by decide)) (inB30 (by first | assumption | decide | omega)) ?_
      refine V.iload dX9_way_101 rfl ?_
      refine V.top (x' := (nI t)) (htt) ?_
      refine V.top1 (x' := (nI f)) (hff) ?_
      refine V.invv (z := mX7_hidBetween) (As := [_, _]) dX9_way_103 rfl mlRX9_178 okX7_hidBetween npX7_hidBetween rfl rfl rfl ⟨by decide, by decide⟩ (Nat.le_of_ble_eq_true rfl) rfl (Nat.le_of_ble_eq_true rfl) (c_hid hf ht ?_)
      show V cS g (d + 5) mX9_way 106 [some (.ref 0), some (.int (nI b)), some (.int (nI e)), some (.int v), some (.ref (30 + b)), some (.int (((M)) 12 e))] [.int (if f < t then (if f + 1 < t then M 10 t - M 10 (f + 1) else 0) else (if t + 1 < f then M 10 f - M 10 (t + 1) else 0))] M Q
      exact V.ret dX9_way_106 rfl (h1 h b e hb he rfl rfl s46_1 f t hf ht hff htt)
    by_cases s46_2 : v = (2 : Int32)
    · refine V.tabIn (tgt := 107) dX9_way_46 (by rw [s46_2]; decide) (by rw [s46_2]; decide) (by rw [s46_2]; rfl) (by decide) ?_
      refine V.aload dX9_way_107 rfl ?_
      refine V.getI dX9_way_109 rfl flRX9_170 (fkB30 (by first | assumption | decide | omega) (by decide)) (inB30 (by first | assumption | decide | omega)) ?_
      refine V.iload dX9_way_112 rfl ?_
      refine V.aload_n dX9_way_114 rfl (i := 0) rfl ?_
      refine V.getR dX9_way_115 rfl flRX9_12 rfl ⟨by decide, by decide⟩ ?_
      refine V.getI dX9_way_118 rfl flRX9_94 rfl ⟨by decide, by decide⟩ ?_
      refine V.invs (z := mX9_wayBetween) (As := [_, _, _]) dX9_way_121 rfl mlRX9_181 okX9_wayBetween npX9_wayBetween rfl (Nat.le_of_ble_eq_true rfl) rfl (Nat.le_of_ble_eq_true rfl) (c_wayBetween   ?_)
      show V cS g (d + 5) mX9_way 124 [some (.ref 0), some (.int (nI b)), some (.int (nI e)), some (.int v), some (.ref (30 + b)), some (.int (((M)) 12 e))] [.int (wayF (((M)) (30 + b) 2) (((M)) 12 e) (((M)) 1 5))] (((M))) Q
      exact V.ret dX9_way_124 rfl (h2 h b e hb he rfl rfl s46_2)
    by_cases s46_3 : v = (3 : Int32)
    · refine V.tabIn (tgt := 125) dX9_way_46 (by rw [s46_3]; decide) (by rw [s46_3]; decide) (by rw [s46_3]; rfl) (by decide) ?_
      refine V.aload_n dX9_way_125 rfl (i := 0) rfl ?_
      refine V.getR dX9_way_126 rfl flRX9_12 rfl ⟨by decide, by decide⟩ ?_
      refine V.aload dX9_way_129 rfl ?_
      refine V.getI dX9_way_131 rfl flRX9_185 (fkB30 (by first | assumption | decide | omega) (by decide)) (inB30 (by first | assumption | decide | omega)) ?_
      refine V.aload dX9_way_134 rfl ?_
      refine V.getI dX9_way_136 rfl flRX9_135 (fkB30 (by first | assumption | decide | omega) (by decide)) (inB30 (by first | assumption | decide | omega)) ?_
      refine V.aload dX9_way_139 rfl ?_
      refine V.getI dX9_way_141 rfl flRX9_170 (fkB30 (by first | assumption | decide | omega) (by decide)) (inB30 (by first | assumption | decide | omega)) ?_
      refine V.iload dX9_way_144 rfl ?_
      refine V.aload_n dX9_way_146 rfl (i := 0) rfl ?_
      refine V.getR dX9_way_147 rfl flRX9_12 rfl ⟨by decide, by decide⟩ ?_
      refine V.getI dX9_way_150 rfl flRX9_94 rfl ⟨by decide, by decide⟩ ?_
      refine V.invv (z := mX7_strength) (As := [_, _, _, _, _]) dX9_way_153 rfl mlRX9_188 okX7_strength npX7_strength rfl rfl rfl ⟨by decide, by decide⟩ (Nat.le_of_ble_eq_true rfl) rfl (Nat.le_of_ble_eq_true rfl) (c_strength hV.2.2.2.2.1 hs hq (fun M1 hM1 => ?_))
      show V cS g (d + 5) mX9_way 156 [some (.ref 0), some (.int (nI b)), some (.int (nI e)), some (.int v), some (.ref (30 + b)), some (.int (((M)) 12 e))] [.int (strS M (M (30 + b) 0) (M (30 + b) 3) (M (30 + b) 2) (M 12 e) (M 1 5))] M1 Q
      exact V.ret dX9_way_156 rfl (h3 h b e hb he rfl rfl s46_3 M1 hM1)
    by_cases s46_4 : v = (4 : Int32)
    · refine V.tabIn (tgt := 157) dX9_way_46 (by rw [s46_4]; decide) (by rw [s46_4]; decide) (by rw [s46_4]; rfl) (by decide) ?_
      refine V.aload dX9_way_157 rfl ?_
      refine V.getI dX9_way_159 rfl flRX9_192 (fkB30 (by first | assumption | decide | omega) (by decide)) (inB30 (by first | assumption | decide | omega)) ?_
      refine V.aload dX9_way_162 rfl ?_
      refine V.getI dX9_way_164 rfl flRX9_170 (fkB30 (by first | assumption | decide | omega) (by decide)) (inB30 (by first | assumption | decide | omega)) ?_
      refine V.iload dX9_way_167 rfl ?_
      refine V.aload_n dX9_way_169 rfl (i := 0) rfl ?_
      refine V.getR dX9_way_170 rfl flRX9_12 rfl ⟨by decide, by decide⟩ ?_
      refine V.getI dX9_way_173 rfl flRX9_94 rfl ⟨by decide, by decide⟩ ?_
      refine V.invs (z := mX9_wayBetween) (As := [_, _, _]) dX9_way_176 rfl mlRX9_181 okX9_wayBetween npX9_wayBetween rfl (Nat.le_of_ble_eq_true rfl) rfl (Nat.le_of_ble_eq_true rfl) (c_wayBetween   ?_)
      show V cS g (d + 5) mX9_way 179 [some (.ref 0), some (.int (nI b)), some (.int (nI e)), some (.int v), some (.ref (30 + b)), some (.int (((M)) 12 e))] [.int (wayF (((M)) (30 + b) 2) (((M)) 12 e) (((M)) 1 5)), .int (((M)) (30 + b) 4)] (((M))) Q
      refine V.iadd dX9_way_179 ?_
      exact V.ret dX9_way_180 rfl (h4 h b e hb he rfl rfl s46_4)
    · refine V.tabOut (tgt := 181) dX9_way_46 (by have z0 := lv_neT (a := 0) s46_0 (by decide); have z1 := lv_neT (a := 1) s46_1 (by decide); have z2 := lv_neT (a := 2) s46_2 (by decide); have z3 := lv_neT (a := 3) s46_3 (by decide); have z4 := lv_neT (a := 4) s46_4 (by decide); omega) (by decide) ?_
      refine V.aload_n dX9_way_181 rfl (i := 0) rfl ?_
      refine V.ldc dX9_way_182 rfl ctRX9_81 ?_
      refine V.invv (z := mX9_error) (As := [_]) dX9_way_184 rfl mlRX9_82 okX9_error npX9_error rfl rfl rfl ⟨by decide, by decide⟩ (Nat.le_of_ble_eq_true rfl) rfl (Nat.le_of_ble_eq_true rfl) (c_err1   ?_)
      show V cS g (d + 5) mX9_way 187 [some (.ref 0), some (.int (nI b)), some (.int (nI e)), some (.int v), some (.ref (30 + b)), some (.int (((M)) 12 e))] [.int (-1000000001 : Int32)] (put ((M)) 9 1 (((M)) 9 1 + 1)) Q
      exact V.ret dX9_way_187 rfl (hbad2 h (fun z => by simp only [Int32.lt_iff_toInt_lt, Int32.le_iff_toInt_le, ← Int32.toInt_inj, Int32.reduceToInt] at *; omega))
  · skip
    refine V.aload_n dX9_way_0 rfl (i := 0) rfl ?_
    refine V.iload_n dX9_way_1 rfl (i := 1) rfl ?_
    refine V.invv (z := mX9_isBell) (As := [_]) dX9_way_2 rfl mlRX9_118 okX9_isBell npX9_isBell rfl rfl rfl ⟨by decide, by decide⟩ (Nat.le_of_ble_eq_true rfl) rfl (Nat.le_of_ble_eq_true rfl) (c_isBell   ?_)
    show V cS g (d + 5) mX9_way 5 [some (.ref 0), some (.int a), some (.int w), some (.int v), none, none] [.int (b2i (0 ≤ a ∧ a < M 1 2 ∧ a < 8))] (M) Q
    refine V.if_eq (tgt := 16) dX9_way_5 (by decide) (fun c5 => ?_) (fun c5 => ?_)
    · refine V.aload_n dX9_way_16 rfl (i := 0) rfl ?_
      refine V.ldc dX9_way_17 rfl ctRX9_81 ?_
      refine V.invv (z := mX9_error) (As := [_]) dX9_way_19 rfl mlRX9_82 okX9_error npX9_error rfl rfl rfl ⟨by decide, by decide⟩ (Nat.le_of_ble_eq_true rfl) rfl (Nat.le_of_ble_eq_true rfl) (c_err1   ?_)
      show V cS g (d + 5) mX9_way 22 [some (.ref 0), some (.int a), some (.int w), some (.int v), none, none] [.int (-1000000001 : Int32)] (put (M) 9 1 ((M) 9 1 + 1)) Q
      exact V.ret dX9_way_22 rfl (hbad h)
    · refine V.aload_n dX9_way_8 rfl (i := 0) rfl ?_
      refine V.iload_n dX9_way_9 rfl (i := 2) rfl ?_
      refine V.invv (z := mX9_isEar) (As := [_]) dX9_way_10 rfl mlRX9_164 okX9_isEar npX9_isEar rfl rfl rfl ⟨by decide, by decide⟩ (Nat.le_of_ble_eq_true rfl) rfl (Nat.le_of_ble_eq_true rfl) (c_isEar   ?_)
      show V cS g (d + 5) mX9_way 13 [some (.ref 0), some (.int a), some (.int w), some (.int v), none, none] [.int (b2i (0 ≤ w ∧ w < (M) 1 4 ∧ w < 10))] ((M)) Q
      refine V.if_ne (tgt := 23) dX9_way_13 (by decide) (fun c13 => ?_) (fun c13 => ?_)
      · exact absurd ⟨(Classical.byContradiction fun z => c5 (b2i_f z)), (Classical.byContradiction fun z => c13 (b2i_f z))⟩ h
      · refine V.aload_n dX9_way_16 rfl (i := 0) rfl ?_
        refine V.ldc dX9_way_17 rfl ctRX9_81 ?_
        refine V.invv (z := mX9_error) (As := [_]) dX9_way_19 rfl mlRX9_82 okX9_error npX9_error rfl rfl rfl ⟨by decide, by decide⟩ (Nat.le_of_ble_eq_true rfl) rfl (Nat.le_of_ble_eq_true rfl) (c_err1   ?_)
        show V cS g (d + 5) mX9_way 22 [some (.ref 0), some (.int a), some (.int w), some (.int v), none, none] [.int (-1000000001 : Int32)] (put ((M)) 9 1 (((M)) 9 1 + 1)) Q
        exact V.ret dX9_way_22 rfl (hbad h)

