/-! ===== Reader ===== -/
/-- the reader's memory: so far read, so many steps -/
def RdP (M0 M : Mem) (k : Nat) (out : List Int32) : Prop := eqx [3, 26, 80] M0 M ∧ M 3 2 = M0 3 2 ∧ M 3 4 = M0 3 4 ∧ M 3 3 = nI k ∧ M 26 1 = nI out.length ∧ ∀ i, i < out.length → M 80 i = out.getD i 0
theorem RdP.go {M0 M : Mem} {k k' : Nat} {out : List Int32} (h : RdP M0 M k out) : RdP M0 (put M 3 3 (nI k')) k' out := by
  obtain ⟨h1, h2, h3, h4, h5, h6⟩ := h
  refine ⟨h1.put (by decide), ?_, ?_, put_s, ?_, fun i hi => ?_⟩
  · rw [put_n (fun q => absurd q.2 (by decide))]; exact h2
  · rw [put_n (fun q => absurd q.2 (by decide))]; exact h3
  · rw [put_cell (by decide)]; exact h5
  · rw [put_cell (by decide)]; exact h6 i hi
theorem RdP.add {M0 M : Mem} {k : Nat} {out : List Int32} {x : Int32} (h : RdP M0 M k out) : RdP M0 (put (put M 80 out.length x) 26 1 (nI (out.length + 1))) k (out ++ [x]) := by
  obtain ⟨h1, h2, h3, h4, h5, h6⟩ := h
  refine ⟨(h1.put (by decide)).put (by decide), ?_, ?_, ?_, ?_, fun i hi => ?_⟩
  · rw [put_cell (by decide), put_cell (by decide)]; exact h2
  · rw [put_cell (by decide), put_cell (by decide)]; exact h3
  · rw [put_cell (by decide), put_cell (by decide)]; exact h4
  · rw [put_s, List.length_append, List.length_singleton]
  · rw [put_cell (by decide)]
    rw [List.length_append, List.length_singleton] at hi
    by_cases q : i = out.length
    · subst q
      rw [put_s, List.getD_eq_getElem?_getD, List.getElem?_append_right (Nat.le_refl _), Nat.sub_self]
      rfl
    · rw [put_n (fun z => q z.2), h6 i (by omega), List.getD_eq_getElem?_getD, List.getD_eq_getElem?_getD, List.getElem?_append_left (by omega)]
/-- the text that is read: its bytes, its names -/
def RdT (M0 : Mem) (us sz : Nat) : Prop := M0 3 2 = nI sz ∧ sz ≤ 50 ∧ M0 3 4 = nI us ∧ us < 2 ∧ ∀ i, i < sz → ∃ c, c < 256 ∧ M0 27 i = nI c
theorem nx_byte {M0 : Mem} {us sz k : Nat} (h : RdT M0 us sz) : nx (M0 27) sz k = -1 ∨ ∃ c, c < 256 ∧ nx (M0 27) sz k = nI c := by
  unfold nx
  by_cases q : k < sz
  · rw [if_pos q]; exact Or.inr (h.2.2.2.2 k q)
  · rw [if_neg q]; exact Or.inl rfl

set_option maxHeartbeats 4000000 in
set_option maxRecDepth 100000 in
theorem c_isDigit {g : GG} {d : Nat} {M : Mem} {Q : Option Value → Mem → Prop} {c : Int32}  (hQ : Q (some (.int (b2i (dig c = true)))) (M)) : V cS g d mX3_isDigit 0 [some (.int c)] [] M Q := by
  refine V.iload_n dX3_isDigit_0 rfl (i := 0) rfl ?_
  refine V.bipush dX3_isDigit_1 (v := 48) (by decide) ?_
  suffices kJ3 : V cS g d mX3_isDigit 17 [some (.int c)] [.int (if c < (48 : Int32) then (0 : Int32) else (if (57 : Int32) < c then (0 : Int32) else (1 : Int32)))] M Q by
    refine V.ic_lt (tgt := 16) dX3_isDigit_3 (by decide) (fun c3 => ?_) (fun c3 => ?_)
    · refine V.iconst dX3_isDigit_16 (v := 0) (by decide) ?_
      rw [if_pos c3] at kJ3; exact kJ3
    · refine V.iload_n dX3_isDigit_6 rfl (i := 0) rfl ?_
      refine V.bipush dX3_isDigit_7 (v := 57) (by decide) ?_
      refine V.ic_gt (tgt := 16) dX3_isDigit_9 (by decide) (fun c9 => ?_) (fun c9 => ?_)
      · refine V.iconst dX3_isDigit_16 (v := 0) (by decide) ?_
        rw [if_neg c3, if_pos c9] at kJ3; exact kJ3
      · refine V.iconst dX3_isDigit_12 (v := 1) (by decide) ?_
        refine V.goto dX3_isDigit_13 (tgt := 17) (by decide) ?_
        rw [if_neg c3, if_neg c9] at kJ3; exact kJ3
  exact V.zret dX3_isDigit_17 rfl (by first | exact Or.inl rfl | exact Or.inr rfl | assumption | exact b2i_zo _ | (repeat' split) <;> first | exact Or.inl rfl | exact Or.inr rfl | assumption | exact b2i_zo _) (Qi hQ (by unfold b2i dig; (repeat' split) <;> (try simp_all [Int32.not_le, Int32.not_lt]) <;> (try (simp only [Int32.lt_iff_toInt_lt, Int32.le_iff_toInt_le, ← Int32.toInt_inj, Int32.reduceToInt] at *; omega))))
set_option maxHeartbeats 4000000 in
set_option maxRecDepth 100000 in
theorem c_levelOf {g : GG} {d : Nat} {M : Mem} {Q : Option Value → Mem → Prop} {c : Int32}  (hQ : Q (some (.int (lvS c))) (M)) : V cS g d mX3_levelOf 0 [some (.int c)] [] M Q := by
  refine V.iload_n dX3_levelOf_0 rfl (i := 0) rfl ?_
  by_cases s1_37 : c = (37 : Int32)
  · refine V.lookup (tgt := 100) dX3_levelOf_1 (by decide) (by rw [s1_37] <;> rfl) (by decide) ?_
    refine V.iconst dX3_levelOf_100 (v := 4) (by decide) ?_
    exact V.ret dX3_levelOf_101 rfl (Qi hQ (by unfold lvS; simp_all))
  by_cases s1_38 : c = (38 : Int32)
  · refine V.lookup (tgt := 94) dX3_levelOf_1 (by decide) (by rw [s1_38] <;> rfl) (by decide) ?_
    refine V.iconst dX3_levelOf_94 (v := 1) (by decide) ?_
    exact V.ret dX3_levelOf_95 rfl (Qi hQ (by unfold lvS; simp_all))
  by_cases s1_42 : c = (42 : Int32)
  · refine V.lookup (tgt := 100) dX3_levelOf_1 (by decide) (by rw [s1_42] <;> rfl) (by decide) ?_
    refine V.iconst dX3_levelOf_100 (v := 4) (by decide) ?_
    exact V.ret dX3_levelOf_101 rfl (Qi hQ (by unfold lvS; simp_all))
  by_cases s1_43 : c = (43 : Int32)
  · refine V.lookup (tgt := 98) dX3_levelOf_1 (by decide) (by rw [s1_43] <;> rfl) (by decide) ?_
    refine V.iconst dX3_levelOf_98 (v := 3) (by decide) ?_
    exact V.ret dX3_levelOf_99 rfl (Qi hQ (by unfold lvS; simp_all))
  by_cases s1_45 : c = (45 : Int32)
  · refine V.lookup (tgt := 98) dX3_levelOf_1 (by decide) (by rw [s1_45] <;> rfl) (by decide) ?_
    refine V.iconst dX3_levelOf_98 (v := 3) (by decide) ?_
    exact V.ret dX3_levelOf_99 rfl (Qi hQ (by unfold lvS; simp_all))
  by_cases s1_47 : c = (47 : Int32)
  · refine V.lookup (tgt := 100) dX3_levelOf_1 (by decide) (by rw [s1_47] <;> rfl) (by decide) ?_
    refine V.iconst dX3_levelOf_100 (v := 4) (by decide) ?_
    exact V.ret dX3_levelOf_101 rfl (Qi hQ (by unfold lvS; simp_all))
  by_cases s1_60 : c = (60 : Int32)
  · refine V.lookup (tgt := 96) dX3_levelOf_1 (by decide) (by rw [s1_60] <;> rfl) (by decide) ?_
    refine V.iconst dX3_levelOf_96 (v := 2) (by decide) ?_
    exact V.ret dX3_levelOf_97 rfl (Qi hQ (by unfold lvS; simp_all))
  by_cases s1_61 : c = (61 : Int32)
  · refine V.lookup (tgt := 96) dX3_levelOf_1 (by decide) (by rw [s1_61] <;> rfl) (by decide) ?_
    refine V.iconst dX3_levelOf_96 (v := 2) (by decide) ?_
    exact V.ret dX3_levelOf_97 rfl (Qi hQ (by unfold lvS; simp_all))
  by_cases s1_62 : c = (62 : Int32)
  · refine V.lookup (tgt := 96) dX3_levelOf_1 (by decide) (by rw [s1_62] <;> rfl) (by decide) ?_
    refine V.iconst dX3_levelOf_96 (v := 2) (by decide) ?_
    exact V.ret dX3_levelOf_97 rfl (Qi hQ (by unfold lvS; simp_all))
  by_cases s1_124 : c = (124 : Int32)
  · refine V.lookup (tgt := 92) dX3_levelOf_1 (by decide) (by rw [s1_124] <;> rfl) (by decide) ?_
    refine V.iconst dX3_levelOf_92 (v := 0) (by decide) ?_
    exact V.ret dX3_levelOf_93 rfl (Qi hQ (by unfold lvS; simp_all))
  · refine V.lookup (off := 101) (tgt := 102) dX3_levelOf_1 (by decide) (by show Op.lookupswitch.offset [(37, 99), (38, 93), (42, 99), (43, 97), (45, 97), (47, 99), (60, 95), (61, 95), (62, 95), (124, 91)] _ _ = _; rw [lv_osw s1_37 (by decide), lv_osw s1_38 (by decide), lv_osw s1_42 (by decide), lv_osw s1_43 (by decide), lv_osw s1_45 (by decide), lv_osw s1_47 (by decide), lv_osw s1_60 (by decide), lv_osw s1_61 (by decide), lv_osw s1_62 (by decide), lv_osw s1_124 (by decide)]; first | done | rfl) (by decide) ?_
    refine V.iconst dX3_levelOf_102 (v := (-1)) (by decide) ?_
    exact V.ret dX3_levelOf_103 rfl (Qi hQ (by unfold lvS; simp_all))
set_option maxHeartbeats 4000000 in
set_option maxRecDepth 100000 in
theorem c_next {g : GG} {d : Nat} {M M0 : Mem} {Q : Option Value → Mem → Prop} {us sz k : Nat} {out : List Int32} (hT : RdT M0 us sz) (hR : RdP M0 M k out) (hk : k ≤ sz) (hQ : Q (some (.int (nx (M0 27) sz k))) M) : V cS g d mX3_next 0 [some (.ref 3)] [] M Q := by
  have h50 := hT.2.1
  have h32 : M 3 2 = nI sz := by rw [hR.2.1]; exact hT.1
  have h33 := hR.2.2.2.1
  have h27 : M 27 = M0 27 := hR.1 27 (by decide)
  by_cases c : k < sz
  · have hk50 : k < 50 := by omega
    refine V.aload_n dX3_next_0 rfl (i := 0) rfl ?_
    refine V.getI dX3_next_1 rfl flRX3_48 rfl ⟨by decide, by decide⟩ ?_
    refine V.top (x' := (nI k)) (h33) ?_
    refine V.if_lt (tgt := 30) dX3_next_4 (by decide) (fun q => absurd q ((nI_pos (by omega)))) (fun c4 => ?_)
    refine V.aload_n dX3_next_7 rfl (i := 0) rfl ?_
    refine V.getI dX3_next_8 rfl flRX3_48 rfl ⟨by decide, by decide⟩ ?_
    refine V.top (x' := (nI k)) (h33) ?_
    refine V.aload_n dX3_next_11 rfl (i := 0) rfl ?_
    refine V.getI dX3_next_12 rfl flRX3_38 rfl ⟨by decide, by decide⟩ ?_
    refine V.top (x' := (nI sz)) (h32) ?_
    refine V.ic_ge (tgt := 30) dX3_next_15 (by decide) (fun q => absurd q ((nI_ge (a := k) (b := sz) (by omega) (by omega)))) (fun c15 => ?_)
    refine V.aload_n dX3_next_18 rfl (i := 0) rfl ?_
    refine V.getR dX3_next_19 rfl flRX3_18 rfl ⟨by decide, by decide⟩ ?_
    refine V.aload_n dX3_next_22 rfl (i := 0) rfl ?_
    refine V.getI dX3_next_23 rfl flRX3_48 rfl ⟨by decide, by decide⟩ ?_
    refine V.top (x' := (nI k)) (h33) ?_
    refine V.ialdN dX3_next_26 rfl ⟨by decide, by decide⟩ (by first | assumption | decide | omega) (by decide) ?_
    refine V.goto dX3_next_27 (tgt := 31) (by decide) ?_
    exact V.ret dX3_next_31 rfl (Qi hQ (by unfold nx; rw [if_pos c, h27]))
  · skip
    refine V.aload_n dX3_next_0 rfl (i := 0) rfl ?_
    refine V.getI dX3_next_1 rfl flRX3_48 rfl ⟨by decide, by decide⟩ ?_
    refine V.top (x' := (nI k)) (h33) ?_
    refine V.if_lt (tgt := 30) dX3_next_4 (by decide) (fun q => absurd q ((nI_pos (by omega)))) (fun c4 => ?_)
    refine V.aload_n dX3_next_7 rfl (i := 0) rfl ?_
    refine V.getI dX3_next_8 rfl flRX3_48 rfl ⟨by decide, by decide⟩ ?_
    refine V.top (x' := (nI k)) (h33) ?_
    refine V.aload_n dX3_next_11 rfl (i := 0) rfl ?_
    refine V.getI dX3_next_12 rfl flRX3_38 rfl ⟨by decide, by decide⟩ ?_
    refine V.top (x' := (nI sz)) (h32) ?_
    refine V.ic_ge (tgt := 30) dX3_next_15 (by decide) (fun c15 => ?_) (fun q => absurd ((nI_le (a := sz) (b := k) (by omega) (by omega))) q)
    refine V.iconst dX3_next_30 (v := (-1)) (by decide) ?_
    exact V.ret dX3_next_31 rfl (Qi hQ (by unfold nx; rw [if_neg c]))
set_option maxHeartbeats 4000000 in
set_option maxRecDepth 100000 in
theorem l_num {g : GG} {d : Nat} {M0 : Mem} {us sz : Nat} (hT : RdT M0 us sz) {out : List Int32} (ho : out.length < 50) : ∀ (n t k : Nat) (v : Int32) (M : Mem) (Q : Option Value → Mem → Prop), t + n = 4 → k ≤ sz → RdP M0 M k out → (∀ M', RdP M0 M' (k + ndF (nx (M0 27) sz) k n) (out ++ [nvF (nx (M0 27) sz) k n v]) → Q none M') → V cS g (d + 2) mX3_readNumber 4 [some (.ref 3), some (.int v), some (.int (nI t))] [] M Q := by
  have h50 := hT.2.1
  intro n
  induction n with
  | zero =>
    intro t k v M Q ht hk hR hQ
    obtain rfl : t = 4 := by omega
    refine V.iload_n dX3_readNumber_4 rfl (i := 2) rfl ?_
    refine V.iconst dX3_readNumber_5 (v := 4) (by decide) ?_
    refine V.ic_ge (tgt := 48) dX3_readNumber_6 (by decide) (fun c6 => ?_) (fun q => absurd ((by decide)) q)
    refine V.aload_n dX3_readNumber_48 rfl (i := 0) rfl ?_
    refine V.getR dX3_readNumber_49 rfl flRX3_12 rfl ⟨by decide, by decide⟩ ?_
    refine V.iload_n dX3_readNumber_52 rfl (i := 1) rfl ?_
    refine V.invv (z := mX2_addNumber) (As := [_]) dX3_readNumber_53 rfl mlRX3_94 okX2_addNumber npX2_addNumber rfl rfl rfl ⟨by decide, by decide⟩ (Nat.le_of_ble_eq_true rfl) rfl (Nat.le_of_ble_eq_true rfl) (c_addNumber hR.2.2.2.2.1 ho ?_)
    show V cS g (d + 2) mX3_readNumber 56 [some (.ref 3), some (.int v), some (.int (nI 4))] [] (put (put M 80 out.length v) 26 1 (nI (out.length + 1))) Q
    exact V.vret dX3_readNumber_56 rfl (hQ _ hR.add)
  | succ n ih =>
    intro t k v M Q ht hk hR hQ
    have h33 := hR.2.2.2.1
    by_cases hd : dig ((nx (M0 27) sz) k) = true
    · have hks := dig_in hd
      rw [ndF, nvF, if_pos hd, if_pos hd, show k + (1 + ndF (nx (M0 27) sz) (k + 1) n) = k + 1 + ndF (nx (M0 27) sz) (k + 1) n by omega] at hQ
      refine V.iload_n dX3_readNumber_4 rfl (i := 2) rfl ?_
      refine V.iconst dX3_readNumber_5 (v := 4) (by decide) ?_
      refine V.ic_ge (tgt := 48) dX3_readNumber_6 (by decide) (fun q => absurd q ((nI_ge (a := t) (b := 4) (by omega) (by omega)))) (fun c6 => ?_)
      refine V.aload_n dX3_readNumber_9 rfl (i := 0) rfl ?_
      refine V.invv (z := mX3_next) (As := []) dX3_readNumber_10 rfl mlRX3_62 okX3_next npX3_next rfl rfl rfl ⟨by decide, by decide⟩ (Nat.le_of_ble_eq_true rfl) rfl (Nat.le_of_ble_eq_true rfl) (c_next hT hR hk ?_)
      show V cS g (d + 2) mX3_readNumber 13 [some (.ref 3), some (.int v), some (.int (nI t))] [.int ((nx (M0 27) sz) k)] M Q
      refine V.invs (z := mX3_isDigit) (As := [_]) dX3_readNumber_13 rfl mlRX3_74 okX3_isDigit npX3_isDigit rfl (Nat.le_of_ble_eq_true rfl) rfl (Nat.le_of_ble_eq_true rfl) (c_isDigit   ?_)
      show V cS g (d + 2) mX3_readNumber 16 [some (.ref 3), some (.int v), some (.int (nI t))] [.int (b2i (dig ((nx (M0 27) sz) k) = true))] (M) Q
      refine V.if_eq (tgt := 48) dX3_readNumber_16 (by decide) (fun q => absurd q ((fun z => b2i_0.mp z hd))) (fun c16 => ?_)
      refine V.iload_n dX3_readNumber_19 rfl (i := 1) rfl ?_
      refine V.bipush dX3_readNumber_20 (v := 10) (by decide) ?_
      refine V.imul dX3_readNumber_22 ?_
      refine V.aload_n dX3_readNumber_23 rfl (i := 0) rfl ?_
      refine V.invv (z := mX3_next) (As := []) dX3_readNumber_24 rfl mlRX3_62 okX3_next npX3_next rfl rfl rfl ⟨by decide, by decide⟩ (Nat.le_of_ble_eq_true rfl) rfl (Nat.le_of_ble_eq_true rfl) (c_next hT hR hk ?_)
      show V cS g (d + 2) mX3_readNumber 27 [some (.ref 3), some (.int v), some (.int (nI t))] [.int ((nx (M0 27) sz) k), .int (v * (10 : Int32))] M Q
      refine V.iadd dX3_readNumber_27 ?_
      refine V.bipush dX3_readNumber_28 (v := 48) (by decide) ?_
      refine V.isub dX3_readNumber_30 ?_
      refine V.istore_n dX3_readNumber_31 rfl (i := 1) (by decide) (fun _ h => by cases h; exact Or.inl rfl) rfl ?_
      refine V.aload_n dX3_readNumber_32 rfl (i := 0) rfl ?_
      refine V.dup dX3_readNumber_33 rfl ?_
      refine V.getI dX3_readNumber_34 rfl flRX3_48 rfl ⟨by decide, by decide⟩ ?_
      refine V.top (x' := (nI k)) (h33) ?_
      refine V.iconst dX3_readNumber_37 (v := 1) (by decide) ?_
      refine V.iadd dX3_readNumber_38 ?_
      refine V.top (x' := (nI (k + 1))) (nI_add k 1) ?_
      refine V.putI dX3_readNumber_39 rfl fpRX3_48 rfl ⟨by decide, by decide⟩ ?_
      refine V.iinc dX3_readNumber_42 rfl (v := (nI (t + 1))) (nI_1 _) (by decide) (fun _ h => by cases h; exact Or.inl rfl) rfl ?_
      refine V.goto dX3_readNumber_45 (tgt := 4) (by decide) ?_
      exact ih (t + 1) (k + 1) _ _ Q (by omega) (by omega) hR.go hQ
    · rw [ndF, nvF, if_neg hd, if_neg hd] at hQ
      refine V.iload_n dX3_readNumber_4 rfl (i := 2) rfl ?_
      refine V.iconst dX3_readNumber_5 (v := 4) (by decide) ?_
      refine V.ic_ge (tgt := 48) dX3_readNumber_6 (by decide) (fun q => absurd q ((nI_ge (a := t) (b := 4) (by omega) (by omega)))) (fun c6 => ?_)
      refine V.aload_n dX3_readNumber_9 rfl (i := 0) rfl ?_
      refine V.invv (z := mX3_next) (As := []) dX3_readNumber_10 rfl mlRX3_62 okX3_next npX3_next rfl rfl rfl ⟨by decide, by decide⟩ (Nat.le_of_ble_eq_true rfl) rfl (Nat.le_of_ble_eq_true rfl) (c_next hT hR hk ?_)
      show V cS g (d + 2) mX3_readNumber 13 [some (.ref 3), some (.int v), some (.int (nI t))] [.int ((nx (M0 27) sz) k)] M Q
      refine V.invs (z := mX3_isDigit) (As := [_]) dX3_readNumber_13 rfl mlRX3_74 okX3_isDigit npX3_isDigit rfl (Nat.le_of_ble_eq_true rfl) rfl (Nat.le_of_ble_eq_true rfl) (c_isDigit   ?_)
      show V cS g (d + 2) mX3_readNumber 16 [some (.ref 3), some (.int v), some (.int (nI t))] [.int (b2i (dig ((nx (M0 27) sz) k) = true))] (M) Q
      refine V.if_eq (tgt := 48) dX3_readNumber_16 (by decide) (fun c16 => ?_) (fun q => absurd ((b2i_f hd)) q)
      refine V.aload_n dX3_readNumber_48 rfl (i := 0) rfl ?_
      refine V.getR dX3_readNumber_49 rfl flRX3_12 rfl ⟨by decide, by decide⟩ ?_
      refine V.iload_n dX3_readNumber_52 rfl (i := 1) rfl ?_
      refine V.invv (z := mX2_addNumber) (As := [_]) dX3_readNumber_53 rfl mlRX3_94 okX2_addNumber npX2_addNumber rfl rfl rfl ⟨by decide, by decide⟩ (Nat.le_of_ble_eq_true rfl) rfl (Nat.le_of_ble_eq_true rfl) (c_addNumber hR.2.2.2.2.1 ho ?_)
      show V cS g (d + 2) mX3_readNumber 56 [some (.ref 3), some (.int v), some (.int (nI t))] [] (put (put M 80 out.length v) 26 1 (nI (out.length + 1))) Q
      exact V.vret dX3_readNumber_56 rfl (hQ _ hR.add)
set_option maxHeartbeats 4000000 in
set_option maxRecDepth 100000 in
theorem c_readNumber {g : GG} {d : Nat} {M M0 : Mem} {Q : Option Value → Mem → Prop} {us sz k : Nat} {out : List Int32} (hT : RdT M0 us sz) (hR : RdP M0 M k out) (hk : k ≤ sz) (ho : out.length < 50) (hQ : ∀ M', RdP M0 M' (k + ndF (nx (M0 27) sz) k 4) (out ++ [nvF (nx (M0 27) sz) k 4 0]) → Q none M') : V cS g (d + 2) mX3_readNumber 0 [some (.ref 3), none, none] [] M Q := by
  refine V.iconst dX3_readNumber_0 (v := 0) (by decide) ?_
  refine V.istore_n dX3_readNumber_1 rfl (i := 1) (by decide) (fun _ h => by cases h; exact Or.inl rfl) rfl ?_
  refine V.iconst dX3_readNumber_2 (v := 0) (by decide) ?_
  refine V.istore_n dX3_readNumber_3 rfl (i := 2) (by decide) (fun _ h => by cases h; exact Or.inl rfl) rfl ?_
  exact l_num hT ho 4 0 k 0 M Q (by omega) hk hR hQ
def PU (g : GG) (M0 : Mem) (us sz f : Nat) : Prop := ∀ (D op k : Nat) (out : List Int32) (M : Mem) (Q : Option Value → Mem → Prop) (r : Bool × Nat × List Int32), 9 * (5 - op) + 6 ≤ D → op ≤ 5 → k ≤ sz → out.length ≤ k → 8 * (sz - k) + 2 ≤ f → RdP M0 M k out → rd (nx (M0 27) sz) us f 5 op k out = r → (∀ M', RdP M0 M' r.2.1 r.2.2 → Q (some (.int (b2i (r.1 = true)))) M') → V cS g D mX3_readUnit 0 [some (.ref 3), some (.int (nI op)), none, none] [] M Q
def PL (g : GG) (M0 : Mem) (us sz f : Nat) : Prop := ∀ (D l op k : Nat) (out : List Int32) (M : Mem) (Q : Option Value → Mem → Prop) (r : Bool × Nat × List Int32), 9 * (5 - op) + 6 + (6 - l) ≤ D → l ≤ 5 → op ≤ 5 → k ≤ sz → out.length ≤ k → 8 * (sz - k) + 7 - l ≤ f → RdP M0 M k out → rd (nx (M0 27) sz) us f l op k out = r → (∀ M', RdP M0 M' r.2.1 r.2.2 → Q (some (.int (b2i (r.1 = true)))) M') → V cS g D mX3_readLevel 0 [some (.ref 3), some (.int (nI l)), some (.int (nI op)), none, none, none] [] M Q
def PP (g : GG) (M0 : Mem) (us sz f : Nat) : Prop := ∀ (D l op k t : Nat) (out : List Int32) (M : Mem) (Q : Option Value → Mem → Prop) (r : Bool × Nat × List Int32) (l5 : Option Value), 9 * (5 - op) + 6 + (6 - l) ≤ D → l < 5 → op ≤ 5 → k ≤ sz → out.length ≤ k → t ≤ k → (l = 2 → t = 0) → 8 * (sz - k) + 1 ≤ f → RdP M0 M k out → rd (nx (M0 27) sz) us f (l + 6) op k out = r → (∀ M', RdP M0 M' r.2.1 r.2.2 → Q (some (.int (b2i (r.1 = true)))) M') → V cS g D mX3_readLevel 39 [some (.ref 3), some (.int (nI l)), some (.int (nI op)), some (.int (nI (if l = 2 then 1 else 50))), some (.int (nI t)), l5] [] M Q
theorem mxl : ∀ l, l < 5 → (if nI l = (2 : Int32) then (1 : Int32) else (50 : Int32)) = nI (if l = 2 then 1 else 50) := by decide
theorem lvS_no : ∀ l, l < 5 → ¬ lvS (-1) = nI l := by decide

set_option maxHeartbeats 4000000 in
set_option maxRecDepth 100000 in
theorem s_PP {g : GG} {M0 : Mem} {us sz f : Nat} (hT : RdT M0 us sz) (hL : PL g M0 us sz f) (hP : PP g M0 us sz f) : PP g M0 us sz (f + 1) := by
  intro D l op k t out M Q r l5 hD hl ho hk hok htk ht2 hf hR he hQ
  have h50 := hT.2.1
  have h33 := hR.2.2.2.1
  obtain ⟨dd, rfl⟩ : ∃ dd, D = dd + 3 := ⟨D - 3, by omega⟩
  refine V.fg (ls' := [some (.ref 3), some (.int (nI l)), some (.int (nI op)), some (.int (nI (if l = 2 then 1 else 50))), some (.int (nI t)), none]) ⟨rfl, rfl, rfl, rfl, rfl, trivial⟩ ?_
  have hm : (if l = 2 then 1 else 50 : Nat) ≤ 50 := by split <;> omega
  by_cases htm : t < (if l = 2 then 1 else 50)
  · by_cases hlv : lvS ((nx (M0 27) sz) k) = nI l
    · have hks := lvS_in hl hlv
      rcases e : rd (nx (M0 27) sz) us f (l + 1) op (k + 1) out with ⟨b, k1, o1⟩
      obtain ⟨i1, i2, i3, i4⟩ := rd_inv f (l + 1) op (k + 1) out _ (by omega) hks e
      simp only at i1 i2 i3
      cases b
      · rw [rd_lpF hlv e] at he
        subst he
        refine V.iload dX3_readLevel_39 rfl ?_
        refine V.iload_n dX3_readLevel_41 rfl (i := 3) rfl ?_
        refine V.ic_ge (tgt := 100) dX3_readLevel_42 (by decide) (fun q => absurd q ((nI_ge (a := t) (b := (if l = 2 then 1 else 50)) (by omega) (by omega)))) (fun c42 => ?_)
        refine V.aload_n dX3_readLevel_45 rfl (i := 0) rfl ?_
        refine V.invv (z := mX3_next) (As := []) dX3_readLevel_46 rfl mlRX3_62 okX3_next npX3_next rfl rfl rfl ⟨by decide, by decide⟩ (Nat.le_of_ble_eq_true rfl) rfl (Nat.le_of_ble_eq_true rfl) (c_next hT hR hk ?_)
        show V cS g (dd + 3) mX3_readLevel 49 [some (.ref 3), some (.int (nI l)), some (.int (nI op)), some (.int (nI (if l = 2 then 1 else 50))), some (.int (nI t)), none] [.int ((nx (M0 27) sz) k)] M Q
        refine V.istore dX3_readLevel_49 (i := 5) (by decide) (fun _ h => by cases h; exact Or.inl rfl) rfl ?_
        refine V.iload dX3_readLevel_51 rfl ?_
        refine V.invs (z := mX3_levelOf) (As := [_]) dX3_readLevel_53 rfl mlRX3_66 okX3_levelOf npX3_levelOf rfl (Nat.le_of_ble_eq_true rfl) rfl (Nat.le_of_ble_eq_true rfl) (c_levelOf   ?_)
        show V cS g (dd + 3) mX3_readLevel 56 [some (.ref 3), some (.int (nI l)), some (.int (nI op)), some (.int (nI (if l = 2 then 1 else 50))), some (.int (nI t)), some (.int ((nx (M0 27) sz) k))] [.int (lvS ((nx (M0 27) sz) k))] (M) Q
        refine V.iload_n dX3_readLevel_56 rfl (i := 1) rfl ?_
        refine V.ic_eq (tgt := 62) dX3_readLevel_57 (by decide) (fun c57 => ?_) (fun q => absurd (hlv) q)
        refine V.aload_n dX3_readLevel_62 rfl (i := 0) rfl ?_
        refine V.dup dX3_readLevel_63 rfl ?_
        refine V.getI dX3_readLevel_64 rfl flRX3_48 rfl ⟨by decide, by decide⟩ ?_
        refine V.top (x' := (nI k)) (h33) ?_
        refine V.iconst dX3_readLevel_67 (v := 1) (by decide) ?_
        refine V.iadd dX3_readLevel_68 ?_
        refine V.top (x' := (nI (k + 1))) (nI_add k 1) ?_
        refine V.putI dX3_readLevel_69 rfl fpRX3_48 rfl ⟨by decide, by decide⟩ ?_
        refine V.aload_n dX3_readLevel_72 rfl (i := 0) rfl ?_
        refine V.iload_n dX3_readLevel_73 rfl (i := 1) rfl ?_
        refine V.iconst dX3_readLevel_74 (v := 1) (by decide) ?_
        refine V.iadd dX3_readLevel_75 ?_
        refine V.top (x' := (nI (l + 1))) (nI_add l 1) ?_
        refine V.iload_n dX3_readLevel_76 rfl (i := 2) rfl ?_
        refine V.invv (z := mX3_readLevel) (As := [_, _]) dX3_readLevel_77 rfl mlRX3_54 okX3_readLevel npX3_readLevel rfl rfl rfl ⟨by decide, by decide⟩ (Nat.le_of_ble_eq_true rfl) rfl (Nat.le_of_ble_eq_true rfl) (hL (dd + 2) (l + 1) op (k + 1) out _ _ (false, k1, o1) (by omega) (by omega) ho hks (by omega) (by omega) hR.go e (fun M1 h1 => ?_))
        show V cS g (dd + 3) mX3_readLevel 80 [some (.ref 3), some (.int (nI l)), some (.int (nI op)), some (.int (nI (if l = 2 then 1 else 50))), some (.int (nI t)), some (.int ((nx (M0 27) sz) k))] [.int (b2i (false = true))] M1 Q
        refine V.if_ne (tgt := 85) dX3_readLevel_80 (by decide) (fun q => absurd ((b2i_f (by decide))) q) (fun c80 => ?_)
        refine V.iconst dX3_readLevel_83 (v := 0) (by decide) ?_
        exact V.zret dX3_readLevel_84 rfl (by first | exact Or.inl rfl | exact Or.inr rfl | assumption | exact b2i_zo _ | (repeat' split) <;> first | exact Or.inl rfl | exact Or.inr rfl | assumption | exact b2i_zo _) (hQ M1 h1)
      · by_cases h2 : l = 2
        · subst h2
          rw [rd_lpE hlv e] at he
          subst he
          obtain rfl : t = 0 := ht2 rfl
          have hadd : o1.length < 50 := by omega
          refine V.iload dX3_readLevel_39 rfl ?_
          refine V.iload_n dX3_readLevel_41 rfl (i := 3) rfl ?_
          refine V.ic_ge (tgt := 100) dX3_readLevel_42 (by decide) (fun q => absurd q ((by decide))) (fun c42 => ?_)
          refine V.aload_n dX3_readLevel_45 rfl (i := 0) rfl ?_
          refine V.invv (z := mX3_next) (As := []) dX3_readLevel_46 rfl mlRX3_62 okX3_next npX3_next rfl rfl rfl ⟨by decide, by decide⟩ (Nat.le_of_ble_eq_true rfl) rfl (Nat.le_of_ble_eq_true rfl) (c_next hT hR hk ?_)
          show V cS g (dd + 3) mX3_readLevel 49 [some (.ref 3), some (.int (nI 2)), some (.int (nI op)), some (.int (nI (if 2 = 2 then 1 else 50))), some (.int (nI 0)), none] [.int ((nx (M0 27) sz) k)] M Q
          refine V.istore dX3_readLevel_49 (i := 5) (by decide) (fun _ h => by cases h; exact Or.inl rfl) rfl ?_
          refine V.iload dX3_readLevel_51 rfl ?_
          refine V.invs (z := mX3_levelOf) (As := [_]) dX3_readLevel_53 rfl mlRX3_66 okX3_levelOf npX3_levelOf rfl (Nat.le_of_ble_eq_true rfl) rfl (Nat.le_of_ble_eq_true rfl) (c_levelOf   ?_)
          show V cS g (dd + 3) mX3_readLevel 56 [some (.ref 3), some (.int (nI 2)), some (.int (nI op)), some (.int (nI (if 2 = 2 then 1 else 50))), some (.int (nI 0)), some (.int ((nx (M0 27) sz) k))] [.int (lvS ((nx (M0 27) sz) k))] (M) Q
          refine V.iload_n dX3_readLevel_56 rfl (i := 1) rfl ?_
          refine V.ic_eq (tgt := 62) dX3_readLevel_57 (by decide) (fun c57 => ?_) (fun q => absurd (hlv) q)
          refine V.aload_n dX3_readLevel_62 rfl (i := 0) rfl ?_
          refine V.dup dX3_readLevel_63 rfl ?_
          refine V.getI dX3_readLevel_64 rfl flRX3_48 rfl ⟨by decide, by decide⟩ ?_
          refine V.top (x' := (nI k)) (h33) ?_
          refine V.iconst dX3_readLevel_67 (v := 1) (by decide) ?_
          refine V.iadd dX3_readLevel_68 ?_
          refine V.top (x' := (nI (k + 1))) (nI_add k 1) ?_
          refine V.putI dX3_readLevel_69 rfl fpRX3_48 rfl ⟨by decide, by decide⟩ ?_
          refine V.aload_n dX3_readLevel_72 rfl (i := 0) rfl ?_
          refine V.iload_n dX3_readLevel_73 rfl (i := 1) rfl ?_
          refine V.iconst dX3_readLevel_74 (v := 1) (by decide) ?_
          refine V.iadd dX3_readLevel_75 ?_
          refine V.top (x' := (nI (2 + 1))) (nI_add 2 1) ?_
          refine V.iload_n dX3_readLevel_76 rfl (i := 2) rfl ?_
          refine V.invv (z := mX3_readLevel) (As := [_, _]) dX3_readLevel_77 rfl mlRX3_54 okX3_readLevel npX3_readLevel rfl rfl rfl ⟨by decide, by decide⟩ (Nat.le_of_ble_eq_true rfl) rfl (Nat.le_of_ble_eq_true rfl) (hL (dd + 2) (2 + 1) op (k + 1) out _ _ (true, k1, o1) (by omega) (by omega) ho hks (by omega) (by omega) hR.go e (fun M1 h1 => ?_))
          show V cS g (dd + 3) mX3_readLevel 80 [some (.ref 3), some (.int (nI 2)), some (.int (nI op)), some (.int (nI (if 2 = 2 then 1 else 50))), some (.int (nI 0)), some (.int ((nx (M0 27) sz) k))] [.int (b2i (true = true))] M1 Q
          refine V.if_ne (tgt := 85) dX3_readLevel_80 (by decide) (fun c80 => ?_) (fun q => absurd q ((by decide)))
          refine V.aload_n dX3_readLevel_85 rfl (i := 0) rfl ?_
          refine V.getR dX3_readLevel_86 rfl flRX3_12 rfl ⟨by decide, by decide⟩ ?_
          refine V.iload dX3_readLevel_89 rfl ?_
          refine V.invv (z := mX2_addSign) (As := [_]) dX3_readLevel_91 rfl mlRX3_70 okX2_addSign npX2_addSign rfl rfl rfl ⟨by decide, by decide⟩ (Nat.le_of_ble_eq_true rfl) rfl (Nat.le_of_ble_eq_true rfl) (c_addSign h1.2.2.2.2.1 hadd ?_)
          show V cS g (dd + 3) mX3_readLevel 94 [some (.ref 3), some (.int (nI 2)), some (.int (nI op)), some (.int (nI (if 2 = 2 then 1 else 50))), some (.int (nI 0)), some (.int ((nx (M0 27) sz) k))] [] (put (put M1 80 o1.length (-((nx (M0 27) sz) k))) 26 1 (nI (o1.length + 1))) Q
          refine V.iinc dX3_readLevel_94 rfl (v := (nI (0 + 1))) (nI_1 _) (by decide) (fun _ h => by cases h; exact Or.inl rfl) rfl ?_
          refine V.goto dX3_readLevel_97 (tgt := 39) (by decide) ?_
          skip
          refine V.iload dX3_readLevel_39 rfl ?_
          refine V.iload_n dX3_readLevel_41 rfl (i := 3) rfl ?_
          refine V.ic_ge (tgt := 100) dX3_readLevel_42 (by decide) (fun c42 => ?_) (fun q => absurd ((by decide)) q)
          refine V.iconst dX3_readLevel_100 (v := 1) (by decide) ?_
          exact V.zret dX3_readLevel_101 rfl (by first | exact Or.inl rfl | exact Or.inr rfl | assumption | exact b2i_zo _ | (repeat' split) <;> first | exact Or.inl rfl | exact Or.inr rfl | assumption | exact b2i_zo _) (hQ _ h1.add)
        · rw [rd_lpT hlv h2 e] at he
          have hadd : o1.length < 50 := by omega
          refine V.iload dX3_readLevel_39 rfl ?_
          refine V.iload_n dX3_readLevel_41 rfl (i := 3) rfl ?_
          refine V.ic_ge (tgt := 100) dX3_readLevel_42 (by decide) (fun q => absurd q ((nI_ge (a := t) (b := (if l = 2 then 1 else 50)) (by omega) (by omega)))) (fun c42 => ?_)
          refine V.aload_n dX3_readLevel_45 rfl (i := 0) rfl ?_
          refine V.invv (z := mX3_next) (As := []) dX3_readLevel_46 rfl mlRX3_62 okX3_next npX3_next rfl rfl rfl ⟨by decide, by decide⟩ (Nat.le_of_ble_eq_true rfl) rfl (Nat.le_of_ble_eq_true rfl) (c_next hT hR hk ?_)
          show V cS g (dd + 3) mX3_readLevel 49 [some (.ref 3), some (.int (nI l)), some (.int (nI op)), some (.int (nI (if l = 2 then 1 else 50))), some (.int (nI t)), none] [.int ((nx (M0 27) sz) k)] M Q
          refine V.istore dX3_readLevel_49 (i := 5) (by decide) (fun _ h => by cases h; exact Or.inl rfl) rfl ?_
          refine V.iload dX3_readLevel_51 rfl ?_
          refine V.invs (z := mX3_levelOf) (As := [_]) dX3_readLevel_53 rfl mlRX3_66 okX3_levelOf npX3_levelOf rfl (Nat.le_of_ble_eq_true rfl) rfl (Nat.le_of_ble_eq_true rfl) (c_levelOf   ?_)
          show V cS g (dd + 3) mX3_readLevel 56 [some (.ref 3), some (.int (nI l)), some (.int (nI op)), some (.int (nI (if l = 2 then 1 else 50))), some (.int (nI t)), some (.int ((nx (M0 27) sz) k))] [.int (lvS ((nx (M0 27) sz) k))] (M) Q
          refine V.iload_n dX3_readLevel_56 rfl (i := 1) rfl ?_
          refine V.ic_eq (tgt := 62) dX3_readLevel_57 (by decide) (fun c57 => ?_) (fun q => absurd (hlv) q)
          refine V.aload_n dX3_readLevel_62 rfl (i := 0) rfl ?_
          refine V.dup dX3_readLevel_63 rfl ?_
          refine V.getI dX3_readLevel_64 rfl flRX3_48 rfl ⟨by decide, by decide⟩ ?_
          refine V.top (x' := (nI k)) (h33) ?_
          refine V.iconst dX3_readLevel_67 (v := 1) (by decide) ?_
          refine V.iadd dX3_readLevel_68 ?_
          refine V.top (x' := (nI (k + 1))) (nI_add k 1) ?_
          refine V.putI dX3_readLevel_69 rfl fpRX3_48 rfl ⟨by decide, by decide⟩ ?_
          refine V.aload_n dX3_readLevel_72 rfl (i := 0) rfl ?_
          refine V.iload_n dX3_readLevel_73 rfl (i := 1) rfl ?_
          refine V.iconst dX3_readLevel_74 (v := 1) (by decide) ?_
          refine V.iadd dX3_readLevel_75 ?_
          refine V.top (x' := (nI (l + 1))) (nI_add l 1) ?_
          refine V.iload_n dX3_readLevel_76 rfl (i := 2) rfl ?_
          refine V.invv (z := mX3_readLevel) (As := [_, _]) dX3_readLevel_77 rfl mlRX3_54 okX3_readLevel npX3_readLevel rfl rfl rfl ⟨by decide, by decide⟩ (Nat.le_of_ble_eq_true rfl) rfl (Nat.le_of_ble_eq_true rfl) (hL (dd + 2) (l + 1) op (k + 1) out _ _ (true, k1, o1) (by omega) (by omega) ho hks (by omega) (by omega) hR.go e (fun M1 h1 => ?_))
          show V cS g (dd + 3) mX3_readLevel 80 [some (.ref 3), some (.int (nI l)), some (.int (nI op)), some (.int (nI (if l = 2 then 1 else 50))), some (.int (nI t)), some (.int ((nx (M0 27) sz) k))] [.int (b2i (true = true))] M1 Q
          refine V.if_ne (tgt := 85) dX3_readLevel_80 (by decide) (fun c80 => ?_) (fun q => absurd q ((by decide)))
          refine V.aload_n dX3_readLevel_85 rfl (i := 0) rfl ?_
          refine V.getR dX3_readLevel_86 rfl flRX3_12 rfl ⟨by decide, by decide⟩ ?_
          refine V.iload dX3_readLevel_89 rfl ?_
          refine V.invv (z := mX2_addSign) (As := [_]) dX3_readLevel_91 rfl mlRX3_70 okX2_addSign npX2_addSign rfl rfl rfl ⟨by decide, by decide⟩ (Nat.le_of_ble_eq_true rfl) rfl (Nat.le_of_ble_eq_true rfl) (c_addSign h1.2.2.2.2.1 hadd ?_)
          show V cS g (dd + 3) mX3_readLevel 94 [some (.ref 3), some (.int (nI l)), some (.int (nI op)), some (.int (nI (if l = 2 then 1 else 50))), some (.int (nI t)), some (.int ((nx (M0 27) sz) k))] [] (put (put M1 80 o1.length (-((nx (M0 27) sz) k))) 26 1 (nI (o1.length + 1))) Q
          refine V.iinc dX3_readLevel_94 rfl (v := (nI (t + 1))) (nI_1 _) (by decide) (fun _ h => by cases h; exact Or.inl rfl) rfl ?_
          refine V.goto dX3_readLevel_97 (tgt := 39) (by decide) ?_
          exact hP (dd + 3) l op k1 (t + 1) (o1 ++ [-((nx (M0 27) sz) k)]) _ Q r _ (by omega) hl ho i2 (by rw [List.length_append, List.length_singleton]; omega) (by omega) (fun z => absurd z h2) (by omega) h1.add he hQ
    · rw [rd_lpN hlv] at he
      subst he
      refine V.iload dX3_readLevel_39 rfl ?_
      refine V.iload_n dX3_readLevel_41 rfl (i := 3) rfl ?_
      refine V.ic_ge (tgt := 100) dX3_readLevel_42 (by decide) (fun q => absurd q ((nI_ge (a := t) (b := (if l = 2 then 1 else 50)) (by omega) (by omega)))) (fun c42 => ?_)
      refine V.aload_n dX3_readLevel_45 rfl (i := 0) rfl ?_
      refine V.invv (z := mX3_next) (As := []) dX3_readLevel_46 rfl mlRX3_62 okX3_next npX3_next rfl rfl rfl ⟨by decide, by decide⟩ (Nat.le_of_ble_eq_true rfl) rfl (Nat.le_of_ble_eq_true rfl) (c_next hT hR hk ?_)
      show V cS g (dd + 3) mX3_readLevel 49 [some (.ref 3), some (.int (nI l)), some (.int (nI op)), some (.int (nI (if l = 2 then 1 else 50))), some (.int (nI t)), none] [.int ((nx (M0 27) sz) k)] M Q
      refine V.istore dX3_readLevel_49 (i := 5) (by decide) (fun _ h => by cases h; exact Or.inl rfl) rfl ?_
      refine V.iload dX3_readLevel_51 rfl ?_
      refine V.invs (z := mX3_levelOf) (As := [_]) dX3_readLevel_53 rfl mlRX3_66 okX3_levelOf npX3_levelOf rfl (Nat.le_of_ble_eq_true rfl) rfl (Nat.le_of_ble_eq_true rfl) (c_levelOf   ?_)
      show V cS g (dd + 3) mX3_readLevel 56 [some (.ref 3), some (.int (nI l)), some (.int (nI op)), some (.int (nI (if l = 2 then 1 else 50))), some (.int (nI t)), some (.int ((nx (M0 27) sz) k))] [.int (lvS ((nx (M0 27) sz) k))] (M) Q
      refine V.iload_n dX3_readLevel_56 rfl (i := 1) rfl ?_
      refine V.ic_eq (tgt := 62) dX3_readLevel_57 (by decide) (fun q => absurd q (hlv)) (fun c57 => ?_)
      refine V.iconst dX3_readLevel_60 (v := 1) (by decide) ?_
      exact V.zret dX3_readLevel_61 rfl (by first | exact Or.inl rfl | exact Or.inr rfl | assumption | exact b2i_zo _ | (repeat' split) <;> first | exact Or.inl rfl | exact Or.inr rfl | assumption | exact b2i_zo _) (hQ M hR)
  · have h2 : ¬ l = 2 := fun z => htm (by rw [if_pos z, ht2 z]; decide)
    have h50t : 50 ≤ t := by rw [if_neg h2] at htm; omega
    have hn : (nx (M0 27) sz) k = -1 := if_neg (by omega)
    rw [rd_lpN (by rw [hn]; exact lvS_no l hl)] at he
    subst he
    have ht50 : t = 50 := by omega
    subst ht50
    refine V.iload dX3_readLevel_39 rfl ?_
    refine V.iload_n dX3_readLevel_41 rfl (i := 3) rfl ?_
    refine V.ic_ge (tgt := 100) dX3_readLevel_42 (by decide) (fun c42 => ?_) (fun q => absurd ((nI_le (a := (if l = 2 then 1 else 50)) (b := 50) (by omega) (by omega))) q)
    refine V.iconst dX3_readLevel_100 (v := 1) (by decide) ?_
    exact V.zret dX3_readLevel_101 rfl (by first | exact Or.inl rfl | exact Or.inr rfl | assumption | exact b2i_zo _ | (repeat' split) <;> first | exact Or.inl rfl | exact Or.inr rfl | assumption | exact b2i_zo _) (hQ M hR)
set_option maxHeartbeats 4000000 in
set_option maxRecDepth 100000 in
theorem s_PL {g : GG} {M0 : Mem} {us sz f : Nat} (hT : RdT M0 us sz) (hU : PU g M0 us sz (f + 1)) (hL : PL g M0 us sz f) (hP : PP g M0 us sz f) : PL g M0 us sz (f + 1) := by
  intro D l op k out M Q r hD hl ho hk hok hf hR he hQ
  have h50 := hT.2.1
  obtain ⟨dd, rfl⟩ : ∃ dd, D = dd + 3 := ⟨D - 3, by omega⟩
  by_cases h5 : l = 5
  · subst h5
    refine V.iload_n dX3_readLevel_0 rfl (i := 1) rfl ?_
    refine V.iconst dX3_readLevel_1 (v := 5) (by decide) ?_
    refine V.ic_lt (tgt := 11) dX3_readLevel_2 (by decide) (fun q => absurd q ((by decide))) (fun c2 => ?_)
    refine V.aload_n dX3_readLevel_5 rfl (i := 0) rfl ?_
    refine V.iload_n dX3_readLevel_6 rfl (i := 2) rfl ?_
    refine V.invv (z := mX3_readUnit) (As := [_]) dX3_readLevel_7 rfl mlRX3_58 okX3_readUnit npX3_readUnit rfl rfl rfl ⟨by decide, by decide⟩ (Nat.le_of_ble_eq_true rfl) rfl (Nat.le_of_ble_eq_true rfl) (hU (dd + 2) op k out M _ r (by omega) ho hk hok (by omega) hR he (fun M1 h1 => ?_))
    show V cS g (dd + 3) mX3_readLevel 10 [some (.ref 3), some (.int (nI 5)), some (.int (nI op)), none, none, none] [.int (b2i (r.1 = true))] M1 Q
    exact V.zret dX3_readLevel_10 rfl (b2i_zo _) (hQ M1 h1)
  · have hl5 : l < 5 := by omega
    rcases e : rd (nx (M0 27) sz) us f (l + 1) op k out with ⟨b, k1, o1⟩
    obtain ⟨i1, i2, i3, i4⟩ := rd_inv f (l + 1) op k out _ (by omega) hk e
    have i4' := i4 (by omega)
    simp only at i1 i2 i3 i4'
    cases b
    · rw [rd_lvF hl5 e] at he
      subst he
      refine V.iload_n dX3_readLevel_0 rfl (i := 1) rfl ?_
      refine V.iconst dX3_readLevel_1 (v := 5) (by decide) ?_
      refine V.ic_lt (tgt := 11) dX3_readLevel_2 (by decide) (fun c2 => ?_) (fun q => absurd ((nI_lt (b := 5) (by omega) (by omega))) q)
      refine V.aload_n dX3_readLevel_11 rfl (i := 0) rfl ?_
      refine V.iload_n dX3_readLevel_12 rfl (i := 1) rfl ?_
      refine V.iconst dX3_readLevel_13 (v := 1) (by decide) ?_
      refine V.iadd dX3_readLevel_14 ?_
      refine V.top (x' := (nI (l + 1))) (nI_add l 1) ?_
      refine V.iload_n dX3_readLevel_15 rfl (i := 2) rfl ?_
      refine V.invv (z := mX3_readLevel) (As := [_, _]) dX3_readLevel_16 rfl mlRX3_54 okX3_readLevel npX3_readLevel rfl rfl rfl ⟨by decide, by decide⟩ (Nat.le_of_ble_eq_true rfl) rfl (Nat.le_of_ble_eq_true rfl) (hL (dd + 2) (l + 1) op k out M _ (false, k1, o1) (by omega) (by omega) ho hk hok (by omega) hR e (fun M1 h1 => ?_))
      show V cS g (dd + 3) mX3_readLevel 19 [some (.ref 3), some (.int (nI l)), some (.int (nI op)), none, none, none] [.int (b2i (false = true))] M1 Q
      refine V.if_ne (tgt := 24) dX3_readLevel_19 (by decide) (fun q => absurd ((b2i_f (by decide))) q) (fun c19 => ?_)
      refine V.iconst dX3_readLevel_22 (v := 0) (by decide) ?_
      exact V.zret dX3_readLevel_23 rfl (by first | exact Or.inl rfl | exact Or.inr rfl | assumption | exact b2i_zo _ | (repeat' split) <;> first | exact Or.inl rfl | exact Or.inr rfl | assumption | exact b2i_zo _) (hQ M1 h1)
    · rw [rd_lvT hl5 e] at he
      have i5 := i4' rfl
      refine V.iload_n dX3_readLevel_0 rfl (i := 1) rfl ?_
      refine V.iconst dX3_readLevel_1 (v := 5) (by decide) ?_
      refine V.ic_lt (tgt := 11) dX3_readLevel_2 (by decide) (fun c2 => ?_) (fun q => absurd ((nI_lt (b := 5) (by omega) (by omega))) q)
      refine V.aload_n dX3_readLevel_11 rfl (i := 0) rfl ?_
      refine V.iload_n dX3_readLevel_12 rfl (i := 1) rfl ?_
      refine V.iconst dX3_readLevel_13 (v := 1) (by decide) ?_
      refine V.iadd dX3_readLevel_14 ?_
      refine V.top (x' := (nI (l + 1))) (nI_add l 1) ?_
      refine V.iload_n dX3_readLevel_15 rfl (i := 2) rfl ?_
      refine V.invv (z := mX3_readLevel) (As := [_, _]) dX3_readLevel_16 rfl mlRX3_54 okX3_readLevel npX3_readLevel rfl rfl rfl ⟨by decide, by decide⟩ (Nat.le_of_ble_eq_true rfl) rfl (Nat.le_of_ble_eq_true rfl) (hL (dd + 2) (l + 1) op k out M _ (true, k1, o1) (by omega) (by omega) ho hk hok (by omega) hR e (fun M1 h1 => ?_))
      show V cS g (dd + 3) mX3_readLevel 19 [some (.ref 3), some (.int (nI l)), some (.int (nI op)), none, none, none] [.int (b2i (true = true))] M1 Q
      refine V.if_ne (tgt := 24) dX3_readLevel_19 (by decide) (fun c19 => ?_) (fun q => absurd q ((by decide)))
      refine V.iload_n dX3_readLevel_24 rfl (i := 1) rfl ?_
      refine V.iconst dX3_readLevel_25 (v := 2) (by decide) ?_
      suffices kJ26 : V cS g (dd + 3) mX3_readLevel 35 [some (.ref 3), some (.int (nI l)), some (.int (nI op)), none, none, none] [.int (if (nI l) = (2 : Int32) then (1 : Int32) else (50 : Int32))] M1 Q by
        refine V.ic_ne (tgt := 33) dX3_readLevel_26 (by decide) (fun c26 => ?_) (fun c26 => ?_)
        · refine V.bipush dX3_readLevel_33 (v := 50) (by decide) ?_
          rw [if_neg c26] at kJ26; exact kJ26
        · refine V.iconst dX3_readLevel_29 (v := 1) (by decide) ?_
          refine V.goto dX3_readLevel_30 (tgt := 35) (by decide) ?_
          rw [if_pos c26] at kJ26; exact kJ26
      refine V.top (x' := (nI (if l = 2 then 1 else 50))) ((mxl l hl5)) ?_
      refine V.istore_n dX3_readLevel_35 rfl (i := 3) (by decide) (fun _ h => by cases h; exact Or.inl rfl) rfl ?_
      refine V.iconst dX3_readLevel_36 (v := 0) (by decide) ?_
      refine V.istore dX3_readLevel_37 (i := 4) (by decide) (fun _ h => by cases h; exact Or.inl rfl) rfl ?_
      exact hP (dd + 3) l op k1 0 o1 M1 Q r _ (by omega) hl5 ho i2 (by omega) (by omega) (fun _ => rfl) (by omega) h1 he hQ
set_option maxHeartbeats 4000000 in
set_option maxRecDepth 100000 in
theorem s_PU {g : GG} {M0 : Mem} {us sz f : Nat} (hT : RdT M0 us sz) (hU : PU g M0 us sz f) (hL : PL g M0 us sz f) : PU g M0 us sz (f + 1) := by
  intro D op k out M Q r hD ho hk hok hf hR he hQ
  have h50 := hT.2.1
  have h33 := hR.2.2.2.1
  obtain ⟨dd, rfl⟩ : ∃ dd, D = dd + 6 := ⟨D - 6, by omega⟩
  have hby := nx_byte (k := k) hT
  obtain ⟨c0, hc0⟩ : ∃ c0, (nx (M0 27) sz) k = c0 := ⟨_, rfl⟩
  rw [hc0] at hby
  by_cases hd : dig ((nx (M0 27) sz) k) = true
  · have hks := dig_in hd
    rw [rd_dig hd] at he
    subst he
    rw [hc0] at hd
    refine V.aload_n dX3_readUnit_0 rfl (i := 0) rfl ?_
    refine V.invv (z := mX3_next) (As := []) dX3_readUnit_1 rfl mlRX3_62 okX3_next npX3_next rfl rfl rfl ⟨by decide, by decide⟩ (Nat.le_of_ble_eq_true rfl) rfl (Nat.le_of_ble_eq_true rfl) (c_next hT hR hk ?_)
    show V cS g (dd + 6) mX3_readUnit 4 [some (.ref 3), some (.int (nI op)), none, none] [.int ((nx (M0 27) sz) k)] M Q
    refine V.top (x' := c0) (hc0) ?_
    refine V.istore_n dX3_readUnit_4 rfl (i := 2) (by decide) (fun _ h => by cases h; exact Or.inl rfl) rfl ?_
    refine V.iload_n dX3_readUnit_5 rfl (i := 2) rfl ?_
    refine V.invs (z := mX3_isDigit) (As := [_]) dX3_readUnit_6 rfl mlRX3_74 okX3_isDigit npX3_isDigit rfl (Nat.le_of_ble_eq_true rfl) rfl (Nat.le_of_ble_eq_true rfl) (c_isDigit   ?_)
    show V cS g (dd + 6) mX3_readUnit 9 [some (.ref 3), some (.int (nI op)), some (.int c0), none] [.int (b2i (dig c0 = true))] (M) Q
    refine V.if_eq (tgt := 18) dX3_readUnit_9 (by decide) (fun q => absurd q ((fun z => b2i_0.mp z hd))) (fun c9 => ?_)
    refine V.aload_n dX3_readUnit_12 rfl (i := 0) rfl ?_
    refine V.invv (z := mX3_readNumber) (As := []) dX3_readUnit_13 rfl mlRX3_77 okX3_readNumber npX3_readNumber rfl rfl rfl ⟨by decide, by decide⟩ (Nat.le_of_ble_eq_true rfl) rfl (Nat.le_of_ble_eq_true rfl) (c_readNumber hT hR hk (by omega) (fun M1 h1 => ?_))
    show V cS g (dd + 6) mX3_readUnit 16 [some (.ref 3), some (.int (nI op)), some (.int c0), none] [] M1 Q
    refine V.iconst dX3_readUnit_16 (v := 1) (by decide) ?_
    exact V.zret dX3_readUnit_17 rfl (by first | exact Or.inl rfl | exact Or.inr rfl | assumption | exact b2i_zo _ | (repeat' split) <;> first | exact Or.inl rfl | exact Or.inr rfl | assumption | exact b2i_zo _) (hQ M1 h1)
  · have hd0 := hd
    rw [hc0] at hd0
    by_cases c33 : (nx (M0 27) sz) k = 33
    · have hks : k < sz := nx_in (fun z => by rw [c33] at z; exact absurd z (by decide))
      have c33' := c33
      rw [hc0] at c33'
      by_cases ho5 : op < 5
      · rcases e : rd (nx (M0 27) sz) us f 5 (op + 1) (k + 1) out with ⟨b, k1, o1⟩
        obtain ⟨i1, i2, i3, i4⟩ := rd_inv f 5 (op + 1) (k + 1) out _ (by omega) hks e
        simp only at i1 i2 i3
        have hcall : ∀ Q' : Option Value → Mem → Prop, (∀ M', RdP M0 M' r.2.1 r.2.2 → Q' (some (.int (b2i (r.1 = true)))) M') → V cS g (dd + 5) mX3_readNot 0 [some (.ref 3), some (.int (nI (op + 1)))] [] (put M 3 3 (nI (k + 1))) Q' := by
          intro Q' hQ'
          cases b
          · rw [rd_notF hd c33 ho5 e] at he
            subst he
            refine V.aload_n dX3_readNot_0 rfl (i := 0) rfl ?_
            refine V.iload_n dX3_readNot_1 rfl (i := 1) rfl ?_
            refine V.invv (z := mX3_readUnit) (As := [_]) dX3_readNot_2 rfl mlRX3_58 okX3_readUnit npX3_readUnit rfl rfl rfl ⟨by decide, by decide⟩ (Nat.le_of_ble_eq_true rfl) rfl (Nat.le_of_ble_eq_true rfl) (hU (dd + 4) (op + 1) (k + 1) out _ _ (false, k1, o1) (by omega) (by omega) hks (by omega) (by omega) hR.go e (fun M1 h1 => ?_))
            show V cS g (dd + 5) mX3_readNot 5 [some (.ref 3), some (.int (nI (op + 1)))] [.int (b2i (false = true))] M1 Q'
            refine V.if_ne (tgt := 10) dX3_readNot_5 (by decide) (fun q => absurd ((b2i_f (by decide))) q) (fun c5 => ?_)
            refine V.iconst dX3_readNot_8 (v := 0) (by decide) ?_
            exact V.zret dX3_readNot_9 rfl (by first | exact Or.inl rfl | exact Or.inr rfl | assumption | exact b2i_zo _ | (repeat' split) <;> first | exact Or.inl rfl | exact Or.inr rfl | assumption | exact b2i_zo _) (hQ' M1 h1)
          · rw [rd_notT hd c33 ho5 e] at he
            subst he
            have hadd : o1.length < 50 := by omega
            refine V.aload_n dX3_readNot_0 rfl (i := 0) rfl ?_
            refine V.iload_n dX3_readNot_1 rfl (i := 1) rfl ?_
            refine V.invv (z := mX3_readUnit) (As := [_]) dX3_readNot_2 rfl mlRX3_58 okX3_readUnit npX3_readUnit rfl rfl rfl ⟨by decide, by decide⟩ (Nat.le_of_ble_eq_true rfl) rfl (Nat.le_of_ble_eq_true rfl) (hU (dd + 4) (op + 1) (k + 1) out _ _ (true, k1, o1) (by omega) (by omega) hks (by omega) (by omega) hR.go e (fun M1 h1 => ?_))
            show V cS g (dd + 5) mX3_readNot 5 [some (.ref 3), some (.int (nI (op + 1)))] [.int (b2i (true = true))] M1 Q'
            refine V.if_ne (tgt := 10) dX3_readNot_5 (by decide) (fun c5 => ?_) (fun q => absurd q ((by decide)))
            refine V.aload_n dX3_readNot_10 rfl (i := 0) rfl ?_
            refine V.getR dX3_readNot_11 rfl flRX3_12 rfl ⟨by decide, by decide⟩ ?_
            refine V.bipush dX3_readNot_14 (v := 33) (by decide) ?_
            refine V.invv (z := mX2_addSign) (As := [_]) dX3_readNot_16 rfl mlRX3_70 okX2_addSign npX2_addSign rfl rfl rfl ⟨by decide, by decide⟩ (Nat.le_of_ble_eq_true rfl) rfl (Nat.le_of_ble_eq_true rfl) (c_addSign h1.2.2.2.2.1 hadd ?_)
            show V cS g (dd + 5) mX3_readNot 19 [some (.ref 3), some (.int (nI (op + 1)))] [] (put (put M1 80 o1.length (-33)) 26 1 (nI (o1.length + 1))) Q'
            refine V.iconst dX3_readNot_19 (v := 1) (by decide) ?_
            exact V.zret dX3_readNot_20 rfl (by first | exact Or.inl rfl | exact Or.inr rfl | assumption | exact b2i_zo _ | (repeat' split) <;> first | exact Or.inl rfl | exact Or.inr rfl | assumption | exact b2i_zo _) (hQ' _ h1.add)
        refine V.aload_n dX3_readUnit_0 rfl (i := 0) rfl ?_
        refine V.invv (z := mX3_next) (As := []) dX3_readUnit_1 rfl mlRX3_62 okX3_next npX3_next rfl rfl rfl ⟨by decide, by decide⟩ (Nat.le_of_ble_eq_true rfl) rfl (Nat.le_of_ble_eq_true rfl) (c_next hT hR hk ?_)
        show V cS g (dd + 6) mX3_readUnit 4 [some (.ref 3), some (.int (nI op)), none, none] [.int ((nx (M0 27) sz) k)] M Q
        refine V.top (x' := c0) (hc0) ?_
        refine V.istore_n dX3_readUnit_4 rfl (i := 2) (by decide) (fun _ h => by cases h; exact Or.inl rfl) rfl ?_
        refine V.iload_n dX3_readUnit_5 rfl (i := 2) rfl ?_
        refine V.invs (z := mX3_isDigit) (As := [_]) dX3_readUnit_6 rfl mlRX3_74 okX3_isDigit npX3_isDigit rfl (Nat.le_of_ble_eq_true rfl) rfl (Nat.le_of_ble_eq_true rfl) (c_isDigit   ?_)
        show V cS g (dd + 6) mX3_readUnit 9 [some (.ref 3), some (.int (nI op)), some (.int c0), none] [.int (b2i (dig c0 = true))] (M) Q
        refine V.if_eq (tgt := 18) dX3_readUnit_9 (by decide) (fun c9 => ?_) (fun q => absurd ((b2i_f hd0)) q)
        refine V.iload_n dX3_readUnit_18 rfl (i := 2) rfl ?_
        refine V.bipush dX3_readUnit_19 (v := 33) (by decide) ?_
        refine V.ic_eq (tgt := 30) dX3_readUnit_21 (by decide) (fun c21 => ?_) (fun q => absurd (c33') q)
        refine V.iload_n dX3_readUnit_30 rfl (i := 1) rfl ?_
        refine V.iconst dX3_readUnit_31 (v := 5) (by decide) ?_
        refine V.ic_lt (tgt := 37) dX3_readUnit_32 (by decide) (fun c32 => ?_) (fun q => absurd ((nI_lt (b := 5) (by omega) (by omega))) q)
        refine V.aload_n dX3_readUnit_37 rfl (i := 0) rfl ?_
        refine V.dup dX3_readUnit_38 rfl ?_
        refine V.getI dX3_readUnit_39 rfl flRX3_48 rfl ⟨by decide, by decide⟩ ?_
        refine V.top (x' := (nI k)) (h33) ?_
        refine V.iconst dX3_readUnit_42 (v := 1) (by decide) ?_
        refine V.iadd dX3_readUnit_43 ?_
        refine V.top (x' := (nI (k + 1))) (nI_add k 1) ?_
        refine V.putI dX3_readUnit_44 rfl fpRX3_48 rfl ⟨by decide, by decide⟩ ?_
        refine V.iload_n dX3_readUnit_47 rfl (i := 2) rfl ?_
        refine V.bipush dX3_readUnit_48 (v := 33) (by decide) ?_
        refine V.ic_ne (tgt := 63) dX3_readUnit_50 (by decide) (fun q => absurd (c33') q) (fun c50 => ?_)
        refine V.aload_n dX3_readUnit_53 rfl (i := 0) rfl ?_
        refine V.iload_n dX3_readUnit_54 rfl (i := 1) rfl ?_
        refine V.iconst dX3_readUnit_55 (v := 1) (by decide) ?_
        refine V.iadd dX3_readUnit_56 ?_
        refine V.top (x' := (nI (op + 1))) (nI_add op 1) ?_
        refine V.invv (z := mX3_readNot) (As := [_]) dX3_readUnit_57 rfl mlRX3_80 okX3_readNot npX3_readNot rfl rfl rfl ⟨by decide, by decide⟩ (Nat.le_of_ble_eq_true rfl) rfl (Nat.le_of_ble_eq_true rfl) (hcall _ (fun M1 h1 => ?_))
        show V cS g (dd + 6) mX3_readUnit 60 [some (.ref 3), some (.int (nI op)), some (.int c0), none] [.int (b2i (r.1 = true))] M1 Q
        refine V.goto dX3_readUnit_60 (tgt := 70) (by decide) ?_
        exact V.zret dX3_readUnit_70 rfl (b2i_zo _) (hQ M1 h1)
      · rw [rd_not5 hd c33 ho5] at he
        subst he
        refine V.aload_n dX3_readUnit_0 rfl (i := 0) rfl ?_
        refine V.invv (z := mX3_next) (As := []) dX3_readUnit_1 rfl mlRX3_62 okX3_next npX3_next rfl rfl rfl ⟨by decide, by decide⟩ (Nat.le_of_ble_eq_true rfl) rfl (Nat.le_of_ble_eq_true rfl) (c_next hT hR hk ?_)
        show V cS g (dd + 6) mX3_readUnit 4 [some (.ref 3), some (.int (nI op)), none, none] [.int ((nx (M0 27) sz) k)] M Q
        refine V.top (x' := c0) (hc0) ?_
        refine V.istore_n dX3_readUnit_4 rfl (i := 2) (by decide) (fun _ h => by cases h; exact Or.inl rfl) rfl ?_
        refine V.iload_n dX3_readUnit_5 rfl (i := 2) rfl ?_
        refine V.invs (z := mX3_isDigit) (As := [_]) dX3_readUnit_6 rfl mlRX3_74 okX3_isDigit npX3_isDigit rfl (Nat.le_of_ble_eq_true rfl) rfl (Nat.le_of_ble_eq_true rfl) (c_isDigit   ?_)
        show V cS g (dd + 6) mX3_readUnit 9 [some (.ref 3), some (.int (nI op)), some (.int c0), none] [.int (b2i (dig c0 = true))] (M) Q
        refine V.if_eq (tgt := 18) dX3_readUnit_9 (by decide) (fun c9 => ?_) (fun q => absurd ((b2i_f hd0)) q)
        refine V.iload_n dX3_readUnit_18 rfl (i := 2) rfl ?_
        refine V.bipush dX3_readUnit_19 (v := 33) (by decide) ?_
        refine V.ic_eq (tgt := 30) dX3_readUnit_21 (by decide) (fun c21 => ?_) (fun q => absurd (c33') q)
        refine V.iload_n dX3_readUnit_30 rfl (i := 1) rfl ?_
        refine V.iconst dX3_readUnit_31 (v := 5) (by decide) ?_
        refine V.ic_lt (tgt := 37) dX3_readUnit_32 (by decide) (fun q => absurd q ((nI_nlt (b := 5) (by omega) (by omega)))) (fun c32 => ?_)
        refine V.iconst dX3_readUnit_35 (v := 0) (by decide) ?_
        exact V.zret dX3_readUnit_36 rfl (by first | exact Or.inl rfl | exact Or.inr rfl | assumption | exact b2i_zo _ | (repeat' split) <;> first | exact Or.inl rfl | exact Or.inr rfl | assumption | exact b2i_zo _) (hQ M hR)
    · have n33 := c33
      rw [hc0] at n33
      by_cases c40 : (nx (M0 27) sz) k = 40
      · have hks : k < sz := nx_in (fun z => by rw [c40] at z; exact absurd z (by decide))
        have c40' := c40
        rw [hc0] at c40'
        by_cases ho5 : op < 5
        · rcases e : rd (nx (M0 27) sz) us f 0 (op + 1) (k + 1) out with ⟨b, k1, o1⟩
          obtain ⟨i1, i2, i3, i4⟩ := rd_inv f 0 (op + 1) (k + 1) out _ (by omega) hks e
          simp only at i1 i2 i3
          have hcall : ∀ Q' : Option Value → Mem → Prop, (∀ M', RdP M0 M' r.2.1 r.2.2 → Q' (some (.int (b2i (r.1 = true)))) M') → V cS g (dd + 5) mX3_readBraced 0 [some (.ref 3), some (.int (nI (op + 1)))] [] (put M 3 3 (nI (k + 1))) Q' := by
            intro Q' hQ'
            cases b
            · rw [rd_brF hd c33 c40 ho5 e] at he
              subst he
              refine V.aload_n dX3_readBraced_0 rfl (i := 0) rfl ?_
              refine V.iconst dX3_readBraced_1 (v := 0) (by decide) ?_
              refine V.iload_n dX3_readBraced_2 rfl (i := 1) rfl ?_
              refine V.invv (z := mX3_readLevel) (As := [_, _]) dX3_readBraced_3 rfl mlRX3_54 okX3_readLevel npX3_readLevel rfl rfl rfl ⟨by decide, by decide⟩ (Nat.le_of_ble_eq_true rfl) rfl (Nat.le_of_ble_eq_true rfl) (hL (dd + 4) 0 (op + 1) (k + 1) out _ _ (false, k1, o1) (by omega) (by omega) (by omega) hks (by omega) (by omega) hR.go e (fun M1 h1 => ?_))
              show V cS g (dd + 5) mX3_readBraced 6 [some (.ref 3), some (.int (nI (op + 1)))] [.int (b2i (false = true))] M1 Q'
              refine V.if_eq (tgt := 18) dX3_readBraced_6 (by decide) (fun c6 => ?_) (fun q => absurd ((b2i_f (by decide))) q)
              refine V.iconst dX3_readBraced_18 (v := 0) (by decide) ?_
              exact V.zret dX3_readBraced_19 rfl (by first | exact Or.inl rfl | exact Or.inr rfl | assumption | exact b2i_zo _ | (repeat' split) <;> first | exact Or.inl rfl | exact Or.inr rfl | assumption | exact b2i_zo _) (hQ' M1 h1)
            · by_cases c41 : (nx (M0 27) sz) k1 = 41
              · rw [rd_brT hd c33 c40 ho5 e c41] at he
                subst he
                refine V.aload_n dX3_readBraced_0 rfl (i := 0) rfl ?_
                refine V.iconst dX3_readBraced_1 (v := 0) (by decide) ?_
                refine V.iload_n dX3_readBraced_2 rfl (i := 1) rfl ?_
                refine V.invv (z := mX3_readLevel) (As := [_, _]) dX3_readBraced_3 rfl mlRX3_54 okX3_readLevel npX3_readLevel rfl rfl rfl ⟨by decide, by decide⟩ (Nat.le_of_ble_eq_true rfl) rfl (Nat.le_of_ble_eq_true rfl) (hL (dd + 4) 0 (op + 1) (k + 1) out _ _ (true, k1, o1) (by omega) (by omega) (by omega) hks (by omega) (by omega) hR.go e (fun M1 h1 => ?_))
                show V cS g (dd + 5) mX3_readBraced 6 [some (.ref 3), some (.int (nI (op + 1)))] [.int (b2i (true = true))] M1 Q'
                refine V.if_eq (tgt := 18) dX3_readBraced_6 (by decide) (fun q => absurd q ((by decide))) (fun c6 => ?_)
                refine V.aload_n dX3_readBraced_9 rfl (i := 0) rfl ?_
                refine V.invv (z := mX3_next) (As := []) dX3_readBraced_10 rfl mlRX3_62 okX3_next npX3_next rfl rfl rfl ⟨by decide, by decide⟩ (Nat.le_of_ble_eq_true rfl) rfl (Nat.le_of_ble_eq_true rfl) (c_next hT h1 i2 ?_)
                show V cS g (dd + 5) mX3_readBraced 13 [some (.ref 3), some (.int (nI (op + 1)))] [.int ((nx (M0 27) sz) k1)] M1 Q'
                refine V.bipush dX3_readBraced_13 (v := 41) (by decide) ?_
                refine V.ic_eq (tgt := 20) dX3_readBraced_15 (by decide) (fun c15 => ?_) (fun q => absurd (c41) q)
                refine V.aload_n dX3_readBraced_20 rfl (i := 0) rfl ?_
                refine V.dup dX3_readBraced_21 rfl ?_
                refine V.getI dX3_readBraced_22 rfl flRX3_48 rfl ⟨by decide, by decide⟩ ?_
                refine V.top (x' := (nI k1)) (h1.2.2.2.1) ?_
                refine V.iconst dX3_readBraced_25 (v := 1) (by decide) ?_
                refine V.iadd dX3_readBraced_26 ?_
                refine V.top (x' := (nI (k1 + 1))) (nI_add k1 1) ?_
                refine V.putI dX3_readBraced_27 rfl fpRX3_48 rfl ⟨by decide, by decide⟩ ?_
                refine V.iconst dX3_readBraced_30 (v := 1) (by decide) ?_
                exact V.zret dX3_readBraced_31 rfl (by first | exact Or.inl rfl | exact Or.inr rfl | assumption | exact b2i_zo _ | (repeat' split) <;> first | exact Or.inl rfl | exact Or.inr rfl | assumption | exact b2i_zo _) (hQ' _ h1.go)
              · rw [rd_brN hd c33 c40 ho5 e c41] at he
                subst he
                refine V.aload_n dX3_readBraced_0 rfl (i := 0) rfl ?_
                refine V.iconst dX3_readBraced_1 (v := 0) (by decide) ?_
                refine V.iload_n dX3_readBraced_2 rfl (i := 1) rfl ?_
                refine V.invv (z := mX3_readLevel) (As := [_, _]) dX3_readBraced_3 rfl mlRX3_54 okX3_readLevel npX3_readLevel rfl rfl rfl ⟨by decide, by decide⟩ (Nat.le_of_ble_eq_true rfl) rfl (Nat.le_of_ble_eq_true rfl) (hL (dd + 4) 0 (op + 1) (k + 1) out _ _ (true, k1, o1) (by omega) (by omega) (by omega) hks (by omega) (by omega) hR.go e (fun M1 h1 => ?_))
                show V cS g (dd + 5) mX3_readBraced 6 [some (.ref 3), some (.int (nI (op + 1)))] [.int (b2i (true = true))] M1 Q'
                refine V.if_eq (tgt := 18) dX3_readBraced_6 (by decide) (fun q => absurd q ((by decide))) (fun c6 => ?_)
                refine V.aload_n dX3_readBraced_9 rfl (i := 0) rfl ?_
                refine V.invv (z := mX3_next) (As := []) dX3_readBraced_10 rfl mlRX3_62 okX3_next npX3_next rfl rfl rfl ⟨by decide, by decide⟩ (Nat.le_of_ble_eq_true rfl) rfl (Nat.le_of_ble_eq_true rfl) (c_next hT h1 i2 ?_)
                show V cS g (dd + 5) mX3_readBraced 13 [some (.ref 3), some (.int (nI (op + 1)))] [.int ((nx (M0 27) sz) k1)] M1 Q'
                refine V.bipush dX3_readBraced_13 (v := 41) (by decide) ?_
                refine V.ic_eq (tgt := 20) dX3_readBraced_15 (by decide) (fun q => absurd q (c41)) (fun c15 => ?_)
                refine V.iconst dX3_readBraced_18 (v := 0) (by decide) ?_
                exact V.zret dX3_readBraced_19 rfl (by first | exact Or.inl rfl | exact Or.inr rfl | assumption | exact b2i_zo _ | (repeat' split) <;> first | exact Or.inl rfl | exact Or.inr rfl | assumption | exact b2i_zo _) (hQ' M1 h1)
          refine V.aload_n dX3_readUnit_0 rfl (i := 0) rfl ?_
          refine V.invv (z := mX3_next) (As := []) dX3_readUnit_1 rfl mlRX3_62 okX3_next npX3_next rfl rfl rfl ⟨by decide, by decide⟩ (Nat.le_of_ble_eq_true rfl) rfl (Nat.le_of_ble_eq_true rfl) (c_next hT hR hk ?_)
          show V cS g (dd + 6) mX3_readUnit 4 [some (.ref 3), some (.int (nI op)), none, none] [.int ((nx (M0 27) sz) k)] M Q
          refine V.top (x' := c0) (hc0) ?_
          refine V.istore_n dX3_readUnit_4 rfl (i := 2) (by decide) (fun _ h => by cases h; exact Or.inl rfl) rfl ?_
          refine V.iload_n dX3_readUnit_5 rfl (i := 2) rfl ?_
          refine V.invs (z := mX3_isDigit) (As := [_]) dX3_readUnit_6 rfl mlRX3_74 okX3_isDigit npX3_isDigit rfl (Nat.le_of_ble_eq_true rfl) rfl (Nat.le_of_ble_eq_true rfl) (c_isDigit   ?_)
          show V cS g (dd + 6) mX3_readUnit 9 [some (.ref 3), some (.int (nI op)), some (.int c0), none] [.int (b2i (dig c0 = true))] (M) Q
          refine V.if_eq (tgt := 18) dX3_readUnit_9 (by decide) (fun c9 => ?_) (fun q => absurd ((b2i_f hd0)) q)
          refine V.iload_n dX3_readUnit_18 rfl (i := 2) rfl ?_
          refine V.bipush dX3_readUnit_19 (v := 33) (by decide) ?_
          refine V.ic_eq (tgt := 30) dX3_readUnit_21 (by decide) (fun q => absurd q (n33)) (fun c21 => ?_)
          refine V.iload_n dX3_readUnit_24 rfl (i := 2) rfl ?_
          refine V.bipush dX3_readUnit_25 (v := 40) (by decide) ?_
          refine V.ic_ne (tgt := 71) dX3_readUnit_27 (by decide) (fun q => absurd (c40') q) (fun c27 => ?_)
          refine V.iload_n dX3_readUnit_30 rfl (i := 1) rfl ?_
          refine V.iconst dX3_readUnit_31 (v := 5) (by decide) ?_
          refine V.ic_lt (tgt := 37) dX3_readUnit_32 (by decide) (fun c32 => ?_) (fun q => absurd ((nI_lt (b := 5) (by omega) (by omega))) q)
          refine V.aload_n dX3_readUnit_37 rfl (i := 0) rfl ?_
          refine V.dup dX3_readUnit_38 rfl ?_
          refine V.getI dX3_readUnit_39 rfl flRX3_48 rfl ⟨by decide, by decide⟩ ?_
          refine V.top (x' := (nI k)) (h33) ?_
          refine V.iconst dX3_readUnit_42 (v := 1) (by decide) ?_
          refine V.iadd dX3_readUnit_43 ?_
          refine V.top (x' := (nI (k + 1))) (nI_add k 1) ?_
          refine V.putI dX3_readUnit_44 rfl fpRX3_48 rfl ⟨by decide, by decide⟩ ?_
          refine V.iload_n dX3_readUnit_47 rfl (i := 2) rfl ?_
          refine V.bipush dX3_readUnit_48 (v := 33) (by decide) ?_
          refine V.ic_ne (tgt := 63) dX3_readUnit_50 (by decide) (fun c50 => ?_) (fun q => absurd q (n33))
          refine V.aload_n dX3_readUnit_63 rfl (i := 0) rfl ?_
          refine V.iload_n dX3_readUnit_64 rfl (i := 1) rfl ?_
          refine V.iconst dX3_readUnit_65 (v := 1) (by decide) ?_
          refine V.iadd dX3_readUnit_66 ?_
          refine V.top (x' := (nI (op + 1))) (nI_add op 1) ?_
          refine V.invv (z := mX3_readBraced) (As := [_]) dX3_readUnit_67 rfl mlRX3_83 okX3_readBraced npX3_readBraced rfl rfl rfl ⟨by decide, by decide⟩ (Nat.le_of_ble_eq_true rfl) rfl (Nat.le_of_ble_eq_true rfl) (hcall _ (fun M1 h1 => ?_))
          show V cS g (dd + 6) mX3_readUnit 70 [some (.ref 3), some (.int (nI op)), some (.int c0), none] [.int (b2i (r.1 = true))] M1 Q
          exact V.zret dX3_readUnit_70 rfl (b2i_zo _) (hQ M1 h1)
        · rw [rd_br5 hd c33 c40 ho5] at he
          subst he
          refine V.aload_n dX3_readUnit_0 rfl (i := 0) rfl ?_
          refine V.invv (z := mX3_next) (As := []) dX3_readUnit_1 rfl mlRX3_62 okX3_next npX3_next rfl rfl rfl ⟨by decide, by decide⟩ (Nat.le_of_ble_eq_true rfl) rfl (Nat.le_of_ble_eq_true rfl) (c_next hT hR hk ?_)
          show V cS g (dd + 6) mX3_readUnit 4 [some (.ref 3), some (.int (nI op)), none, none] [.int ((nx (M0 27) sz) k)] M Q
          refine V.top (x' := c0) (hc0) ?_
          refine V.istore_n dX3_readUnit_4 rfl (i := 2) (by decide) (fun _ h => by cases h; exact Or.inl rfl) rfl ?_
          refine V.iload_n dX3_readUnit_5 rfl (i := 2) rfl ?_
          refine V.invs (z := mX3_isDigit) (As := [_]) dX3_readUnit_6 rfl mlRX3_74 okX3_isDigit npX3_isDigit rfl (Nat.le_of_ble_eq_true rfl) rfl (Nat.le_of_ble_eq_true rfl) (c_isDigit   ?_)
          show V cS g (dd + 6) mX3_readUnit 9 [some (.ref 3), some (.int (nI op)), some (.int c0), none] [.int (b2i (dig c0 = true))] (M) Q
          refine V.if_eq (tgt := 18) dX3_readUnit_9 (by decide) (fun c9 => ?_) (fun q => absurd ((b2i_f hd0)) q)
          refine V.iload_n dX3_readUnit_18 rfl (i := 2) rfl ?_
          refine V.bipush dX3_readUnit_19 (v := 33) (by decide) ?_
          refine V.ic_eq (tgt := 30) dX3_readUnit_21 (by decide) (fun q => absurd q (n33)) (fun c21 => ?_)
          refine V.iload_n dX3_readUnit_24 rfl (i := 2) rfl ?_
          refine V.bipush dX3_readUnit_25 (v := 40) (by decide) ?_
          refine V.ic_ne (tgt := 71) dX3_readUnit_27 (by decide) (fun q => absurd (c40') q) (fun c27 => ?_)
          refine V.iload_n dX3_readUnit_30 rfl (i := 1) rfl ?_
          refine V.iconst dX3_readUnit_31 (v := 5) (by decide) ?_
          refine V.ic_lt (tgt := 37) dX3_readUnit_32 (by decide) (fun q => absurd q ((nI_nlt (b := 5) (by omega) (by omega)))) (fun c32 => ?_)
          refine V.iconst dX3_readUnit_35 (v := 0) (by decide) ?_
          exact V.zret dX3_readUnit_36 rfl (by first | exact Or.inl rfl | exact Or.inr rfl | assumption | exact b2i_zo _ | (repeat' split) <;> first | exact Or.inl rfl | exact Or.inr rfl | assumption | exact b2i_zo _) (hQ M hR)
      · have n40 := c40
        rw [hc0] at n40
        by_cases hn : 0 ≤ nmI us ((nx (M0 27) sz) k)
        · have hks := nm_in hn
          rw [rd_nm hd c33 c40 hn] at he
          subst he
          rw [hc0] at hn hQ
          obtain ⟨c1, h256, rfl⟩ : ∃ c, c < 256 ∧ c0 = nI c := hby.resolve_left (fun z => by rw [← hc0] at z; exact absurd hks (fun q => by unfold nx at z; rw [if_pos q] at z; obtain ⟨cc, hcc, e⟩ := hT.2.2.2.2 k q; rw [e] at z; have := congrArg Int32.toInt z; rw [nI_toInt (by omega)] at this; simp at this <;> omega))
          have hadd : out.length < 50 := by omega
          refine V.aload_n dX3_readUnit_0 rfl (i := 0) rfl ?_
          refine V.invv (z := mX3_next) (As := []) dX3_readUnit_1 rfl mlRX3_62 okX3_next npX3_next rfl rfl rfl ⟨by decide, by decide⟩ (Nat.le_of_ble_eq_true rfl) rfl (Nat.le_of_ble_eq_true rfl) (c_next hT hR hk ?_)
          show V cS g (dd + 6) mX3_readUnit 4 [some (.ref 3), some (.int (nI op)), none, none] [.int ((nx (M0 27) sz) k)] M Q
          refine V.top (x' := (nI c1)) (hc0) ?_
          refine V.istore_n dX3_readUnit_4 rfl (i := 2) (by decide) (fun _ h => by cases h; exact Or.inl rfl) rfl ?_
          refine V.iload_n dX3_readUnit_5 rfl (i := 2) rfl ?_
          refine V.invs (z := mX3_isDigit) (As := [_]) dX3_readUnit_6 rfl mlRX3_74 okX3_isDigit npX3_isDigit rfl (Nat.le_of_ble_eq_true rfl) rfl (Nat.le_of_ble_eq_true rfl) (c_isDigit   ?_)
          show V cS g (dd + 6) mX3_readUnit 9 [some (.ref 3), some (.int (nI op)), some (.int (nI c1)), none] [.int (b2i (dig (nI c1) = true))] (M) Q
          refine V.if_eq (tgt := 18) dX3_readUnit_9 (by decide) (fun c9 => ?_) (fun q => absurd ((b2i_f hd0)) q)
          refine V.iload_n dX3_readUnit_18 rfl (i := 2) rfl ?_
          refine V.bipush dX3_readUnit_19 (v := 33) (by decide) ?_
          refine V.ic_eq (tgt := 30) dX3_readUnit_21 (by decide) (fun q => absurd q (n33)) (fun c21 => ?_)
          refine V.iload_n dX3_readUnit_24 rfl (i := 2) rfl ?_
          refine V.bipush dX3_readUnit_25 (v := 40) (by decide) ?_
          refine V.ic_ne (tgt := 71) dX3_readUnit_27 (by decide) (fun c27 => ?_) (fun q => absurd q (n40))
          refine V.iload_n dX3_readUnit_71 rfl (i := 2) rfl ?_
          refine V.iconst dX3_readUnit_72 (v := (-1)) (by decide) ?_
          refine V.ic_ne (tgt := 80) dX3_readUnit_73 (by decide) (fun c73 => ?_) (fun q => absurd q ((fun z => by have := congrArg Int32.toInt z; rw [nI_toInt (by omega)] at this; simp at this <;> omega)))
          refine V.aload_n dX3_readUnit_80 rfl (i := 0) rfl ?_
          refine V.getS dX3_readUnit_81 rfl flRX3_24 rfl ⟨by decide, by decide⟩ ?_
          refine V.topR (a' := (210 + us)) ((by rw [hR.2.2.1, hT.2.2.1, nI_clamp (by have := hT.2.2.2.1; omega)])) ?_
          refine V.iload_n dX3_readUnit_84 rfl (i := 2) rfl ?_
          refine V.i2c dX3_readUnit_85 ?_
          refine V.top (x' := (nI c1)) ((i2cN h256)) ?_
          refine V.invK (z := mJ0_indexOf_0f7a4) (As := [_]) dX3_readUnit_86 rfl mlRX3_86 okJ0_indexOf_0f7a4 npJ0_indexOf_0f7a4 rfl (by have := hT.2.2.2.1; omega) rfl (Nat.le_of_ble_eq_true rfl) rfl (Nat.le_of_ble_eq_true rfl) (c_ixN hT.2.2.2.1 h256 ?_)
          show V cS g (dd + 6) mX3_readUnit 89 [some (.ref 3), some (.int (nI op)), some (.int (nI c1)), none] [.int (nmI us (nI c1))] M Q
          refine V.istore_n dX3_readUnit_89 rfl (i := 3) (by decide) (fun _ h => by cases h; exact Or.inl rfl) rfl ?_
          refine V.iload_n dX3_readUnit_90 rfl (i := 3) rfl ?_
          refine V.if_ge (tgt := 96) dX3_readUnit_91 (by decide) (fun c91 => ?_) (fun q => absurd (hn) q)
          refine V.aload_n dX3_readUnit_96 rfl (i := 0) rfl ?_
          refine V.getR dX3_readUnit_97 rfl flRX3_12 rfl ⟨by decide, by decide⟩ ?_
          refine V.iload_n dX3_readUnit_100 rfl (i := 3) rfl ?_
          refine V.invv (z := mX2_addName) (As := [_]) dX3_readUnit_101 rfl mlRX3_91 okX2_addName npX2_addName rfl rfl rfl ⟨by decide, by decide⟩ (Nat.le_of_ble_eq_true rfl) rfl (Nat.le_of_ble_eq_true rfl) (c_addName hR.2.2.2.2.1 hadd ?_)
          show V cS g (dd + 6) mX3_readUnit 104 [some (.ref 3), some (.int (nI op)), some (.int (nI c1)), some (.int (nmI us (nI c1)))] [] (put (put M 80 out.length (-1 - nmI us (nI c1))) 26 1 (nI (out.length + 1))) Q
          refine V.aload_n dX3_readUnit_104 rfl (i := 0) rfl ?_
          refine V.dup dX3_readUnit_105 rfl ?_
          refine V.getI dX3_readUnit_106 rfl flRX3_48 rfl ⟨by decide, by decide⟩ ?_
          refine V.top (x' := (nI k)) ((hR.add (x := -1 - nmI us (nI c1))).2.2.2.1) ?_
          refine V.iconst dX3_readUnit_109 (v := 1) (by decide) ?_
          refine V.iadd dX3_readUnit_110 ?_
          refine V.top (x' := (nI (k + 1))) (nI_add k 1) ?_
          refine V.putI dX3_readUnit_111 rfl fpRX3_48 rfl ⟨by decide, by decide⟩ ?_
          refine V.iconst dX3_readUnit_114 (v := 1) (by decide) ?_
          exact V.zret dX3_readUnit_115 rfl (by first | exact Or.inl rfl | exact Or.inr rfl | assumption | exact b2i_zo _ | (repeat' split) <;> first | exact Or.inl rfl | exact Or.inr rfl | assumption | exact b2i_zo _) (hQ _ hR.add.go)
        · rw [rd_no hd c33 c40 hn] at he
          subst he
          rw [hc0] at hn
          rcases hby with hm1 | ⟨c1, h256, rfl⟩
          · subst hm1
            refine V.aload_n dX3_readUnit_0 rfl (i := 0) rfl ?_
            refine V.invv (z := mX3_next) (As := []) dX3_readUnit_1 rfl mlRX3_62 okX3_next npX3_next rfl rfl rfl ⟨by decide, by decide⟩ (Nat.le_of_ble_eq_true rfl) rfl (Nat.le_of_ble_eq_true rfl) (c_next hT hR hk ?_)
            show V cS g (dd + 6) mX3_readUnit 4 [some (.ref 3), some (.int (nI op)), none, none] [.int ((nx (M0 27) sz) k)] M Q
            refine V.top (x' := (-1 : Int32)) (hc0) ?_
            refine V.istore_n dX3_readUnit_4 rfl (i := 2) (by decide) (fun _ h => by cases h; exact Or.inl rfl) rfl ?_
            refine V.iload_n dX3_readUnit_5 rfl (i := 2) rfl ?_
            refine V.invs (z := mX3_isDigit) (As := [_]) dX3_readUnit_6 rfl mlRX3_74 okX3_isDigit npX3_isDigit rfl (Nat.le_of_ble_eq_true rfl) rfl (Nat.le_of_ble_eq_true rfl) (c_isDigit   ?_)
            show V cS g (dd + 6) mX3_readUnit 9 [some (.ref 3), some (.int (nI op)), some (.int (-1 : Int32)), none] [.int (b2i (dig (-1 : Int32) = true))] (M) Q
            refine V.if_eq (tgt := 18) dX3_readUnit_9 (by decide) (fun c9 => ?_) (fun q => absurd ((b2i_f hd0)) q)
            refine V.iload_n dX3_readUnit_18 rfl (i := 2) rfl ?_
            refine V.bipush dX3_readUnit_19 (v := 33) (by decide) ?_
            refine V.ic_eq (tgt := 30) dX3_readUnit_21 (by decide) (fun q => absurd q (n33)) (fun c21 => ?_)
            refine V.iload_n dX3_readUnit_24 rfl (i := 2) rfl ?_
            refine V.bipush dX3_readUnit_25 (v := 40) (by decide) ?_
            refine V.ic_ne (tgt := 71) dX3_readUnit_27 (by decide) (fun c27 => ?_) (fun q => absurd q (n40))
            refine V.iload_n dX3_readUnit_71 rfl (i := 2) rfl ?_
            refine V.iconst dX3_readUnit_72 (v := (-1)) (by decide) ?_
            refine V.ic_ne (tgt := 80) dX3_readUnit_73 (by decide) (fun q => absurd (rfl) q) (fun c73 => ?_)
            refine V.iconst dX3_readUnit_76 (v := (-1)) (by decide) ?_
            refine V.goto dX3_readUnit_77 (tgt := 89) (by decide) ?_
            refine V.istore_n dX3_readUnit_89 rfl (i := 3) (by decide) (fun _ h => by cases h; exact Or.inl rfl) rfl ?_
            refine V.iload_n dX3_readUnit_90 rfl (i := 3) rfl ?_
            refine V.if_ge (tgt := 96) dX3_readUnit_91 (by decide) (fun q => absurd q ((by decide))) (fun c91 => ?_)
            refine V.iconst dX3_readUnit_94 (v := 0) (by decide) ?_
            exact V.zret dX3_readUnit_95 rfl (by first | exact Or.inl rfl | exact Or.inr rfl | assumption | exact b2i_zo _ | (repeat' split) <;> first | exact Or.inl rfl | exact Or.inr rfl | assumption | exact b2i_zo _) (hQ M hR)
          · have hne : ¬ nI c1 = -1 := fun z => by have := congrArg Int32.toInt z; rw [nI_toInt (by omega)] at this; simp at this <;> omega
            refine V.aload_n dX3_readUnit_0 rfl (i := 0) rfl ?_
            refine V.invv (z := mX3_next) (As := []) dX3_readUnit_1 rfl mlRX3_62 okX3_next npX3_next rfl rfl rfl ⟨by decide, by decide⟩ (Nat.le_of_ble_eq_true rfl) rfl (Nat.le_of_ble_eq_true rfl) (c_next hT hR hk ?_)
            show V cS g (dd + 6) mX3_readUnit 4 [some (.ref 3), some (.int (nI op)), none, none] [.int ((nx (M0 27) sz) k)] M Q
            refine V.top (x' := (nI c1)) (hc0) ?_
            refine V.istore_n dX3_readUnit_4 rfl (i := 2) (by decide) (fun _ h => by cases h; exact Or.inl rfl) rfl ?_
            refine V.iload_n dX3_readUnit_5 rfl (i := 2) rfl ?_
            refine V.invs (z := mX3_isDigit) (As := [_]) dX3_readUnit_6 rfl mlRX3_74 okX3_isDigit npX3_isDigit rfl (Nat.le_of_ble_eq_true rfl) rfl (Nat.le_of_ble_eq_true rfl) (c_isDigit   ?_)
            show V cS g (dd + 6) mX3_readUnit 9 [some (.ref 3), some (.int (nI op)), some (.int (nI c1)), none] [.int (b2i (dig (nI c1) = true))] (M) Q
            refine V.if_eq (tgt := 18) dX3_readUnit_9 (by decide) (fun c9 => ?_) (fun q => absurd ((b2i_f hd0)) q)
            refine V.iload_n dX3_readUnit_18 rfl (i := 2) rfl ?_
            refine V.bipush dX3_readUnit_19 (v := 33) (by decide) ?_
            refine V.ic_eq (tgt := 30) dX3_readUnit_21 (by decide) (fun q => absurd q (n33)) (fun c21 => ?_)
            refine V.iload_n dX3_readUnit_24 rfl (i := 2) rfl ?_
            refine V.bipush dX3_readUnit_25 (v := 40) (by decide) ?_
            refine V.ic_ne (tgt := 71) dX3_readUnit_27 (by decide) (fun c27 => ?_) (fun q => absurd q (n40))
            refine V.iload_n dX3_readUnit_71 rfl (i := 2) rfl ?_
            refine V.iconst dX3_readUnit_72 (v := (-1)) (by decide) ?_
            refine V.ic_ne (tgt := 80) dX3_readUnit_73 (by decide) (fun c73 => ?_) (fun q => absurd q (hne))
            refine V.aload_n dX3_readUnit_80 rfl (i := 0) rfl ?_
            refine V.getS dX3_readUnit_81 rfl flRX3_24 rfl ⟨by decide, by decide⟩ ?_
            refine V.topR (a' := (210 + us)) ((by rw [hR.2.2.1, hT.2.2.1, nI_clamp (by have := hT.2.2.2.1; omega)])) ?_
            refine V.iload_n dX3_readUnit_84 rfl (i := 2) rfl ?_
            refine V.i2c dX3_readUnit_85 ?_
            refine V.top (x' := (nI c1)) ((i2cN h256)) ?_
            refine V.invK (z := mJ0_indexOf_0f7a4) (As := [_]) dX3_readUnit_86 rfl mlRX3_86 okJ0_indexOf_0f7a4 npJ0_indexOf_0f7a4 rfl (by have := hT.2.2.2.1; omega) rfl (Nat.le_of_ble_eq_true rfl) rfl (Nat.le_of_ble_eq_true rfl) (c_ixN hT.2.2.2.1 h256 ?_)
            show V cS g (dd + 6) mX3_readUnit 89 [some (.ref 3), some (.int (nI op)), some (.int (nI c1)), none] [.int (nmI us (nI c1))] M Q
            refine V.istore_n dX3_readUnit_89 rfl (i := 3) (by decide) (fun _ h => by cases h; exact Or.inl rfl) rfl ?_
            refine V.iload_n dX3_readUnit_90 rfl (i := 3) rfl ?_
            refine V.if_ge (tgt := 96) dX3_readUnit_91 (by decide) (fun q => absurd q (hn)) (fun c91 => ?_)
            refine V.iconst dX3_readUnit_94 (v := 0) (by decide) ?_
            exact V.zret dX3_readUnit_95 rfl (by first | exact Or.inl rfl | exact Or.inr rfl | assumption | exact b2i_zo _ | (repeat' split) <;> first | exact Or.inl rfl | exact Or.inr rfl | assumption | exact b2i_zo _) (hQ M hR)
theorem rdAll {g : GG} {M0 : Mem} {us sz : Nat} (hT : RdT M0 us sz) : ∀ f, PU g M0 us sz f ∧ PL g M0 us sz f ∧ PP g M0 us sz f
  | 0 => ⟨fun D op k out M Q r hD ho hk hok hf => by omega, fun D l op k out M Q r hD hl ho hk hok hf => by omega, fun D l op k t out M Q r l5 hD hl ho hk hok htk ht2 hf => by omega⟩
  | f + 1 => by
    obtain ⟨h1, h2, h3⟩ := rdAll hT f
    have hU := s_PU hT h1 h2
    exact ⟨hU, s_PL hT hU h2 h3, s_PP hT h2 h3⟩


