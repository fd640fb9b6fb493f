/-! ===== texts: read, readTape, text, beginText ===== -/
/-- a whole text: whether it can be read, how far, its steps -/
def rdT (nt : Nat → Int32) (us : Nat) : Bool × Nat × List Int32 := rd nt us 500 0 0 0 []
theorem heldN {t : Nat} (h : t ≤ 50) : heldF (nI t) 0 (nI 50) = nI t := by
  have : ∀ t, t < 51 → heldF (nI t) 0 (nI 50) = nI t := by decide +kernel
  exact this t (by omega)
theorem nx_cpy {f h : Nat → Int32} {t : Nat} : nx (va_cpy f h 0 0 t) t = nx f t := by
  funext k
  unfold nx
  by_cases q : k < t
  · rw [if_pos q, if_pos q, pk_cpy_in (by omega) (by omega), Nat.sub_zero, Nat.zero_add]
  · rw [if_neg q, if_neg q]
theorem rdT_len {bf : Nat → Int32} {us t : Nat} {r : Bool × Nat × List Int32} (e : rdT (nx bf t) us = r) : r.2.1 ≤ t ∧ r.2.2.length ≤ r.2.1 := by
  obtain ⟨h1, h2, h3, -⟩ := rd_inv 500 0 0 0 [] r (by omega) (by omega) e
  exact ⟨h2, by simp only [List.length_nil] at h3; omega⟩
def isB (x : Int32) : Prop := ∃ c, c < 256 ∧ x = nI c

set_option maxHeartbeats 4000000 in
set_option maxRecDepth 100000 in
theorem c_read {g : GG} {d : Nat} {M : Mem} {Q : Option Value → Mem → Prop} {us t : Nat} (hu : us < 2) (h50 : t ≤ 50) (hby : ∀ i, i < t → isB (M 13 i)) (hQ : ∀ M' k1 o1 b, rdT (nx (M 13) t) us = (b, k1, o1) → eqx [3, 26, 27, 80] M M' → M' 26 1 = nI o1.length → (∀ i, i < o1.length → M' 80 i = o1.getD i 0) → Q (some (.int (if b = true ∧ k1 = t then -1 else nI k1))) M') : V cS g (d + 60) mX3_read 0 [some (.ref 3), some (.ref 13), some (.int (nI t)), some (.ref (210 + us))] [] M Q := by
  have hT : RdT (put (put (put (um (put M 3 2 (nI t)) 27 (va_cpy (M 13) (M 27) 0 0 t)) 3 3 0) 3 4 (nI us)) 26 1 0) us t := by
    refine ⟨?_, h50, ?_, hu, fun i hi => ?_⟩
    · rw [put_cell (by decide), put_n (fun q => absurd q.2 (by decide)), put_n (fun q => absurd q.2 (by decide)), um_n (by decide), put_s]
    · rw [put_cell (by decide), put_s]
    · rw [put_cell (by decide), put_cell (by decide), put_cell (by decide), um_s, pk_cpy_in (by omega) (by omega), Nat.sub_zero, Nat.zero_add]
      exact hby i hi
  have h27 : nx ((put (put (put (um (put M 3 2 (nI t)) 27 (va_cpy (M 13) (M 27) 0 0 t)) 3 3 0) 3 4 (nI us)) 26 1 0) 27) t = nx (M 13) t := by
    rw [put_cell (by decide), put_cell (by decide), put_cell (by decide), um_s]
    exact nx_cpy
  have hR : RdP (put (put (put (um (put M 3 2 (nI t)) 27 (va_cpy (M 13) (M 27) 0 0 t)) 3 3 0) 3 4 (nI us)) 26 1 0) (put (put (put (um (put M 3 2 (nI t)) 27 (va_cpy (M 13) (M 27) 0 0 t)) 3 3 0) 3 4 (nI us)) 26 1 0) 0 [] := by
    refine ⟨eqx.rf, rfl, rfl, ?_, put_s, fun i hi => absurd hi (Nat.not_lt_zero _)⟩
    rw [put_cell (by decide), put_n (fun q => absurd q.2 (by decide)), put_s]
    rfl
  have he : eqx [3, 26, 27, 80] M (put (put (put (um (put M 3 2 (nI t)) 27 (va_cpy (M 13) (M 27) 0 0 t)) 3 3 0) 3 4 (nI us)) 26 1 0) := ((((eqx.rf (M := M)).put (by decide)).um (by decide)).put (by decide)).put (by decide) |>.put (by decide)
  rcases e : rdT (nx (M 13) t) us with ⟨b, k1, o1⟩
  have hl := rdT_len e
  simp only at hl
  refine V.aload_n dX3_read_0 rfl (i := 0) rfl ?_
  refine V.iload_n dX3_read_1 rfl (i := 2) rfl ?_
  refine V.iconst dX3_read_2 (v := 0) (by decide) ?_
  refine V.bipush dX3_read_3 (v := 50) (by decide) ?_
  refine V.aload_n dX3_read_5 rfl (i := 1) rfl ?_
  refine V.alen dX3_read_6 rfl (by decide) ⟨by decide, by decide⟩ ?_
  refine V.mmin dX3_read_7 rfl mlRX3_28 (Nat.le_of_ble_eq_true rfl) ?_
  refine V.top (x' := (nI 50)) ((by decide)) ?_
  refine V.invsN (z := mX9_heldWithin) (As := [_, _, _]) (host := "OneBreath") dX3_read_10 rfl (by decide +kernel) okX9_heldWithin npX9_heldWithin rfl (Nat.le_of_ble_eq_true rfl) rfl (Nat.le_of_ble_eq_true rfl) (c_heldWithin   ?_)
  show V cS g (d + 60) mX3_read 13 [some (.ref 3), some (.ref 13), some (.int (nI t)), some (.ref (210 + us))] [.int (heldF (nI t) (0 : Int32) (nI 50)), .ref 3] (M) Q
  refine V.top (x' := (nI t)) ((heldN h50)) ?_
  refine V.putI dX3_read_13 rfl fpRX3_38 rfl ⟨by decide, by decide⟩ ?_
  refine V.aload_n dX3_read_16 rfl (i := 1) rfl ?_
  refine V.iconst dX3_read_17 (v := 0) (by decide) ?_
  refine V.aload_n dX3_read_18 rfl (i := 0) rfl ?_
  refine V.getR dX3_read_19 rfl flRX3_18 rfl ⟨by decide, by decide⟩ ?_
  refine V.iconst dX3_read_22 (v := 0) (by decide) ?_
  refine V.aload_n dX3_read_23 rfl (i := 0) rfl ?_
  refine V.getI dX3_read_24 rfl flRX3_38 rfl ⟨by decide, by decide⟩ ?_
  refine V.top (x' := (nI t)) ((put_s)) ?_
  refine V.copyN (sp' := 0) (dp' := 0) (n' := t) dX3_read_27 rfl mlRX3_42 ac_n ac_s ac_i rfl ⟨by decide, by decide⟩ rfl ⟨by decide, by decide⟩ (by first | rfl | decide) (by first | rfl | decide) (by first | rfl | decide) (by omega) (by omega) (by decide) (by decide) (Nat.le_of_ble_eq_true rfl) ?_
  refine V.aload_n dX3_read_30 rfl (i := 0) rfl ?_
  refine V.iconst dX3_read_31 (v := 0) (by decide) ?_
  refine V.putI dX3_read_32 rfl fpRX3_48 rfl ⟨by decide, by decide⟩ ?_
  refine V.aload_n dX3_read_35 rfl (i := 0) rfl ?_
  refine V.aload_n dX3_read_36 rfl (i := 3) rfl ?_
  refine V.putS dX3_read_37 rfl fpRX3_24 rfl ⟨by decide, by decide⟩ (by omega) ?_
  refine V.aload_n dX3_read_40 rfl (i := 0) rfl ?_
  refine V.getR dX3_read_41 rfl flRX3_12 rfl ⟨by decide, by decide⟩ ?_
  refine V.invv (z := mX2_clear) (As := []) dX3_read_44 rfl mlRX3_51 okX2_clear npX2_clear rfl rfl rfl ⟨by decide, by decide⟩ (Nat.le_of_ble_eq_true rfl) rfl (Nat.le_of_ble_eq_true rfl) (c_clear ?_)
  show V cS g (d + 60) mX3_read 47 [some (.ref 3), some (.ref 13), some (.int (nI t)), some (.ref (210 + us))] [] (put (put (put (um (put M 3 2 (nI t)) 27 (va_cpy (M 13) (M 27) 0 0 t)) 3 3 0) 3 4 (nI us)) 26 1 0) Q
  refine V.aload_n dX3_read_47 rfl (i := 0) rfl ?_
  refine V.iconst dX3_read_48 (v := 0) (by decide) ?_
  refine V.iconst dX3_read_49 (v := 0) (by decide) ?_
  refine V.top (x' := (nI 0)) ((by decide)) ?_
  refine V.top1 (x' := (nI 0)) ((by decide)) ?_
  refine V.invv (z := mX3_readLevel) (As := [_, _]) dX3_read_50 rfl mlRX3_54 okX3_readLevel npX3_readLevel rfl rfl rfl ⟨by decide, by decide⟩ (Nat.le_of_ble_eq_true rfl) rfl (Nat.le_of_ble_eq_true rfl) ((rdAll hT 500).2.1 (d + 59) 0 0 0 [] _ _ (b, k1, o1) (by omega) (by omega) (by omega) (by omega) (Nat.le_refl _) (by omega) hR (by rw [h27]; exact e) (fun M2 h2 => ?_))
  show V cS g (d + 60) mX3_read 53 [some (.ref 3), some (.ref 13), some (.int (nI t)), some (.ref (210 + us))] [.int (b2i (b = true))] M2 Q
  refine V.if_eq (tgt := 71) dX3_read_53 (by decide) (fun c53 => ?_) (fun c53 => ?_)
  · refine V.aload_n dX3_read_71 rfl (i := 0) rfl ?_
    refine V.getI dX3_read_72 rfl flRX3_48 rfl ⟨by decide, by decide⟩ ?_
    exact V.ret dX3_read_75 rfl (Qi (hQ M2 k1 o1 b e (he.tr (h2.1.up (by decide))) h2.2.2.2.2.1 h2.2.2.2.2.2) (by first | (rw [if_neg (fun z => b2i_0.mp c53 z.1)]; exact h2.2.2.2.1) | (rw [if_neg (fun z => c64 (by rw [z.2]))]; exact h2.2.2.2.1) | (rw [if_pos ⟨Classical.byContradiction fun z => c53 (b2i_f z), (nI_eq (by omega) (by omega)).mp c64⟩])))
  · refine V.aload_n dX3_read_56 rfl (i := 0) rfl ?_
    refine V.getI dX3_read_57 rfl flRX3_48 rfl ⟨by decide, by decide⟩ ?_
    refine V.top (x' := (nI k1)) (h2.2.2.2.1) ?_
    refine V.aload_n dX3_read_60 rfl (i := 0) rfl ?_
    refine V.getI dX3_read_61 rfl flRX3_38 rfl ⟨by decide, by decide⟩ ?_
    refine V.top (x' := (nI t)) ((by rw [h2.2.1]; exact hT.1)) ?_
    refine V.ic_ne (tgt := 71) dX3_read_64 (by decide) (fun c64 => ?_) (fun c64 => ?_)
    · refine V.aload_n dX3_read_71 rfl (i := 0) rfl ?_
      refine V.getI dX3_read_72 rfl flRX3_48 rfl ⟨by decide, by decide⟩ ?_
      exact V.ret dX3_read_75 rfl (Qi (hQ M2 k1 o1 b e (he.tr (h2.1.up (by decide))) h2.2.2.2.2.1 h2.2.2.2.2.2) (by first | (rw [if_neg (fun z => b2i_0.mp c53 z.1)]; exact h2.2.2.2.1) | (rw [if_neg (fun z => c64 (by rw [z.2]))]; exact h2.2.2.2.1) | (rw [if_pos ⟨Classical.byContradiction fun z => c53 (b2i_f z), (nI_eq (by omega) (by omega)).mp c64⟩])))
    · refine V.iconst dX3_read_67 (v := (-1)) (by decide) ?_
      refine V.goto dX3_read_68 (tgt := 75) (by decide) ?_
      exact V.ret dX3_read_75 rfl (Qi (hQ M2 k1 o1 b e (he.tr (h2.1.up (by decide))) h2.2.2.2.2.1 h2.2.2.2.2.2) (by first | (rw [if_neg (fun z => b2i_0.mp c53 z.1)]; exact h2.2.2.2.1) | (rw [if_neg (fun z => c64 (by rw [z.2]))]; exact h2.2.2.2.1) | (rw [if_pos ⟨Classical.byContradiction fun z => c53 (b2i_f z), (nI_eq (by omega) (by omega)).mp c64⟩])))
set_option maxHeartbeats 4000000 in
set_option maxRecDepth 100000 in
theorem c_readTape {g : GG} {d : Nat} {M : Mem} {Q : Option Value → Mem → Prop} {us t : Nat} (hu : us < 2) (ht : M 1 9 = nI t) (h50 : t ≤ 50) (hby : ∀ i, i < t → isB (M 13 i)) (hbad : ∀ M' k1 o1 b, rdT (nx (M 13) t) us = (b, k1, o1) → ¬ (b = true ∧ k1 = t) → eqx [3, 26, 27, 80] (put M 1 9 0) M' → Q (some (.int (nI k1))) M') (hok0 : us = 0 → ∀ M' k1 o1, rdT (nx (M 13) t) 0 = (true, k1, o1) → k1 = t → eqx [3, 26, 27, 80, 14, 68] (put M 1 9 0) M' → M' 14 1 = nI o1.length → (∀ i, i < o1.length → M' 68 i = o1.getD i 0) → Q (some (.int (-1))) M') (hok1 : us = 1 → ∀ M' k1 o1, rdT (nx (M 13) t) 1 = (true, k1, o1) → k1 = t → eqx [3, 26, 27, 80, 15, 71] (put M 1 9 0) M' → M' 15 1 = nI o1.length → (∀ i, i < o1.length → M' 71 i = o1.getD i 0) → Q (some (.int (-1))) M') : V cS g (d + 61) mX9_readTape 0 [some (.ref 0), some (.int (nI us)), none, none, none] [] M Q := by
  have e9 : ∀ {S : List Nat} {M1 : Mem}, eqx S M M1 → 1 ∉ S → eqx S (put M 1 9 0) (put M1 1 9 0) := by
    intro S M1 h h1 c hc
    funext j
    unfold put
    split
    · rfl
    · rw [h c hc]
  have hus : us = 0 ∨ us = 1 := by omega
  rcases hus with rfl | rfl
  · skip
    refine V.iload_n dX9_readTape_0 rfl (i := 1) rfl ?_
    refine V.if_ne (tgt := 10) dX9_readTape_1 (by decide) (fun q => absurd (rfl) q) (fun c1 => ?_)
    refine V.ldcSw (j := 0) (tx := "ldhwk") dX9_readTape_4 rfl (by decide) ?_
    refine V.goto dX9_readTape_7 (tgt := 13) (by decide) ?_
    refine V.topR (a' := (210 + 0)) (rfl) ?_
    refine V.astore_n dX9_readTape_13 rfl (i := 2) (by decide) (fun _ h => by cases h; exact Or.inl rfl) rfl ?_
    refine V.aload_n dX9_readTape_14 rfl (i := 0) rfl ?_
    refine V.getR dX9_readTape_15 rfl flRX9_22 rfl ⟨by decide, by decide⟩ ?_
    refine V.aload_n dX9_readTape_18 rfl (i := 0) rfl ?_
    refine V.getR dX9_readTape_19 rfl flRX9_12 rfl ⟨by decide, by decide⟩ ?_
    refine V.getR dX9_readTape_22 rfl flRX9_369 rfl ⟨by decide, by decide⟩ ?_
    refine V.aload_n dX9_readTape_25 rfl (i := 0) rfl ?_
    refine V.getR dX9_readTape_26 rfl flRX9_12 rfl ⟨by decide, by decide⟩ ?_
    refine V.getI dX9_readTape_29 rfl flRX9_201 rfl ⟨by decide, by decide⟩ ?_
    refine V.top (x' := (nI t)) (ht) ?_
    refine V.aload_n dX9_readTape_32 rfl (i := 2) rfl ?_
    refine V.invv (z := mX3_read) (As := [_, _, _]) dX9_readTape_33 rfl mlRX9_372 okX3_read npX3_read rfl rfl rfl ⟨by decide, by decide⟩ (Nat.le_of_ble_eq_true rfl) rfl (Nat.le_of_ble_eq_true rfl) (c_read (us := 0) hu h50 hby (fun M1 k1 o1 b e he h26 h80 => ?_))
    show V cS g (d + 61) mX9_readTape 36 [some (.ref 0), some (.int (nI 0)), some (.ref (210 + 0)), none, none] [.int (if b = true ∧ k1 = t then -1 else nI k1)] M1 Q
    refine V.istore_n dX9_readTape_36 rfl (i := 3) (by decide) (fun _ h => by cases h; exact Or.inl rfl) rfl ?_
    refine V.aload_n dX9_readTape_37 rfl (i := 0) rfl ?_
    refine V.getR dX9_readTape_38 rfl flRX9_12 rfl ⟨by decide, by decide⟩ ?_
    refine V.iconst dX9_readTape_41 (v := 0) (by decide) ?_
    refine V.putI dX9_readTape_42 rfl fpRX9_201 rfl ⟨by decide, by decide⟩ ?_
    skip
    have hl := rdT_len e
    simp only at hl
    by_cases hb : b = true ∧ k1 = t
    · obtain ⟨rfl, rfl⟩ := hb
      refine V.iload_n dX9_readTape_45 rfl (i := 3) rfl ?_
      refine V.top (x' := (-1 : Int32)) ((if_pos ⟨rfl, rfl⟩)) ?_
      refine V.if_ge (tgt := 84) dX9_readTape_46 (by decide) (fun q => absurd q ((by decide))) (fun c46 => ?_)
      refine V.iload_n dX9_readTape_49 rfl (i := 1) rfl ?_
      refine V.if_ne (tgt := 63) dX9_readTape_50 (by decide) (fun q => absurd (rfl) q) (fun c50 => ?_)
      refine V.aload_n dX9_readTape_53 rfl (i := 0) rfl ?_
      refine V.getR dX9_readTape_54 rfl flRX9_12 rfl ⟨by decide, by decide⟩ ?_
      refine V.getR dX9_readTape_57 rfl flRX9_213 rfl ⟨by decide, by decide⟩ ?_
      refine V.goto dX9_readTape_60 (tgt := 70) (by decide) ?_
      refine V.astore dX9_readTape_70 (i := 4) (by decide) (fun _ h => by cases h; exact Or.inl rfl) rfl ?_
      refine V.aload dX9_readTape_72 rfl ?_
      refine V.aload_n dX9_readTape_74 rfl (i := 0) rfl ?_
      refine V.getR dX9_readTape_75 rfl flRX9_22 rfl ⟨by decide, by decide⟩ ?_
      refine V.getR dX9_readTape_78 rfl flRX9_379 rfl ⟨by decide, by decide⟩ ?_
      refine V.invv (z := mX2_become) (As := [_]) dX9_readTape_81 rfl mlRX9_382 okX2_become npX2_become rfl rfl rfl ⟨by decide, by decide⟩ (Nat.le_of_ble_eq_true rfl) rfl (Nat.le_of_ble_eq_true rfl) (c_lb_14_26 ?_)
      show V cS g (d + 61) mX9_readTape 84 [some (.ref 0), some (.int (nI 0)), some (.ref (210 + 0)), some (.int (if true = true ∧ k1 = k1 then -1 else nI k1)), some (.ref 14)] [] (put (um (put M1 1 9 0) 68 (va_cpy (put M1 1 9 0 80) (put M1 1 9 0 68) 0 0 50)) 14 1 (put M1 1 9 0 26 1)) Q
      refine V.iload_n dX9_readTape_84 rfl (i := 3) rfl ?_
      exact V.ret dX9_readTape_85 rfl (Qi (hok0 rfl _ k1 o1 e rfl (((e9 (he.up (by decide)) (by decide)).um (by decide)).put (by decide)) (by rw [put_s, put_cell (by decide)]; exact h26) (fun i hi => by rw [put_cell (by decide), um_s, pk_cpy_in (by omega) (by omega), put_cell (by decide), Nat.sub_zero, Nat.zero_add]; exact h80 i hi)) (if_pos ⟨rfl, rfl⟩))
    · skip
      refine V.iload_n dX9_readTape_45 rfl (i := 3) rfl ?_
      refine V.top (x' := (nI k1)) ((if_neg hb)) ?_
      refine V.if_ge (tgt := 84) dX9_readTape_46 (by decide) (fun c46 => ?_) (fun q => absurd ((nI_pos' (by omega))) q)
      refine V.iload_n dX9_readTape_84 rfl (i := 3) rfl ?_
      exact V.ret dX9_readTape_85 rfl (Qi (hbad _ k1 o1 b e hb (e9 he (by decide))) (if_neg hb))
  · skip
    refine V.iload_n dX9_readTape_0 rfl (i := 1) rfl ?_
    refine V.if_ne (tgt := 10) dX9_readTape_1 (by decide) (fun c1 => ?_) (fun q => absurd q ((by decide)))
    refine V.ldcSw (j := 1) (tx := "srm") dX9_readTape_10 rfl (by decide) ?_
    refine V.topR (a' := (210 + 1)) (rfl) ?_
    refine V.astore_n dX9_readTape_13 rfl (i := 2) (by decide) (fun _ h => by cases h; exact Or.inl rfl) rfl ?_
    refine V.aload_n dX9_readTape_14 rfl (i := 0) rfl ?_
    refine V.getR dX9_readTape_15 rfl flRX9_22 rfl ⟨by decide, by decide⟩ ?_
    refine V.aload_n dX9_readTape_18 rfl (i := 0) rfl ?_
    refine V.getR dX9_readTape_19 rfl flRX9_12 rfl ⟨by decide, by decide⟩ ?_
    refine V.getR dX9_readTape_22 rfl flRX9_369 rfl ⟨by decide, by decide⟩ ?_
    refine V.aload_n dX9_readTape_25 rfl (i := 0) rfl ?_
    refine V.getR dX9_readTape_26 rfl flRX9_12 rfl ⟨by decide, by decide⟩ ?_
    refine V.getI dX9_readTape_29 rfl flRX9_201 rfl ⟨by decide, by decide⟩ ?_
    refine V.top (x' := (nI t)) (ht) ?_
    refine V.aload_n dX9_readTape_32 rfl (i := 2) rfl ?_
    refine V.invv (z := mX3_read) (As := [_, _, _]) dX9_readTape_33 rfl mlRX9_372 okX3_read npX3_read rfl rfl rfl ⟨by decide, by decide⟩ (Nat.le_of_ble_eq_true rfl) rfl (Nat.le_of_ble_eq_true rfl) (c_read (us := 1) hu h50 hby (fun M1 k1 o1 b e he h26 h80 => ?_))
    show V cS g (d + 61) mX9_readTape 36 [some (.ref 0), some (.int (nI 1)), some (.ref (210 + 1)), none, none] [.int (if b = true ∧ k1 = t then -1 else nI k1)] M1 Q
    refine V.istore_n dX9_readTape_36 rfl (i := 3) (by decide) (fun _ h => by cases h; exact Or.inl rfl) rfl ?_
    refine V.aload_n dX9_readTape_37 rfl (i := 0) rfl ?_
    refine V.getR dX9_readTape_38 rfl flRX9_12 rfl ⟨by decide, by decide⟩ ?_
    refine V.iconst dX9_readTape_41 (v := 0) (by decide) ?_
    refine V.putI dX9_readTape_42 rfl fpRX9_201 rfl ⟨by decide, by decide⟩ ?_
    skip
    have hl := rdT_len e
    simp only at hl
    by_cases hb : b = true ∧ k1 = t
    · obtain ⟨rfl, rfl⟩ := hb
      refine V.iload_n dX9_readTape_45 rfl (i := 3) rfl ?_
      refine V.top (x' := (-1 : Int32)) ((if_pos ⟨rfl, rfl⟩)) ?_
      refine V.if_ge (tgt := 84) dX9_readTape_46 (by decide) (fun q => absurd q ((by decide))) (fun c46 => ?_)
      refine V.iload_n dX9_readTape_49 rfl (i := 1) rfl ?_
      refine V.if_ne (tgt := 63) dX9_readTape_50 (by decide) (fun c50 => ?_) (fun q => absurd q ((by decide)))
      refine V.aload_n dX9_readTape_63 rfl (i := 0) rfl ?_
      refine V.getR dX9_readTape_64 rfl flRX9_12 rfl ⟨by decide, by decide⟩ ?_
      refine V.getR dX9_readTape_67 rfl flRX9_376 rfl ⟨by decide, by decide⟩ ?_
      refine V.astore dX9_readTape_70 (i := 4) (by decide) (fun _ h => by cases h; exact Or.inl rfl) rfl ?_
      refine V.aload dX9_readTape_72 rfl ?_
      refine V.aload_n dX9_readTape_74 rfl (i := 0) rfl ?_
      refine V.getR dX9_readTape_75 rfl flRX9_22 rfl ⟨by decide, by decide⟩ ?_
      refine V.getR dX9_readTape_78 rfl flRX9_379 rfl ⟨by decide, by decide⟩ ?_
      refine V.invv (z := mX2_become) (As := [_]) dX9_readTape_81 rfl mlRX9_382 okX2_become npX2_become rfl rfl rfl ⟨by decide, by decide⟩ (Nat.le_of_ble_eq_true rfl) rfl (Nat.le_of_ble_eq_true rfl) (c_lb_15_26 ?_)
      show V cS g (d + 61) mX9_readTape 84 [some (.ref 0), some (.int (nI 1)), some (.ref (210 + 1)), some (.int (if true = true ∧ k1 = k1 then -1 else nI k1)), some (.ref 15)] [] (put (um (put M1 1 9 0) 71 (va_cpy (put M1 1 9 0 80) (put M1 1 9 0 71) 0 0 50)) 15 1 (put M1 1 9 0 26 1)) Q
      refine V.iload_n dX9_readTape_84 rfl (i := 3) rfl ?_
      exact V.ret dX9_readTape_85 rfl (Qi (hok1 rfl _ k1 o1 e rfl (((e9 (he.up (by decide)) (by decide)).um (by decide)).put (by decide)) (by rw [put_s, put_cell (by decide)]; exact h26) (fun i hi => by rw [put_cell (by decide), um_s, pk_cpy_in (by omega) (by omega), put_cell (by decide), Nat.sub_zero, Nat.zero_add]; exact h80 i hi)) (if_pos ⟨rfl, rfl⟩))
    · skip
      refine V.iload_n dX9_readTape_45 rfl (i := 3) rfl ?_
      refine V.top (x' := (nI k1)) ((if_neg hb)) ?_
      refine V.if_ge (tgt := 84) dX9_readTape_46 (by decide) (fun c46 => ?_) (fun q => absurd ((nI_pos' (by omega))) q)
      refine V.iload_n dX9_readTape_84 rfl (i := 3) rfl ?_
      exact V.ret dX9_readTape_85 rfl (Qi (hbad _ k1 o1 b e hb (e9 he (by decide))) (if_neg hb))
set_option maxHeartbeats 4000000 in
set_option maxRecDepth 100000 in
theorem c9_text {g : GG} {d : Nat} {M : Mem} {Q : Option Value → Mem → Prop} {a : Int32} {t : Nat} (ht : M 1 9 = nI t) (h50 : t ≤ 50) (hby : ∀ i, i < t → isB (M 13 i)) (hbad : ¬ (0 ≤ a ∧ a ≤ 1) → Q (some (.int (-1000000001))) (put M 9 1 (M 9 1 + 1))) (hno : ∀ us, us < 2 → a = nI us → ∀ M' k1 o1 b, rdT (nx (M 13) t) us = (b, k1, o1) → ¬ (b = true ∧ k1 = t) → k1 ≤ t → eqx [3, 26, 27, 80] (put M 1 9 0) M' → Q (some (.int (-10 - nI k1))) M') (hok0 : a = 0 → ∀ M' k1 o1, rdT (nx (M 13) t) 0 = (true, k1, o1) → k1 = t → eqx [3, 26, 27, 80, 14, 68] (put M 1 9 0) M' → M' 14 1 = nI o1.length → (∀ i, i < o1.length → M' 68 i = o1.getD i 0) → Q (some (.int 1)) M') (hok1 : a = 1 → ∀ M' k1 o1, rdT (nx (M 13) t) 1 = (true, k1, o1) → k1 = t → eqx [3, 26, 27, 80, 15, 71] (put M 1 9 0) M' → M' 15 1 = nI o1.length → (∀ i, i < o1.length → M' 71 i = o1.getD i 0) → Q (some (.int 1)) M') : V cS g (d + 62) mX9_text 0 [some (.ref 0), some (.int a), none] [] M Q := by
  by_cases h : (0 ≤ a ∧ a ≤ 1)
  · obtain ⟨us, hu, rfl⟩ := nI_ex (n := 2) (by omega) h.1 (Int32.lt_of_le_of_lt h.2 (by decide))
    refine V.iload_n dX9_text_0 rfl (i := 1) rfl ?_
    refine V.invs (z := mX9_isUse) (As := [_]) dX9_text_1 rfl mlRX9_207 okX9_isUse npX9_isUse rfl (Nat.le_of_ble_eq_true rfl) rfl (Nat.le_of_ble_eq_true rfl) (c_isUse   ?_)
    show V cS g (d + 62) mX9_text 4 [some (.ref 0), some (.int (nI us)), none] [.int (b2i (0 ≤ (nI us) ∧ (nI us) ≤ 1))] (M) Q
    refine V.if_ne (tgt := 14) dX9_text_4 (by decide) (fun c4 => ?_) (fun q => absurd q ((fun z => b2i_0.mp z h)))
    refine V.aload_n dX9_text_14 rfl (i := 0) rfl ?_
    refine V.iload_n dX9_text_15 rfl (i := 1) rfl ?_
    skip
    refine V.invv (z := mX9_readTape) (As := [_]) dX9_text_16 rfl mlRX9_210 okX9_readTape npX9_readTape rfl rfl rfl ⟨by decide, by decide⟩ (Nat.le_of_ble_eq_true rfl) rfl (Nat.le_of_ble_eq_true rfl) (c_readTape hu ht h50 hby (fun M' k1 o1 b e hb he => ?_) (fun z M' k1 o1 e ek he h1 h2 => ?_) (fun z M' k1 o1 e ek he h1 h2 => ?_))
    · have hl := rdT_len e
      simp only at hl
      show V cS g (d + 62) mX9_text 19 [some (.ref 0), some (.int (nI us)), none] [.int (nI k1)] M' Q
      refine V.istore_n dX9_text_19 rfl (i := 2) (by decide) (fun _ h => by cases h; exact Or.inl rfl) rfl ?_
      refine V.iload_n dX9_text_20 rfl (i := 2) rfl ?_
      refine V.if_ge (tgt := 28) dX9_text_21 (by decide) (fun c21 => ?_) (fun q => absurd ((nI_pos' (by omega))) q)
      refine V.bipush dX9_text_28 (v := (-10)) (by decide) ?_
      refine V.iload_n dX9_text_30 rfl (i := 2) rfl ?_
      refine V.isub dX9_text_31 ?_
      exact V.ret dX9_text_32 rfl (hno us hu rfl M' k1 o1 b e hb hl.1 he)
    · subst z
      show V cS g (d + 62) mX9_text 19 [some (.ref 0), some (.int (nI 0)), none] [.int (-1 : Int32)] M' Q
      refine V.istore_n dX9_text_19 rfl (i := 2) (by decide) (fun _ h => by cases h; exact Or.inl rfl) rfl ?_
      refine V.iload_n dX9_text_20 rfl (i := 2) rfl ?_
      refine V.if_ge (tgt := 28) dX9_text_21 (by decide) (fun q => absurd q ((by decide))) (fun c21 => ?_)
      refine V.iconst dX9_text_24 (v := 1) (by decide) ?_
      refine V.goto dX9_text_25 (tgt := 32) (by decide) ?_
      exact V.ret dX9_text_32 rfl (hok0 rfl M' k1 o1 e ek he h1 h2)
    · subst z
      show V cS g (d + 62) mX9_text 19 [some (.ref 0), some (.int (nI 1)), none] [.int (-1 : Int32)] M' Q
      refine V.istore_n dX9_text_19 rfl (i := 2) (by decide) (fun _ h => by cases h; exact Or.inl rfl) rfl ?_
      refine V.iload_n dX9_text_20 rfl (i := 2) rfl ?_
      refine V.if_ge (tgt := 28) dX9_text_21 (by decide) (fun q => absurd q ((by decide))) (fun c21 => ?_)
      refine V.iconst dX9_text_24 (v := 1) (by decide) ?_
      refine V.goto dX9_text_25 (tgt := 32) (by decide) ?_
      exact V.ret dX9_text_32 rfl (hok1 rfl M' k1 o1 e ek he h1 h2)
  · skip
    refine V.iload_n dX9_text_0 rfl (i := 1) rfl ?_
    refine V.invs (z := mX9_isUse) (As := [_]) dX9_text_1 rfl mlRX9_207 okX9_isUse npX9_isUse rfl (Nat.le_of_ble_eq_true rfl) rfl (Nat.le_of_ble_eq_true rfl) (c_isUse   ?_)
    show V cS g (d + 62) mX9_text 4 [some (.ref 0), some (.int a), none] [.int (b2i (0 ≤ a ∧ a ≤ 1))] (M) Q
    refine V.if_ne (tgt := 14) dX9_text_4 (by decide) (fun c4 => ?_) (fun c4 => ?_)
    · exact absurd (Classical.byContradiction fun z => c4 (b2i_f z)) h
    · refine V.aload_n dX9_text_7 rfl (i := 0) rfl ?_
      refine V.ldc dX9_text_8 rfl ctRX9_81 ?_
      refine V.invv (z := mX9_error) (As := [_]) dX9_text_10 rfl mlRX9_82 okX9_error npX9_error rfl rfl rfl ⟨by decide, by decide⟩ (Nat.le_of_ble_eq_true rfl) rfl (Nat.le_of_ble_eq_true rfl) (c_err1   ?_)
      show V cS g (d + 62) mX9_text 13 [some (.ref 0), some (.int a), none] [.int (-1000000001 : Int32)] (put (M) 9 1 ((M) 9 1 + 1)) Q
      exact V.ret dX9_text_13 rfl (hbad h)
set_option maxHeartbeats 4000000 in
set_option maxRecDepth 100000 in
theorem l_bt {g : GG} {d : Nat} {M : Mem} {Q : Option Value → Mem → Prop} {j us : Nat} (hj : j < 4) (hc : V cS g (d + 62) mX9_beginText 28 [some (.ref 0), some (.int (nI us)), some (.ref (210 + j)), none] [] (tapM M (chS j) 0 (strL.getD j 0)) Q) : ∀ (k i : Nat), i + k = strL.getD j 0 → V cS g (d + 62) mX9_beginText 2 [some (.ref 0), some (.int (nI us)), some (.ref (210 + j)), some (.int (nI i))] [] (tapM M (chS j) 0 i) Q := by
  have h9 := strL_le j hj
  intro k
  induction k with
  | zero =>
    intro i hk
    obtain rfl : i = strL.getD j 0 := by omega
    refine V.iload_n dX9_beginText_2 rfl (i := 3) rfl ?_
    refine V.aload_n dX9_beginText_3 rfl (i := 2) rfl ?_
    refine V.invK (z := mJ0_length_8abf5) (As := []) dX9_beginText_4 rfl mlRX9_385 okJ0_length_8abf5 npJ0_length_8abf5 rfl (by first | assumption | decide | omega) rfl (Nat.le_of_ble_eq_true rfl) rfl (Nat.le_of_ble_eq_true rfl) (c_strlen  (by first | assumption | decide | omega) ?_)
    show V cS g (d + 62) mX9_beginText 7 [some (.ref 0), some (.int (nI us)), some (.ref (210 + j)), some (.int (nI (strL.getD j 0)))] [.int (nI (strL.getD j 0)), .int (nI (strL.getD j 0))] ((tapM M (chS j) 0 (strL.getD j 0))) Q
    refine V.ic_ge (tgt := 28) dX9_beginText_7 (by decide) (fun c7 => ?_) (fun q => absurd ((Int32.le_refl _)) q)
    exact V.fg (ls' := [some (.ref 0), some (.int (nI us)), some (.ref (210 + j)), none]) ⟨rfl, rfl, rfl, trivial⟩ hc
  | succ k ih =>
    intro i hk
    refine V.iload_n dX9_beginText_2 rfl (i := 3) rfl ?_
    refine V.aload_n dX9_beginText_3 rfl (i := 2) rfl ?_
    refine V.invK (z := mJ0_length_8abf5) (As := []) dX9_beginText_4 rfl mlRX9_385 okJ0_length_8abf5 npJ0_length_8abf5 rfl (by first | assumption | decide | omega) rfl (Nat.le_of_ble_eq_true rfl) rfl (Nat.le_of_ble_eq_true rfl) (c_strlen  (by first | assumption | decide | omega) ?_)
    show V cS g (d + 62) mX9_beginText 7 [some (.ref 0), some (.int (nI us)), some (.ref (210 + j)), some (.int (nI i))] [.int (nI (strL.getD j 0)), .int (nI i)] ((tapM M (chS j) 0 i)) Q
    refine V.ic_ge (tgt := 28) dX9_beginText_7 (by decide) (fun q => absurd q ((nI_ge (a := i) (b := strL.getD j 0) (by omega) (by omega)))) (fun c7 => ?_)
    refine V.aload_n dX9_beginText_10 rfl (i := 0) rfl ?_
    refine V.getR dX9_beginText_11 rfl flRX9_12 rfl ⟨by decide, by decide⟩ ?_
    refine V.aload_n dX9_beginText_14 rfl (i := 2) rfl ?_
    refine V.iload_n dX9_beginText_15 rfl (i := 3) rfl ?_
    refine V.invK (z := mJ0_charAt_5068e) (As := [_]) dX9_beginText_16 rfl mlRX9_390 okJ0_charAt_5068e npJ0_charAt_5068e rfl (by first | assumption | decide | omega) rfl (Nat.le_of_ble_eq_true rfl) rfl (Nat.le_of_ble_eq_true rfl) (c_charAt hj (by omega) ?_)
    show V cS g (d + 62) mX9_beginText 19 [some (.ref 0), some (.int (nI us)), some (.ref (210 + j)), some (.int (nI i))] [.int (chS j i), .ref 1] (tapM M (chS j) 0 i) Q
    refine V.invv (z := mX7_addByte) (As := [_]) dX9_beginText_19 rfl mlRX9_204 okX7_addByte npX7_addByte rfl rfl rfl ⟨by decide, by decide⟩ (Nat.le_of_ble_eq_true rfl) rfl (Nat.le_of_ble_eq_true rfl) (c_addByte (n := 0 + i) tapM_n (by omega) ?_)
    show V cS g (d + 62) mX9_beginText 22 [some (.ref 0), some (.int (nI us)), some (.ref (210 + j)), some (.int (nI i))] [] (put (put (tapM M (chS j) 0 i) 13 (0 + i) (chS j i)) 1 9 (nI (0 + i + 1))) Q
    refine V.mem (tapM_s (f := chS j)) ?_
    refine V.iinc dX9_beginText_22 rfl (v := (nI (i + 1))) (nI_1 _) (by decide) (fun _ h => by cases h; exact Or.inl rfl) rfl ?_
    refine V.goto dX9_beginText_25 (tgt := 2) (by decide) ?_
    exact ih (i + 1) (by omega)
set_option maxHeartbeats 4000000 in
set_option maxRecDepth 100000 in
theorem c_beginText {g : GG} {d : Nat} {M : Mem} {Q : Option Value → Mem → Prop} {us j : Nat} (hu : us < 2) (hj : j < 4) (ht : M 1 9 = nI 0) (hgood : ∃ k1 o1, rdT (nx (chS j) (strL.getD j 0)) us = (true, k1, o1) ∧ k1 = strL.getD j 0) (hok0 : us = 0 → ∀ M' k1 o1, rdT (nx (chS j) (strL.getD j 0)) 0 = (true, k1, o1) → eqx [3, 13, 26, 27, 80, 14, 68] (put M 1 9 0) M' → M' 14 1 = nI o1.length → (∀ i, i < o1.length → M' 68 i = o1.getD i 0) → Q none M') (hok1 : us = 1 → ∀ M' k1 o1, rdT (nx (chS j) (strL.getD j 0)) 1 = (true, k1, o1) → eqx [3, 13, 26, 27, 80, 15, 71] (put M 1 9 0) M' → M' 15 1 = nI o1.length → (∀ i, i < o1.length → M' 71 i = o1.getD i 0) → Q none M') : V cS g (d + 62) mX9_beginText 0 [some (.ref 0), some (.int (nI us)), some (.ref (210 + j)), none] [] M Q := by
  have h9 := strL_le j hj
  have chB : ∀ j, j < 4 → ∀ i, i < 10 → (chS j i).toNatClampNeg < 256 ∧ chS j i = nI (chS j i).toNatClampNeg := by decide +kernel
  have e13 : nx (tapM M (chS j) 0 (strL.getD j 0) 13) (strL.getD j 0) = nx (chS j) (strL.getD j 0) := by
    funext k
    unfold nx
    by_cases q : k < strL.getD j 0
    · rw [if_pos q, if_pos q]
      unfold tapM
      rw [um_s, if_pos ⟨by omega, by omega⟩, Nat.sub_zero]
    · rw [if_neg q, if_neg q]
  have hby : ∀ i, i < strL.getD j 0 → isB (tapM M (chS j) 0 (strL.getD j 0) 13 i) := by
    intro i hi
    unfold tapM
    rw [um_s, if_pos ⟨by omega, by omega⟩, Nat.sub_zero]
    exact ⟨_, (chB j hj i (by omega)).1, (chB j hj i (by omega)).2⟩
  have eM : ∀ {S : List Nat} {M' : Mem}, eqx S (put (tapM M (chS j) 0 (strL.getD j 0)) 1 9 0) M' → 13 ∈ S → eqx S (put M 1 9 0) M' := by
    intro S M' h h13 c hc
    rw [h c hc]
    funext i
    have h13' : c ≠ 13 := fun z => hc (z ▸ h13)
    by_cases q : c = 1 ∧ i = 9
    · obtain ⟨rfl, rfl⟩ := q
      rw [put_s, put_s]
    · rw [put_n q, put_n q]
      unfold tapM
      rw [um_n h13', put_n q]
  have hcont : V cS g (d + 62) mX9_beginText 28 [some (.ref 0), some (.int (nI us)), some (.ref (210 + j)), none] [] (tapM M (chS j) 0 (strL.getD j 0)) Q := by
    refine V.aload_n dX9_beginText_28 rfl (i := 0) rfl ?_
    refine V.iload_n dX9_beginText_29 rfl (i := 1) rfl ?_
    skip
    refine V.invv (z := mX9_readTape) (As := [_]) dX9_beginText_30 rfl mlRX9_210 okX9_readTape npX9_readTape rfl rfl rfl ⟨by decide, by decide⟩ (Nat.le_of_ble_eq_true rfl) rfl (Nat.le_of_ble_eq_true rfl) (c_readTape (t := strL.getD j 0) hu (by rw [tapM_n, Nat.zero_add]) (by omega) hby (fun M' k1 o1 b e hb he => ?_) (fun z M' k1 o1 e ek he h1 h2 => ?_) (fun z M' k1 o1 e ek he h1 h2 => ?_))
    · exfalso
      obtain ⟨k2, o2, g1, g2⟩ := hgood
      rw [e13, g1] at e
      injection e with q1 q2
      injection q2 with q2 q3
      exact hb ⟨q1.symm, by rw [← q2]; exact g2⟩
    · show V cS g (d + 62) mX9_beginText 33 [some (.ref 0), some (.int (nI us)), some (.ref (210 + j)), none] [.int (-1 : Int32)] M' Q
      rw [e13] at e
      refine V.pop dX9_beginText_33 rfl ?_
      exact V.vret dX9_beginText_34 rfl (hok0 z M' k1 o1 e (eM (he.up (by decide)) (by decide)) h1 h2)
    · show V cS g (d + 62) mX9_beginText 33 [some (.ref 0), some (.int (nI us)), some (.ref (210 + j)), none] [.int (-1 : Int32)] M' Q
      rw [e13] at e
      refine V.pop dX9_beginText_33 rfl ?_
      exact V.vret dX9_beginText_34 rfl (hok1 z M' k1 o1 e (eM (he.up (by decide)) (by decide)) h1 h2)
  refine V.iconst dX9_beginText_0 (v := 0) (by decide) ?_
  refine V.istore_n dX9_beginText_1 rfl (i := 3) (by decide) (fun _ h => by cases h; exact Or.inl rfl) rfl ?_
  exact V.mem (tapM_0 (f := chS j) ht).symm (l_bt hj hcont (strL.getD j 0) 0 (by omega))

