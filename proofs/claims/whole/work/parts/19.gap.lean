/-! ===== gaps, what is near, hours ===== -/
set_option maxHeartbeats 4000000 in
set_option maxRecDepth 100000 in
theorem l_gap {g : GG} {d : Nat} {M : Mem} {Q : Option Value → Mem → Prop} {a b : Nat} {hp : Nat → Nat → Bool} {wy : Nat → Nat → Int32} {n ne : Nat} (hN : cnts M n ne) (hH : Hd M hp wy n ne) (ha : a < n) (hb : b < n) (hQ : Q (some (.int (gpF hp wy (M 1 6) a b ne))) M) : ∀ (k e : Nat), e + k = ne → V cS g (d + 1) mX1_gap 15 [some (.ref 4), some (.int (nI a)), some (.int (nI b)), some (.int (((1 : Int32) <<< ((nI a) &&& 31)) ||| ((1 : Int32) <<< ((nI b) &&& 31)))), some (.int (gpF hp wy (M 1 6) a b e)), some (.int (nI e))] [] M Q := by
  obtain ⟨hn, h8, hne, h10⟩ := hN
  intro k
  induction k with
  | zero =>
    intro e hk
    obtain rfl : e = ne := by omega
    refine V.iload dX1_gap_15 rfl ?_
    refine V.aload_n dX1_gap_17 rfl (i := 0) rfl ?_
    refine V.getR dX1_gap_18 rfl flRX1_23 rfl ⟨by decide, by decide⟩ ?_
    refine V.getI dX1_gap_21 rfl flRX1_47 rfl ⟨by decide, by decide⟩ ?_
    refine V.top (x' := (nI e)) (hne) ?_
    refine V.ic_ge (tgt := 82) dX1_gap_24 (by decide) (fun c24 => ?_) (fun q => absurd ((Int32.le_refl _)) q)
    refine V.iload dX1_gap_82 rfl ?_
    exact V.ret dX1_gap_84 rfl (hQ)
  | succ k ih =>
    intro e hk
    have hb8 : b < 8 := by omega
    have ha8 : a < 8 := by omega
    have he10 : e < 10 := by omega
    have hbt := bI_both (p := fun x => hp x e) (n := n) (a := a) (b := b) (by omega) ha hb
    refine V.iload dX1_gap_15 rfl ?_
    refine V.aload_n dX1_gap_17 rfl (i := 0) rfl ?_
    refine V.getR dX1_gap_18 rfl flRX1_23 rfl ⟨by decide, by decide⟩ ?_
    refine V.getI dX1_gap_21 rfl flRX1_47 rfl ⟨by decide, by decide⟩ ?_
    refine V.top (x' := (nI ne)) (hne) ?_
    refine V.ic_ge (tgt := 82) dX1_gap_24 (by decide) (fun q => absurd q ((nI_ge (a := e) (b := ne) (by omega) (by omega)))) (fun c24 => ?_)
    refine V.aload_n dX1_gap_27 rfl (i := 0) rfl ?_
    refine V.getR dX1_gap_28 rfl flRX1_16 rfl ⟨by decide, by decide⟩ ?_
    refine V.iload dX1_gap_31 rfl ?_
    refine V.ialdN dX1_gap_33 rfl ⟨by decide, by decide⟩ (by first | assumption | decide | omega) (by decide) ?_
    refine V.top (x' := (bI (fun x => hp x e) n)) ((hH.1 e (by omega))) ?_
    refine V.iload_n dX1_gap_34 rfl (i := 3) rfl ?_
    refine V.iand dX1_gap_35 ?_
    refine V.iload_n dX1_gap_36 rfl (i := 3) rfl ?_
    refine V.ic_ne (tgt := 76) dX1_gap_37 (by decide) (fun c37 => ?_) (fun c37 => ?_)
    · refine V.lseq (ls' := [some (.ref 4), some (.int (nI a)), some (.int (nI b)), some (.int (((1 : Int32) <<< ((nI a) &&& 31)) ||| ((1 : Int32) <<< ((nI b) &&& 31)))), some (.int (gpF hp wy (M 1 6) a b (e + 1))), some (.int (nI e))]) (by first | (rw [gpF, if_neg (fun q => c37 (hbt.mpr q))]; try rfl) | (rw [gpF, if_pos (hbt.mp c37)]; try rfl)) ?_
      refine V.iinc dX1_gap_76 rfl (v := (nI (e + 1))) (nI_1 _) (by decide) (fun _ h => by cases h; exact Or.inl rfl) rfl ?_
      refine V.goto dX1_gap_79 (tgt := 15) (by decide) ?_
      exact ih (e + 1) (by omega)
    · refine V.iload dX1_gap_40 rfl ?_
      refine V.aload_n dX1_gap_42 rfl (i := 0) rfl ?_
      refine V.getR dX1_gap_43 rfl flRX1_23 rfl ⟨by decide, by decide⟩ ?_
      refine V.getI dX1_gap_46 rfl flRX1_56 rfl ⟨by decide, by decide⟩ ?_
      refine V.iconst dX1_gap_49 (v := 1) (by decide) ?_
      refine V.iadd dX1_gap_50 ?_
      refine V.aload_n dX1_gap_51 rfl (i := 0) rfl ?_
      refine V.getR dX1_gap_52 rfl flRX1_11 rfl ⟨by decide, by decide⟩ ?_
      refine V.iload_n dX1_gap_55 rfl (i := 1) rfl ?_
      refine V.aaldIN dX1_gap_56 rfl ⟨by decide, by decide⟩ (by first | assumption | decide | omega) (by decide) ?_
      refine V.iload dX1_gap_57 rfl ?_
      refine V.ialdN dX1_gap_59 (layA46 (by first | assumption | decide | omega)) (inB46 (by first | assumption | decide | omega)) (by first | assumption | decide | omega) (by decide) ?_
      refine V.top (x' := (wy a e)) ((hH.2 a e ha (by omega) (hbt.mp c37).1)) ?_
      refine V.iadd dX1_gap_60 ?_
      refine V.aload_n dX1_gap_61 rfl (i := 0) rfl ?_
      refine V.getR dX1_gap_62 rfl flRX1_11 rfl ⟨by decide, by decide⟩ ?_
      refine V.iload_n dX1_gap_65 rfl (i := 2) rfl ?_
      refine V.aaldIN dX1_gap_66 rfl ⟨by decide, by decide⟩ (by first | assumption | decide | omega) (by decide) ?_
      refine V.iload dX1_gap_67 rfl ?_
      refine V.ialdN dX1_gap_69 (layA46 (by first | assumption | decide | omega)) (inB46 (by first | assumption | decide | omega)) (by first | assumption | decide | omega) (by decide) ?_
      refine V.top (x' := (wy b e)) ((hH.2 b e hb (by omega) (hbt.mp c37).2)) ?_
      refine V.isub dX1_gap_70 ?_
      refine V.mmax dX1_gap_71 rfl mlRX1_85 (Nat.le_of_ble_eq_true rfl) ?_
      refine V.istore dX1_gap_74 (i := 4) (by decide) (fun _ h => by cases h; exact Or.inl rfl) rfl ?_
      refine V.lseq (ls' := [some (.ref 4), some (.int (nI a)), some (.int (nI b)), some (.int (((1 : Int32) <<< ((nI a) &&& 31)) ||| ((1 : Int32) <<< ((nI b) &&& 31)))), some (.int (gpF hp wy (M 1 6) a b (e + 1))), some (.int (nI e))]) (by first | (rw [gpF, if_neg (fun q => c37 (hbt.mpr q))]; try rfl) | (rw [gpF, if_pos (hbt.mp c37)]; try rfl)) ?_
      refine V.iinc dX1_gap_76 rfl (v := (nI (e + 1))) (nI_1 _) (by decide) (fun _ h => by cases h; exact Or.inl rfl) rfl ?_
      refine V.goto dX1_gap_79 (tgt := 15) (by decide) ?_
      exact ih (e + 1) (by omega)
set_option maxHeartbeats 4000000 in
set_option maxRecDepth 100000 in
theorem c_gap {g : GG} {d : Nat} {M : Mem} {Q : Option Value → Mem → Prop} {a b : Nat} {hp : Nat → Nat → Bool} {wy : Nat → Nat → Int32} {n ne : Nat} (hN : cnts M n ne) (hH : Hd M hp wy n ne) (ha : a < n) (hb : b < n) (hQ : Q (some (.int (gpF hp wy (M 1 6) a b ne))) M) : V cS g (d + 1) mX1_gap 0 [some (.ref 4), some (.int (nI a)), some (.int (nI b)), none, none, none] [] M Q := by
  refine V.iconst dX1_gap_0 (v := 1) (by decide) ?_
  refine V.iload_n dX1_gap_1 rfl (i := 1) rfl ?_
  refine V.ishl dX1_gap_2 ?_
  refine V.iconst dX1_gap_3 (v := 1) (by decide) ?_
  refine V.iload_n dX1_gap_4 rfl (i := 2) rfl ?_
  refine V.ishl dX1_gap_5 ?_
  refine V.ior dX1_gap_6 ?_
  refine V.istore_n dX1_gap_7 rfl (i := 3) (by decide) (fun _ h => by cases h; exact Or.inl rfl) rfl ?_
  refine V.ldc dX1_gap_8 rfl ctRX1_84 ?_
  refine V.istore dX1_gap_10 (i := 4) (by decide) (fun _ h => by cases h; exact Or.inl rfl) rfl ?_
  refine V.iconst dX1_gap_12 (v := 0) (by decide) ?_
  refine V.istore dX1_gap_13 (i := 5) (by decide) (fun _ h => by cases h; exact Or.inl rfl) rfl ?_
  exact l_gap hN hH ha hb hQ ne 0 (by omega)
set_option maxHeartbeats 4000000 in
set_option maxRecDepth 100000 in
theorem c_secondOf {g : GG} {d : Nat} {M : Mem} {Q : Option Value → Mem → Prop} {b e : Nat} (hb : b < 8) (he : e < 10) (hQ : Q (some (.int (M (30 + b) 4 + M (46 + b) e))) (M)) : V cS g d mX1_secondOf 0 [some (.ref 4), some (.int (nI b)), some (.int (nI e))] [] M Q := by
  refine V.aload_n dX1_secondOf_0 rfl (i := 0) rfl ?_
  refine V.getR dX1_secondOf_1 rfl flRX1_23 rfl ⟨by decide, by decide⟩ ?_
  refine V.getR dX1_secondOf_4 rfl flRX1_33 rfl ⟨by decide, by decide⟩ ?_
  refine V.iload_n dX1_secondOf_7 rfl (i := 1) rfl ?_
  refine V.aaldBN dX1_secondOf_8 rfl ⟨by decide, by decide⟩ (by first | assumption | decide | omega) (by decide) ?_
  refine V.getI dX1_secondOf_9 rfl flRX1_59 (fkB30 (by first | assumption | decide | omega) (by decide)) (inB30 (by first | assumption | decide | omega)) ?_
  refine V.aload_n dX1_secondOf_12 rfl (i := 0) rfl ?_
  refine V.getR dX1_secondOf_13 rfl flRX1_11 rfl ⟨by decide, by decide⟩ ?_
  refine V.iload_n dX1_secondOf_16 rfl (i := 1) rfl ?_
  refine V.aaldIN dX1_secondOf_17 rfl ⟨by decide, by decide⟩ (by first | assumption | decide | omega) (by decide) ?_
  refine V.iload_n dX1_secondOf_18 rfl (i := 2) rfl ?_
  refine V.ialdN dX1_secondOf_19 (layA46 (by first | assumption | decide | omega)) (inB46 (by first | assumption | decide | omega)) (by first | assumption | decide | omega) (by decide) ?_
  refine V.iadd dX1_secondOf_20 ?_
  exact V.ret dX1_secondOf_21 rfl (hQ)
set_option maxHeartbeats 4000000 in
set_option maxRecDepth 100000 in
theorem c_heardAt {g : GG} {d : Nat} {M : Mem} {Q : Option Value → Mem → Prop} {e : Nat} (he : e < 10) (hQ : Q (some (.int (M 29 e))) (M)) : V cS g d mX1_heardAt 0 [some (.ref 4), some (.int (nI e))] [] M Q := by
  refine V.aload_n dX1_heardAt_0 rfl (i := 0) rfl ?_
  refine V.getR dX1_heardAt_1 rfl flRX1_16 rfl ⟨by decide, by decide⟩ ?_
  refine V.iload_n dX1_heardAt_4 rfl (i := 1) rfl ?_
  refine V.ialdN dX1_heardAt_5 rfl ⟨by decide, by decide⟩ (by first | assumption | decide | omega) (by decide) ?_
  exact V.ret dX1_heardAt_6 rfl (hQ)
set_option maxHeartbeats 4000000 in
set_option maxRecDepth 100000 in
theorem c_ccAt {g : GG} {d : Nat} {M : Mem} {Q : Option Value → Mem → Prop} {h : Nat} (hh : h < 24) (hQ : Q (some (.int (M 54 h))) (M)) : V cS g d mX1_clashCountAt 0 [some (.ref 4), some (.int (nI h))] [] M Q := by
  refine V.aload_n dX1_clashCountAt_0 rfl (i := 0) rfl ?_
  refine V.getR dX1_clashCountAt_1 rfl flRX1_20 rfl ⟨by decide, by decide⟩ ?_
  refine V.iload_n dX1_clashCountAt_4 rfl (i := 1) rfl ?_
  refine V.ialdN dX1_clashCountAt_5 rfl ⟨by decide, by decide⟩ (by first | assumption | decide | omega) (by decide) ?_
  exact V.ret dX1_clashCountAt_6 rfl (hQ)
set_option maxHeartbeats 4000000 in
set_option maxRecDepth 100000 in
theorem l_near {g : GG} {d : Nat} {M : Mem} {Q : Option Value → Mem → Prop} {e : Nat} {s bt : Int32} {hp : Nat → Nat → Bool} {wy : Nat → Nat → Int32} {n ne : Nat} (hN : cnts M n ne) (hH : Hd M hp wy n ne) (he : e < ne) (hQ : Q (some (.int (b2i (anB (nrP hp wy (M 1 6) (fun b => M (30 + b) 4) e s bt) n = true)))) M) : ∀ (k i : Nat), i + k = n → anB (nrP hp wy (M 1 6) (fun b => M (30 + b) 4) e s bt) i = false → V cS g (d + 1) mX1_isNear 3 [some (.ref 4), some (.int (nI e)), some (.int s), some (.int bt), some (.int (nI i))] [] M Q := by
  obtain ⟨hn, h8, hne, h10⟩ := hN
  intro k
  induction k with
  | zero =>
    intro i hk hf
    obtain rfl : i = n := by omega
    refine V.iload dX1_isNear_3 rfl ?_
    refine V.aload_n dX1_isNear_5 rfl (i := 0) rfl ?_
    refine V.getR dX1_isNear_6 rfl flRX1_23 rfl ⟨by decide, by decide⟩ ?_
    refine V.getI dX1_isNear_9 rfl flRX1_27 rfl ⟨by decide, by decide⟩ ?_
    refine V.top (x' := (nI i)) (hn) ?_
    refine V.ic_ge (tgt := 65) dX1_isNear_12 (by decide) (fun c12 => ?_) (fun q => absurd ((Int32.le_refl _)) q)
    refine V.iconst dX1_isNear_65 (v := 0) (by decide) ?_
    exact V.zret dX1_isNear_66 rfl (by first | exact Or.inl rfl | exact Or.inr rfl | assumption | exact b2i_zo _ | (repeat' split) <;> first | exact Or.inl rfl | exact Or.inr rfl | assumption | exact b2i_zo _) (Qi hQ (by rw [b2i_f (by rw [hf]; decide)]))
  | succ k ih =>
    intro i hk hf
    have hi8 : i < 8 := by omega
    have he10 : e < 10 := by omega
    have hbt := bI_bit (p := fun x => hp x e) (n := n) (k := i) (by omega) (by omega)
    have hno : ¬ (nrP hp wy (M 1 6) (fun b => M (30 + b) 4) e s bt) i = true → anB (nrP hp wy (M 1 6) (fun b => M (30 + b) 4) e s bt) (i + 1) = false := fun q => by rw [anB, hf, Bool.false_or]; simpa using q
    refine V.iload dX1_isNear_3 rfl ?_
    refine V.aload_n dX1_isNear_5 rfl (i := 0) rfl ?_
    refine V.getR dX1_isNear_6 rfl flRX1_23 rfl ⟨by decide, by decide⟩ ?_
    refine V.getI dX1_isNear_9 rfl flRX1_27 rfl ⟨by decide, by decide⟩ ?_
    refine V.top (x' := (nI n)) (hn) ?_
    refine V.ic_ge (tgt := 65) dX1_isNear_12 (by decide) (fun q => absurd q ((nI_ge (a := i) (b := n) (by omega) (by omega)))) (fun c12 => ?_)
    refine V.iload dX1_isNear_15 rfl ?_
    refine V.iload_n dX1_isNear_17 rfl (i := 3) rfl ?_
    refine V.ic_eq (tgt := 59) dX1_isNear_18 (by decide) (fun c18 => ?_) (fun c18 => ?_)
    · refine V.iinc dX1_isNear_59 rfl (v := (nI (i + 1))) (nI_1 _) (by decide) (fun _ h => by cases h; exact Or.inl rfl) rfl ?_
      refine V.goto dX1_isNear_62 (tgt := 3) (by decide) ?_
      first | exact ih (i + 1) (by omega) (hno (by unfold nrP; simp only [Bool.and_eq_true, Bool.not_eq_true', decide_eq_false_iff_not]; exact fun q => q.1 c18)) | exact ih (i + 1) (by omega) (hno (by unfold nrP; simp only [Bool.and_eq_true, Bool.not_eq_true', decide_eq_false_iff_not]; exact fun q => hbt.mp c32 ⟨by omega, q.2.1⟩)) | exact ih (i + 1) (by omega) (hno (by unfold nrP; simp only [Bool.and_eq_true, Bool.not_eq_true', decide_eq_false_iff_not]; exact fun q => absurd (of_decide_eq_true q.2.2) (Int32.not_le.mpr c54)))
    · refine V.aload_n dX1_isNear_21 rfl (i := 0) rfl ?_
      refine V.getR dX1_isNear_22 rfl flRX1_16 rfl ⟨by decide, by decide⟩ ?_
      refine V.iload_n dX1_isNear_25 rfl (i := 1) rfl ?_
      refine V.ialdN dX1_isNear_26 rfl ⟨by decide, by decide⟩ (by first | assumption | decide | omega) (by decide) ?_
      refine V.top (x' := (bI (fun x => hp x e) n)) ((hH.1 e he)) ?_
      refine V.iload dX1_isNear_27 rfl ?_
      refine V.ishr dX1_isNear_29 ?_
      refine V.iconst dX1_isNear_30 (v := 1) (by decide) ?_
      refine V.iand dX1_isNear_31 ?_
      refine V.if_eq (tgt := 59) dX1_isNear_32 (by decide) (fun c32 => ?_) (fun c32 => ?_)
      · refine V.iinc dX1_isNear_59 rfl (v := (nI (i + 1))) (nI_1 _) (by decide) (fun _ h => by cases h; exact Or.inl rfl) rfl ?_
        refine V.goto dX1_isNear_62 (tgt := 3) (by decide) ?_
        first | exact ih (i + 1) (by omega) (hno (by unfold nrP; simp only [Bool.and_eq_true, Bool.not_eq_true', decide_eq_false_iff_not]; exact fun q => q.1 c18)) | exact ih (i + 1) (by omega) (hno (by unfold nrP; simp only [Bool.and_eq_true, Bool.not_eq_true', decide_eq_false_iff_not]; exact fun q => hbt.mp c32 ⟨by omega, q.2.1⟩)) | exact ih (i + 1) (by omega) (hno (by unfold nrP; simp only [Bool.and_eq_true, Bool.not_eq_true', decide_eq_false_iff_not]; exact fun q => absurd (of_decide_eq_true q.2.2) (Int32.not_le.mpr c54)))
      · refine V.aload_n dX1_isNear_35 rfl (i := 0) rfl ?_
        refine V.iload dX1_isNear_36 rfl ?_
        refine V.iload_n dX1_isNear_38 rfl (i := 1) rfl ?_
        refine V.invv (z := mX1_secondOf) (As := [_, _]) dX1_isNear_39 rfl mlRX1_88 okX1_secondOf npX1_secondOf rfl rfl rfl ⟨by decide, by decide⟩ (Nat.le_of_ble_eq_true rfl) rfl (Nat.le_of_ble_eq_true rfl) (c_secondOf  (by first | assumption | decide | omega) (by first | assumption | decide | omega) ?_)
        show V cS g (d + 1) mX1_isNear 42 [some (.ref 4), some (.int (nI e)), some (.int s), some (.int bt), some (.int (nI i))] [.int (M (30 + i) 4 + M (46 + i) e)] (M) Q
        refine V.top (x' := (M (30 + i) 4 + wy i e)) ((by rw [hH.2 i e (by omega) he (Classical.byContradiction fun z => c32 (hbt.mpr fun q => z q.2))])) ?_
        refine V.iload_n dX1_isNear_42 rfl (i := 2) rfl ?_
        refine V.isub dX1_isNear_43 ?_
        refine V.mabs dX1_isNear_44 rfl mlRX1_50 (Nat.le_of_ble_eq_true rfl) ?_
        refine V.aload_n dX1_isNear_47 rfl (i := 0) rfl ?_
        refine V.getR dX1_isNear_48 rfl flRX1_23 rfl ⟨by decide, by decide⟩ ?_
        refine V.getI dX1_isNear_51 rfl flRX1_56 rfl ⟨by decide, by decide⟩ ?_
        refine V.ic_gt (tgt := 59) dX1_isNear_54 (by decide) (fun c54 => ?_) (fun c54 => ?_)
        · refine V.iinc dX1_isNear_59 rfl (v := (nI (i + 1))) (nI_1 _) (by decide) (fun _ h => by cases h; exact Or.inl rfl) rfl ?_
          refine V.goto dX1_isNear_62 (tgt := 3) (by decide) ?_
          first | exact ih (i + 1) (by omega) (hno (by unfold nrP; simp only [Bool.and_eq_true, Bool.not_eq_true', decide_eq_false_iff_not]; exact fun q => q.1 c18)) | exact ih (i + 1) (by omega) (hno (by unfold nrP; simp only [Bool.and_eq_true, Bool.not_eq_true', decide_eq_false_iff_not]; exact fun q => hbt.mp c32 ⟨by omega, q.2.1⟩)) | exact ih (i + 1) (by omega) (hno (by unfold nrP; simp only [Bool.and_eq_true, Bool.not_eq_true', decide_eq_false_iff_not]; exact fun q => absurd (of_decide_eq_true q.2.2) (Int32.not_le.mpr c54)))
        · refine V.iconst dX1_isNear_57 (v := 1) (by decide) ?_
          exact V.zret dX1_isNear_58 rfl (by first | exact Or.inl rfl | exact Or.inr rfl | assumption | exact b2i_zo _ | (repeat' split) <;> first | exact Or.inl rfl | exact Or.inr rfl | assumption | exact b2i_zo _) (Qi hQ (by rw [b2i_t (anB_iff.mpr ⟨i, by omega, by unfold nrP; simp only [Bool.and_eq_true, Bool.not_eq_true', decide_eq_false_iff_not]; exact ⟨c18, Classical.byContradiction fun z => c32 (hbt.mpr fun q => z q.2), decide_eq_true (Int32.not_lt.mp c54)⟩⟩)]))
set_option maxHeartbeats 4000000 in
set_option maxRecDepth 100000 in
theorem c_near {g : GG} {d : Nat} {M : Mem} {Q : Option Value → Mem → Prop} {e : Nat} {s bt : Int32} {hp : Nat → Nat → Bool} {wy : Nat → Nat → Int32} {n ne : Nat} (hN : cnts M n ne) (hH : Hd M hp wy n ne) (he : e < ne) (hQ : Q (some (.int (b2i (anB (nrP hp wy (M 1 6) (fun b => M (30 + b) 4) e s bt) n = true)))) M) : V cS g (d + 1) mX1_isNear 0 [some (.ref 4), some (.int (nI e)), some (.int s), some (.int bt), none] [] M Q := by
  refine V.iconst dX1_isNear_0 (v := 0) (by decide) ?_
  refine V.istore dX1_isNear_1 (i := 4) (by decide) (fun _ h => by cases h; exact Or.inl rfl) rfl ?_
  exact l_near hN hH he hQ n 0 (by omega) rfl
theorem addH_no {M : Mem} {h : Nat} {c : Int32} {p q : Nat → Bool} (hn : ¬ (p h = true ∧ q h = true)) : um M 54 (fun i => if h + 1 ≤ i ∧ i < 24 ∧ p i = true ∧ q i = true then M 54 i + c else M 54 i) = um M 54 (fun i => if h ≤ i ∧ i < 24 ∧ p i = true ∧ q i = true then M 54 i + c else M 54 i) := by
  congr 1
  funext i
  by_cases e : i = h
  · subst e
    rw [if_neg (by omega), if_neg (fun z => hn ⟨z.2.2.1, z.2.2.2⟩)]
  · by_cases l : h + 1 ≤ i
    · simp [l, show h ≤ i by omega]
    · simp [l, show ¬ h ≤ i by omega]
theorem addH_yes {M : Mem} {h : Nat} {c : Int32} {p q : Nat → Bool} (h24 : h < 24) (hy : p h = true ∧ q h = true) : um (put M 54 h (M 54 h + c)) 54 (fun i => if h + 1 ≤ i ∧ i < 24 ∧ p i = true ∧ q i = true then put M 54 h (M 54 h + c) 54 i + c else put M 54 h (M 54 h + c) 54 i) = um M 54 (fun i => if h ≤ i ∧ i < 24 ∧ p i = true ∧ q i = true then M 54 i + c else M 54 i) := by
  funext x i
  unfold um put
  by_cases hx : x = 54
  · subst hx
    by_cases e : i = h
    · subst e
      simp [h24, hy.1, hy.2]
      intro z
      omega
    · by_cases l : h + 1 ≤ i
      · simp [l, e, show h ≤ i by omega]
      · simp [l, e, show ¬ h ≤ i by omega]
  · simp [hx]
set_option maxHeartbeats 4000000 in
set_option maxRecDepth 100000 in
theorem l_addH {g : GG} {d : Nat} {Q : Option Value → Mem → Prop} {M0 : Mem} {a b : Nat} {c : Int32} (ha : a < 8) (hb : b < 8) (hc : 0 < c) : ∀ (k h : Nat) (M : Mem), h + k = 24 → (∀ x, x < 8 → M (30 + x) = M0 (30 + x)) → Q none (um M 54 (fun i => if h ≤ i ∧ i < 24 ∧ strk (M0 (30 + a) 0) (M0 (30 + a) 1) (M0 (30 + a) 6) (nI i) = true ∧ strk (M0 (30 + b) 0) (M0 (30 + b) 1) (M0 (30 + b) 6) (nI i) = true then M 54 i + c else M 54 i)) → V cS g (d + 1) mX1_addHourly 3 [some (.ref 4), some (.int (nI a)), some (.int (nI b)), some (.int c), some (.int (nI h))] [] M Q := by
  intro k
  induction k with
  | zero =>
    intro h M hk he hQ
    obtain rfl : h = 24 := by omega
    refine V.iload dX1_addHourly_3 rfl ?_
    refine V.bipush dX1_addHourly_5 (v := 24) (by decide) ?_
    refine V.ic_ge (tgt := 65) dX1_addHourly_7 (by decide) (fun c7 => ?_) (fun q => absurd ((by decide)) q)
    exact V.vret dX1_addHourly_65 rfl (Qm hQ (by funext x i; unfold um; by_cases hx : x = 54 <;> simp [hx]; intro h1 h2; omega))
  | succ k ih =>
    intro h M hk he hQ
    have hh24 : h < 24 := by omega
    refine V.iload dX1_addHourly_3 rfl ?_
    refine V.bipush dX1_addHourly_5 (v := 24) (by decide) ?_
    refine V.ic_ge (tgt := 65) dX1_addHourly_7 (by decide) (fun q => absurd q ((nI_ge (a := h) (b := 24) (by omega) (by omega)))) (fun c7 => ?_)
    refine V.iload_n dX1_addHourly_10 rfl (i := 3) rfl ?_
    refine V.if_le (tgt := 65) dX1_addHourly_11 (by decide) (fun q => absurd q ((Int32.not_le.mpr hc))) (fun c11 => ?_)
    refine V.aload_n dX1_addHourly_14 rfl (i := 0) rfl ?_
    refine V.getR dX1_addHourly_15 rfl flRX1_23 rfl ⟨by decide, by decide⟩ ?_
    refine V.getR dX1_addHourly_18 rfl flRX1_33 rfl ⟨by decide, by decide⟩ ?_
    refine V.iload_n dX1_addHourly_21 rfl (i := 1) rfl ?_
    refine V.aaldBN dX1_addHourly_22 rfl ⟨by decide, by decide⟩ (by first | assumption | decide | omega) (by decide) ?_
    refine V.iload dX1_addHourly_23 rfl ?_
    refine V.invv (z := mX0_ringsAt) (As := [_]) dX1_addHourly_25 rfl mlRX1_37 okX0_ringsAt npX0_ringsAt rfl (layO30 (by first | assumption | decide | omega)) rfl (inB30 (by first | assumption | decide | omega)) (Nat.le_of_ble_eq_true rfl) rfl (Nat.le_of_ble_eq_true rfl) (c_ringsAt  (by first | assumption | decide | omega) ?_)
    show V cS g (d + 1) mX1_addHourly 28 [some (.ref 4), some (.int (nI a)), some (.int (nI b)), some (.int c), some (.int (nI h))] [.int (b2i (strk (M (30 + a) 0) (M (30 + a) 1) (M (30 + a) 6) (nI h) = true))] (M) Q
    refine V.top (x' := (b2i (strk (M0 (30 + a) 0) (M0 (30 + a) 1) (M0 (30 + a) 6) (nI h) = true))) ((by rw [he a ha])) ?_
    refine V.if_eq (tgt := 59) dX1_addHourly_28 (by decide) (fun c28 => ?_) (fun c28 => ?_)
    · refine V.iinc dX1_addHourly_59 rfl (v := (nI (h + 1))) (nI_1 _) (by decide) (fun _ h => by cases h; exact Or.inl rfl) rfl ?_
      refine V.goto dX1_addHourly_62 (tgt := 3) (by decide) ?_
      first | exact ih (h + 1) M (by omega) he (Qm hQ (addH_no (fun q => b2i_0.mp c28 q.1))) | exact ih (h + 1) M (by omega) he (Qm hQ (addH_no (fun q => b2i_0.mp c45 q.2))) | exact ih (h + 1) _ (by omega) (fun x hx => by rw [put_cell (by omega)]; exact he x hx) (Qm hQ (addH_yes hh24 ⟨Classical.byContradiction fun z => c28 (b2i_f z), Classical.byContradiction fun z => c45 (b2i_f z)⟩))
    · refine V.aload_n dX1_addHourly_31 rfl (i := 0) rfl ?_
      refine V.getR dX1_addHourly_32 rfl flRX1_23 rfl ⟨by decide, by decide⟩ ?_
      refine V.getR dX1_addHourly_35 rfl flRX1_33 rfl ⟨by decide, by decide⟩ ?_
      refine V.iload_n dX1_addHourly_38 rfl (i := 2) rfl ?_
      refine V.aaldBN dX1_addHourly_39 rfl ⟨by decide, by decide⟩ (by first | assumption | decide | omega) (by decide) ?_
      refine V.iload dX1_addHourly_40 rfl ?_
      refine V.invv (z := mX0_ringsAt) (As := [_]) dX1_addHourly_42 rfl mlRX1_37 okX0_ringsAt npX0_ringsAt rfl (layO30 (by first | assumption | decide | omega)) rfl (inB30 (by first | assumption | decide | omega)) (Nat.le_of_ble_eq_true rfl) rfl (Nat.le_of_ble_eq_true rfl) (c_ringsAt  (by first | assumption | decide | omega) ?_)
      show V cS g (d + 1) mX1_addHourly 45 [some (.ref 4), some (.int (nI a)), some (.int (nI b)), some (.int c), some (.int (nI h))] [.int (b2i (strk ((M) (30 + b) 0) ((M) (30 + b) 1) ((M) (30 + b) 6) (nI h) = true))] ((M)) Q
      refine V.top (x' := (b2i (strk (M0 (30 + b) 0) (M0 (30 + b) 1) (M0 (30 + b) 6) (nI h) = true))) ((by rw [he b hb])) ?_
      refine V.if_eq (tgt := 59) dX1_addHourly_45 (by decide) (fun c45 => ?_) (fun c45 => ?_)
      · refine V.iinc dX1_addHourly_59 rfl (v := (nI (h + 1))) (nI_1 _) (by decide) (fun _ h => by cases h; exact Or.inl rfl) rfl ?_
        refine V.goto dX1_addHourly_62 (tgt := 3) (by decide) ?_
        first | exact ih (h + 1) M (by omega) he (Qm hQ (addH_no (fun q => b2i_0.mp c28 q.1))) | exact ih (h + 1) M (by omega) he (Qm hQ (addH_no (fun q => b2i_0.mp c45 q.2))) | exact ih (h + 1) _ (by omega) (fun x hx => by rw [put_cell (by omega)]; exact he x hx) (Qm hQ (addH_yes hh24 ⟨Classical.byContradiction fun z => c28 (b2i_f z), Classical.byContradiction fun z => c45 (b2i_f z)⟩))
      · refine V.aload_n dX1_addHourly_48 rfl (i := 0) rfl ?_
        refine V.getR dX1_addHourly_49 rfl flRX1_20 rfl ⟨by decide, by decide⟩ ?_
        refine V.iload dX1_addHourly_52 rfl ?_
        refine V.dup2 dX1_addHourly_54 rfl rfl ?_
        refine V.ialdN dX1_addHourly_55 rfl ⟨by decide, by decide⟩ (by first | assumption | decide | omega) (by decide) ?_
        refine V.iload_n dX1_addHourly_56 rfl (i := 3) rfl ?_
        refine V.iadd dX1_addHourly_57 ?_
        refine V.iastN dX1_addHourly_58 rfl ⟨by decide, by decide⟩ (by first | assumption | decide | omega) (by decide) ?_
        refine V.iinc dX1_addHourly_59 rfl (v := (nI (h + 1))) (nI_1 _) (by decide) (fun _ h => by cases h; exact Or.inl rfl) rfl ?_
        refine V.goto dX1_addHourly_62 (tgt := 3) (by decide) ?_
        first | exact ih (h + 1) M (by omega) he (Qm hQ (addH_no (fun q => b2i_0.mp c28 q.1))) | exact ih (h + 1) M (by omega) he (Qm hQ (addH_no (fun q => b2i_0.mp c45 q.2))) | exact ih (h + 1) _ (by omega) (fun x hx => by rw [put_cell (by omega)]; exact he x hx) (Qm hQ (addH_yes hh24 ⟨Classical.byContradiction fun z => c28 (b2i_f z), Classical.byContradiction fun z => c45 (b2i_f z)⟩))
set_option maxHeartbeats 4000000 in
set_option maxRecDepth 100000 in
theorem c_addH {g : GG} {d : Nat} {M : Mem} {Q : Option Value → Mem → Prop} {a b : Nat} {c : Int32} (ha : a < 8) (hb : b < 8) (hQ : Q none (um M 54 (fun i => if i < 24 ∧ strk (M (30 + a) 0) (M (30 + a) 1) (M (30 + a) 6) (nI i) = true ∧ strk (M (30 + b) 0) (M (30 + b) 1) (M (30 + b) 6) (nI i) = true ∧ 0 < c then M 54 i + c else M 54 i))) : V cS g (d + 1) mX1_addHourly 0 [some (.ref 4), some (.int (nI a)), some (.int (nI b)), some (.int c), none] [] M Q := by
  by_cases hc : 0 < c
  · skip
    refine V.iconst dX1_addHourly_0 (v := 0) (by decide) ?_
    refine V.istore dX1_addHourly_1 (i := 4) (by decide) (fun _ h => by cases h; exact Or.inl rfl) rfl ?_
    exact l_addH (M0 := M) ha hb hc 24 0 M (by omega) (fun _ _ => rfl) (Qm hQ (by congr 1; funext i; simp [hc]))
  · skip
    refine V.iconst dX1_addHourly_0 (v := 0) (by decide) ?_
    refine V.istore dX1_addHourly_1 (i := 4) (by decide) (fun _ h => by cases h; exact Or.inl rfl) rfl ?_
    refine V.iload dX1_addHourly_3 rfl ?_
    refine V.bipush dX1_addHourly_5 (v := 24) (by decide) ?_
    refine V.ic_ge (tgt := 65) dX1_addHourly_7 (by decide) (fun q => absurd q ((by decide))) (fun c7 => ?_)
    refine V.iload_n dX1_addHourly_10 rfl (i := 3) rfl ?_
    refine V.if_le (tgt := 65) dX1_addHourly_11 (by decide) (fun c11 => ?_) (fun q => absurd ((Int32.not_lt.mp hc)) q)
    exact V.vret dX1_addHourly_65 rfl (Qm hQ (by funext x i; unfold um; by_cases hx : x = 54 <;> simp [hx, hc]))

