/-! ===== the reference: the slates themselves ===== -/
set_option maxHeartbeats 4000000 in
set_option maxRecDepth 100000 in
theorem l_fl1 {g : GG} {d : Nat} {Q : Option Value → Mem → Prop} {n m : Nat} {od : Nat → Nat} {G : Nat → Nat → Int32} {bd : Int32} {M0 : Mem} (hO : OdX M0 od m n) (hA : ApX M0 G od m) {gd : Int32} {j : Nat} (hj : j < m) (hc : ∀ M', eqx [93] M0 M' → (∀ i, i < j → M' 93 i = loT (geR G) G (offR M0) od bd j i) → M' 93 j = loS (geR G) G (offR M0) od bd (loT (geR G) G (offR M0) od bd j) j j → V rS g (d + 1) mX10_findSlates 113 [some (.ref 83), some (.int bd), some (.int gd), some (.int (nI j)), none, none] [] M' Q) : ∀ (k i : Nat) (M : Mem) (l5 : Option Value), i + k = j → eqx [93] M0 M → (∀ i', i' < j → M 93 i' = loT (geR G) G (offR M0) od bd j i') → M 93 j = loS (geR G) G (offR M0) od bd (loT (geR G) G (offR M0) od bd j) j i → V rS g (d + 1) mX10_findSlates 34 [some (.ref 83), some (.int bd), some (.int gd), some (.int (nI j)), some (.int (nI i)), l5] [] M Q := by
  intro k
  induction k with
  | zero =>
    intro i M l5 hk he h1 h2
    obtain rfl : i = j := by omega
    refine V.fg (ls' := [some (.ref 83), some (.int bd), some (.int gd), some (.int (nI i)), some (.int (nI i)), none]) ⟨rfl, rfl, rfl, rfl, rfl, trivial⟩ ?_
    refine V.iload dX10_findSlates_34 rfl ?_
    refine V.iload_n dX10_findSlates_36 rfl (i := 3) rfl ?_
    refine V.ic_ge (tgt := 113) dX10_findSlates_37 (by decide) (fun c37 => ?_) (fun q => absurd ((Int32.le_refl _)) q)
    exact V.fg (ls' := [some (.ref 83), some (.int bd), some (.int gd), some (.int (nI i)), none, none]) ⟨rfl, rfl, rfl, rfl, trivial⟩ (hc M he h1 h2)
  | succ k ih =>
    intro i M l5 hk he h1 h2
    obtain ⟨o1, o2, o3, o4, o5⟩ := hO
    have e84 : M 84 = M0 84 := he 84 (by decide)
    have e91 : M 91 = M0 91 := he 91 (by decide)
    have e92 : M 92 = M0 92 := he 92 (by decide)
    have e83 : M 83 = M0 83 := he 83 (by decide)
    have hi8 : i < 8 := by omega
    have hj8 : j < 8 := by omega
    have hix : 8 * i + j < 64 := by omega
    have hap : M 92 (8 * i + j) = G (od i) (od j) := by rw [e92]; exact hA i j (by omega) hj
    refine V.fg (ls' := [some (.ref 83), some (.int bd), some (.int gd), some (.int (nI j)), some (.int (nI i)), none]) ⟨rfl, rfl, rfl, rfl, rfl, trivial⟩ ?_
    refine V.iload dX10_findSlates_34 rfl ?_
    refine V.iload_n dX10_findSlates_36 rfl (i := 3) rfl ?_
    refine V.ic_ge (tgt := 113) dX10_findSlates_37 (by decide) (fun q => absurd q ((nI_ge (a := i) (b := j) (by omega) (by omega)))) (fun c37 => ?_)
    refine V.aload_n dX10_findSlates_40 rfl (i := 0) rfl ?_
    refine V.getR dX10_findSlates_41 rfl flRX10_38 rfl ⟨by decide, by decide⟩ ?_
    refine V.iload dX10_findSlates_44 rfl ?_
    refine V.ialdN dX10_findSlates_46 rfl ⟨by decide, by decide⟩ (by first | assumption | decide | omega) (by decide) ?_
    refine V.top (x' := (loT (geR G) G (offR M0) od bd j i)) ((h1 i (by omega))) ?_
    refine V.aload_n dX10_findSlates_47 rfl (i := 0) rfl ?_
    refine V.getR dX10_findSlates_48 rfl flRX10_35 rfl ⟨by decide, by decide⟩ ?_
    refine V.bipush dX10_findSlates_51 (v := 8) (by decide) ?_
    refine V.iload dX10_findSlates_53 rfl ?_
    refine V.imul dX10_findSlates_55 ?_
    refine V.top (x' := (nI (8 * i))) (pk_mul 8 i) ?_
    refine V.iload_n dX10_findSlates_56 rfl (i := 3) rfl ?_
    refine V.iadd dX10_findSlates_57 ?_
    refine V.top (x' := (nI ((8 * i) + j))) (nI_add (8 * i) j) ?_
    refine V.ialdN dX10_findSlates_58 rfl ⟨by decide, by decide⟩ (by first | assumption | decide | omega) (by decide) ?_
    refine V.top (x' := (G (od i) (od j))) (hap) ?_
    refine V.iadd dX10_findSlates_59 ?_
    refine V.istore dX10_findSlates_60 (i := 5) (by decide) (fun _ h => by cases h; exact Or.inl rfl) rfl ?_
    refine V.aload_n dX10_findSlates_62 rfl (i := 0) rfl ?_
    refine V.getR dX10_findSlates_63 rfl flRX10_38 rfl ⟨by decide, by decide⟩ ?_
    refine V.iload_n dX10_findSlates_66 rfl (i := 3) rfl ?_
    refine V.aload_n dX10_findSlates_67 rfl (i := 0) rfl ?_
    refine V.getR dX10_findSlates_68 rfl flRX10_35 rfl ⟨by decide, by decide⟩ ?_
    refine V.bipush dX10_findSlates_71 (v := 8) (by decide) ?_
    refine V.iload dX10_findSlates_73 rfl ?_
    refine V.imul dX10_findSlates_75 ?_
    refine V.top (x' := (nI (8 * i))) (pk_mul 8 i) ?_
    refine V.iload_n dX10_findSlates_76 rfl (i := 3) rfl ?_
    refine V.iadd dX10_findSlates_77 ?_
    refine V.top (x' := (nI ((8 * i) + j))) (nI_add (8 * i) j) ?_
    refine V.ialdN dX10_findSlates_78 rfl ⟨by decide, by decide⟩ (by first | assumption | decide | omega) (by decide) ?_
    refine V.top (x' := (G (od i) (od j))) (hap) ?_
    refine V.ldc dX10_findSlates_79 rfl ctRX10_65 ?_
    refine V.ic_le (tgt := 100) dX10_findSlates_81 (by decide) (fun c81 => ?_) (fun c81 => ?_)
    · refine V.aload_n dX10_findSlates_100 rfl (i := 0) rfl ?_
      refine V.getR dX10_findSlates_101 rfl flRX10_38 rfl ⟨by decide, by decide⟩ ?_
      refine V.iload_n dX10_findSlates_104 rfl (i := 3) rfl ?_
      refine V.ialdN dX10_findSlates_105 rfl ⟨by decide, by decide⟩ (by first | assumption | decide | omega) (by decide) ?_
      refine V.top (x' := (loS (geR G) G (offR M0) od bd (loT (geR G) G (offR M0) od bd j) j (i + 1))) ((by first | (rw [loS, if_neg (show ¬ geR G (od i) (od j) = true from fun z => absurd (of_decide_eq_true z) (Int32.not_lt.mpr c81))]; exact h2) | (rw [loS, if_pos (show geR G (od i) (od j) = true from decide_eq_true (Int32.not_le.mp c81)), if_neg (Int32.not_lt.mpr c92)]; exact h2) | (rw [loS, if_pos (show geR G (od i) (od j) = true from decide_eq_true (Int32.not_le.mp c81)), if_pos (Int32.not_le.mp c92)]))) ?_
      refine V.iastN dX10_findSlates_106 rfl ⟨by decide, by decide⟩ (by first | assumption | decide | omega) (by decide) ?_
      refine V.iinc dX10_findSlates_107 rfl (v := (nI (i + 1))) (nI_1 _) (by decide) (fun _ h => by cases h; exact Or.inl rfl) rfl ?_
      refine V.goto dX10_findSlates_110 (tgt := 34) (by decide) ?_
      exact ih (i + 1) _ _ (by omega) (he.put (by decide)) (fun i' hi' => by rw [put_n (fun z => by omega)]; exact h1 i' hi') put_s
    · refine V.iload dX10_findSlates_84 rfl ?_
      refine V.aload_n dX10_findSlates_86 rfl (i := 0) rfl ?_
      refine V.getR dX10_findSlates_87 rfl flRX10_38 rfl ⟨by decide, by decide⟩ ?_
      refine V.iload_n dX10_findSlates_90 rfl (i := 3) rfl ?_
      refine V.ialdN dX10_findSlates_91 rfl ⟨by decide, by decide⟩ (by first | assumption | decide | omega) (by decide) ?_
      refine V.top (x' := (loS (geR G) G (offR M0) od bd (loT (geR G) G (offR M0) od bd j) j i)) (h2) ?_
      refine V.ic_le (tgt := 100) dX10_findSlates_92 (by decide) (fun c92 => ?_) (fun c92 => ?_)
      · refine V.aload_n dX10_findSlates_100 rfl (i := 0) rfl ?_
        refine V.getR dX10_findSlates_101 rfl flRX10_38 rfl ⟨by decide, by decide⟩ ?_
        refine V.iload_n dX10_findSlates_104 rfl (i := 3) rfl ?_
        refine V.ialdN dX10_findSlates_105 rfl ⟨by decide, by decide⟩ (by first | assumption | decide | omega) (by decide) ?_
        refine V.top (x' := (loS (geR G) G (offR M0) od bd (loT (geR G) G (offR M0) od bd j) j (i + 1))) ((by first | (rw [loS, if_neg (show ¬ geR G (od i) (od j) = true from fun z => absurd (of_decide_eq_true z) (Int32.not_lt.mpr c81))]; exact h2) | (rw [loS, if_pos (show geR G (od i) (od j) = true from decide_eq_true (Int32.not_le.mp c81)), if_neg (Int32.not_lt.mpr c92)]; exact h2) | (rw [loS, if_pos (show geR G (od i) (od j) = true from decide_eq_true (Int32.not_le.mp c81)), if_pos (Int32.not_le.mp c92)]))) ?_
        refine V.iastN dX10_findSlates_106 rfl ⟨by decide, by decide⟩ (by first | assumption | decide | omega) (by decide) ?_
        refine V.iinc dX10_findSlates_107 rfl (v := (nI (i + 1))) (nI_1 _) (by decide) (fun _ h => by cases h; exact Or.inl rfl) rfl ?_
        refine V.goto dX10_findSlates_110 (tgt := 34) (by decide) ?_
        exact ih (i + 1) _ _ (by omega) (he.put (by decide)) (fun i' hi' => by rw [put_n (fun z => by omega)]; exact h1 i' hi') put_s
      · refine V.iload dX10_findSlates_95 rfl ?_
        refine V.goto dX10_findSlates_97 (tgt := 106) (by decide) ?_
        refine V.top (x' := (loS (geR G) G (offR M0) od bd (loT (geR G) G (offR M0) od bd j) j (i + 1))) ((by first | (rw [loS, if_neg (show ¬ geR G (od i) (od j) = true from fun z => absurd (of_decide_eq_true z) (Int32.not_lt.mpr c81))]; exact h2) | (rw [loS, if_pos (show geR G (od i) (od j) = true from decide_eq_true (Int32.not_le.mp c81)), if_neg (Int32.not_lt.mpr c92)]; exact h2) | (rw [loS, if_pos (show geR G (od i) (od j) = true from decide_eq_true (Int32.not_le.mp c81)), if_pos (Int32.not_le.mp c92)]))) ?_
        refine V.iastN dX10_findSlates_106 rfl ⟨by decide, by decide⟩ (by first | assumption | decide | omega) (by decide) ?_
        refine V.iinc dX10_findSlates_107 rfl (v := (nI (i + 1))) (nI_1 _) (by decide) (fun _ h => by cases h; exact Or.inl rfl) rfl ?_
        refine V.goto dX10_findSlates_110 (tgt := 34) (by decide) ?_
        exact ih (i + 1) _ _ (by omega) (he.put (by decide)) (fun i' hi' => by rw [put_n (fun z => by omega)]; exact h1 i' hi') put_s
set_option maxHeartbeats 4000000 in
set_option maxRecDepth 100000 in
theorem l_fl {g : GG} {d : Nat} {Q : Option Value → Mem → Prop} {n m : Nat} {od : Nat → Nat} {G : Nat → Nat → Int32} {bd : Int32} {M0 : Mem} (hO : OdX M0 od m n) (hA : ApX M0 G od m) (hc : ∀ M', eqx [93] M0 M' → (∀ i, i < m → M' 93 i = loT (geR G) G (offR M0) od bd m i) → V rS g (d + 1) mX10_findSlates 151 [some (.ref 83), some (.int bd), some (.int (b2i (gdF (loT (geR G) G (offR M0) od bd m) (offR M0) od bd m = true))), none, none, none] [] M' Q) : ∀ (k j : Nat) (M : Mem) (l4 l5 : Option Value), j + k = m → eqx [93] M0 M → (∀ i, i < j → M 93 i = loT (geR G) G (offR M0) od bd j i) → V rS g (d + 1) mX10_findSlates 4 [some (.ref 83), some (.int bd), some (.int (b2i (gdF (loT (geR G) G (offR M0) od bd m) (offR M0) od bd j = true))), some (.int (nI j)), l4, l5] [] M Q := by
  have hst : ∀ j i, i < j → ∀ q, loT (geR G) G (offR M0) od bd (j + q) i = loT (geR G) G (offR M0) od bd j i := by
    intro j i hij q
    induction q with
    | zero => rfl
    | succ q ihq => rw [← Nat.add_assoc, loT_n (by omega)]; exact ihq
  intro k
  induction k with
  | zero =>
    intro j M l4 l5 hk he h1
    obtain rfl : j = m := by omega
    obtain ⟨o1, o2, o3, o4, o5⟩ := hO
    have e84 : M 84 = M0 84 := he 84 (by decide)
    have e91 : M 91 = M0 91 := he 91 (by decide)
    have e92 : M 92 = M0 92 := he 92 (by decide)
    have e83 : M 83 = M0 83 := he 83 (by decide)
    refine V.fg (ls' := [some (.ref 83), some (.int bd), some (.int (b2i (gdF (loT (geR G) G (offR M0) od bd j) (offR M0) od bd j = true))), some (.int (nI j)), none, none]) ⟨rfl, rfl, rfl, rfl, trivial⟩ ?_
    refine V.iload_n dX10_findSlates_4 rfl (i := 3) rfl ?_
    refine V.aload_n dX10_findSlates_5 rfl (i := 0) rfl ?_
    refine V.getI dX10_findSlates_6 rfl flRX10_255 rfl ⟨by decide, by decide⟩ ?_
    refine V.top (x' := (nI j)) ((by rw [e83]; exact o1)) ?_
    refine V.ic_ge (tgt := 151) dX10_findSlates_9 (by decide) (fun c9 => ?_) (fun q => absurd ((Int32.le_refl _)) q)
    exact V.fg (ls' := [some (.ref 83), some (.int bd), some (.int (b2i (gdF (loT (geR G) G (offR M0) od bd j) (offR M0) od bd j = true))), none, none, none]) ⟨rfl, rfl, rfl, trivial⟩ (hc M he h1)
  | succ k ih =>
    intro j M l4 l5 hk he h1
    have hO' := hO
    obtain ⟨o1, o2, o3, o4, o5⟩ := hO
    have e84 : M 84 = M0 84 := he 84 (by decide)
    have e91 : M 91 = M0 91 := he 91 (by decide)
    have e92 : M 92 = M0 92 := he 92 (by decide)
    have e83 : M 83 = M0 83 := he 83 (by decide)
    have hj8 : j < 8 := by omega
    have hoj := o4 j (by omega)
    have hod8 : od j ≤ 8 := by omega
    refine V.fg (ls' := [some (.ref 83), some (.int bd), some (.int (b2i (gdF (loT (geR G) G (offR M0) od bd m) (offR M0) od bd j = true))), some (.int (nI j)), none, none]) ⟨rfl, rfl, rfl, rfl, trivial⟩ ?_
    refine V.iload_n dX10_findSlates_4 rfl (i := 3) rfl ?_
    refine V.aload_n dX10_findSlates_5 rfl (i := 0) rfl ?_
    refine V.getI dX10_findSlates_6 rfl flRX10_255 rfl ⟨by decide, by decide⟩ ?_
    refine V.top (x' := (nI m)) ((by rw [e83]; exact o1)) ?_
    refine V.ic_ge (tgt := 151) dX10_findSlates_9 (by decide) (fun q => absurd q ((nI_ge (a := j) (b := m) (by omega) (by omega)))) (fun c9 => ?_)
    refine V.aload_n dX10_findSlates_12 rfl (i := 0) rfl ?_
    refine V.getR dX10_findSlates_13 rfl flRX10_38 rfl ⟨by decide, by decide⟩ ?_
    refine V.iload_n dX10_findSlates_16 rfl (i := 3) rfl ?_
    refine V.aload_n dX10_findSlates_17 rfl (i := 0) rfl ?_
    refine V.aload_n dX10_findSlates_18 rfl (i := 0) rfl ?_
    refine V.getR dX10_findSlates_19 rfl flRX10_32 rfl ⟨by decide, by decide⟩ ?_
    refine V.iload_n dX10_findSlates_22 rfl (i := 3) rfl ?_
    refine V.ialdN dX10_findSlates_23 rfl ⟨by decide, by decide⟩ (hj8) (by decide) ?_
    refine V.top (x' := (nI (od j))) ((by rw [e91]; exact hoj.1)) ?_
    refine V.iconst dX10_findSlates_24 (v := 4) (by decide) ?_
    refine V.invv (z := mX10_of) (As := [_, _]) dX10_findSlates_25 rfl mlRX10_175 okX10_of npX10_of rfl rfl rfl ⟨by decide, by decide⟩ (Nat.le_of_ble_eq_true rfl) rfl (Nat.le_of_ble_eq_true rfl) (c_of  (hod8) (by decide) ?_)
    show V rS g (d + 1) mX10_findSlates 28 [some (.ref 83), some (.int bd), some (.int (b2i (gdF (loT (geR G) G (offR M0) od bd m) (offR M0) od bd j = true))), some (.int (nI j)), none, none] [.int (M 84 (108 + 7 * (od j) + 4)), .int (nI j), .ref 93] (M) Q
    refine V.iload_n dX10_findSlates_28 rfl (i := 1) rfl ?_
    refine V.isub dX10_findSlates_29 ?_
    refine V.iastN dX10_findSlates_30 rfl ⟨by decide, by decide⟩ (by first | assumption | decide | omega) (by decide) ?_
    refine V.iconst dX10_findSlates_31 (v := 0) (by decide) ?_
    refine V.istore dX10_findSlates_32 (i := 4) (by decide) (fun _ h => by cases h; exact Or.inl rfl) rfl ?_
    refine l_fl1 (gd := b2i (gdF (loT (geR G) G (offR M0) od bd m) (offR M0) od bd j = true)) hO' hA (show j < m by omega) (fun M' he' h3 h4 => ?_) j 0 _ _ (by omega) (he.put (by decide)) (fun i' hi' => by rw [put_n (fun z => by omega)]; exact h1 i' hi') (by rw [put_s, loS, e84])
    have e84' : M' 84 = M0 84 := he' 84 (by decide)
    have e91' : M' 91 = M0 91 := he' 91 (by decide)
    have hlow : M' 93 j = loT (geR G) G (offR M0) od bd m j := by
      rw [h4, ← loT_s, ← hst (j + 1) j (by omega) (m - (j + 1)), show j + 1 + (m - (j + 1)) = m by omega]
    have hnext : ∀ i, i < j + 1 → M' 93 i = loT (geR G) G (offR M0) od bd (j + 1) i := by
      intro i hi
      by_cases hq : i = j
      · subst hq; rw [h4, loT_s]
      · rw [loT_n hq]; exact h3 i (by omega)
    have hgd : ∀ x : Int32, x = b2i (gdF (loT (geR G) G (offR M0) od bd m) (offR M0) od bd (j + 1) = true) → V rS g (d + 1) mX10_findSlates 144 [some (.ref 83), some (.int bd), some (.int (b2i (gdF (loT (geR G) G (offR M0) od bd m) (offR M0) od bd j = true))), some (.int (nI j)), none, none] [.int x] M' Q := by
      intro x hx
      subst hx
      refine V.istore_n dX10_findSlates_144 rfl (i := 2) (by decide) (fun _ h => by cases h; exact Or.inl rfl) rfl ?_
      refine V.iinc dX10_findSlates_145 rfl (v := (nI (j + 1))) (nI_1 _) (by decide) (fun _ h => by cases h; exact Or.inl rfl) rfl ?_
      refine V.goto dX10_findSlates_148 (tgt := 4) (by decide) ?_
      exact ih (j + 1) M' _ _ (by omega) he' hnext
    by_cases hg : gdF (loT (geR G) G (offR M0) od bd m) (offR M0) od bd j = true
    · by_cases hle : loT (geR G) G (offR M0) od bd m j ≤ (offR M0) (od j) + bd
      · skip
        refine V.iload_n dX10_findSlates_113 rfl (i := 2) rfl ?_
        refine V.if_eq (tgt := 143) dX10_findSlates_114 (by decide) (fun q => absurd q ((fun z => b2i_0.mp z hg))) (fun c114 => ?_)
        refine V.aload_n dX10_findSlates_117 rfl (i := 0) rfl ?_
        refine V.getR dX10_findSlates_118 rfl flRX10_38 rfl ⟨by decide, by decide⟩ ?_
        refine V.iload_n dX10_findSlates_121 rfl (i := 3) rfl ?_
        refine V.ialdN dX10_findSlates_122 rfl ⟨by decide, by decide⟩ (by first | assumption | decide | omega) (by decide) ?_
        refine V.top (x' := (loT (geR G) G (offR M0) od bd m j)) (hlow) ?_
        refine V.aload_n dX10_findSlates_123 rfl (i := 0) rfl ?_
        refine V.aload_n dX10_findSlates_124 rfl (i := 0) rfl ?_
        refine V.getR dX10_findSlates_125 rfl flRX10_32 rfl ⟨by decide, by decide⟩ ?_
        refine V.iload_n dX10_findSlates_128 rfl (i := 3) rfl ?_
        refine V.ialdN dX10_findSlates_129 rfl ⟨by decide, by decide⟩ (by first | assumption | decide | omega) (by decide) ?_
        refine V.top (x' := (nI (od j))) ((by rw [e91']; exact hoj.1)) ?_
        refine V.iconst dX10_findSlates_130 (v := 4) (by decide) ?_
        refine V.invv (z := mX10_of) (As := [_, _]) dX10_findSlates_131 rfl mlRX10_175 okX10_of npX10_of rfl rfl rfl ⟨by decide, by decide⟩ (Nat.le_of_ble_eq_true rfl) rfl (Nat.le_of_ble_eq_true rfl) (c_of  (hod8) (by decide) ?_)
        show V rS g (d + 1) mX10_findSlates 134 [some (.ref 83), some (.int bd), some (.int (b2i (gdF (loT (geR G) G (offR M0) od bd m) (offR M0) od bd j = true))), some (.int (nI j)), none, none] [.int ((M') 84 (108 + 7 * (od j) + 4)), .int (loT (geR G) G (offR M0) od bd m j)] ((M')) Q
        refine V.top (x' := ((offR M0) (od j))) ((by rw [e84'])) ?_
        refine V.iload_n dX10_findSlates_134 rfl (i := 1) rfl ?_
        refine V.iadd dX10_findSlates_135 ?_
        refine V.ic_gt (tgt := 143) dX10_findSlates_136 (by decide) (fun q => absurd q ((Int32.not_lt.mpr hle))) (fun c136 => ?_)
        refine V.iconst dX10_findSlates_139 (v := 1) (by decide) ?_
        refine V.goto dX10_findSlates_140 (tgt := 144) (by decide) ?_
        exact hgd _ (b2i_t (by rw [gdF, hg, decide_eq_true hle]; rfl)).symm
      · skip
        refine V.iload_n dX10_findSlates_113 rfl (i := 2) rfl ?_
        refine V.if_eq (tgt := 143) dX10_findSlates_114 (by decide) (fun q => absurd q ((fun z => b2i_0.mp z hg))) (fun c114 => ?_)
        refine V.aload_n dX10_findSlates_117 rfl (i := 0) rfl ?_
        refine V.getR dX10_findSlates_118 rfl flRX10_38 rfl ⟨by decide, by decide⟩ ?_
        refine V.iload_n dX10_findSlates_121 rfl (i := 3) rfl ?_
        refine V.ialdN dX10_findSlates_122 rfl ⟨by decide, by decide⟩ (by first | assumption | decide | omega) (by decide) ?_
        refine V.top (x' := (loT (geR G) G (offR M0) od bd m j)) (hlow) ?_
        refine V.aload_n dX10_findSlates_123 rfl (i := 0) rfl ?_
        refine V.aload_n dX10_findSlates_124 rfl (i := 0) rfl ?_
        refine V.getR dX10_findSlates_125 rfl flRX10_32 rfl ⟨by decide, by decide⟩ ?_
        refine V.iload_n dX10_findSlates_128 rfl (i := 3) rfl ?_
        refine V.ialdN dX10_findSlates_129 rfl ⟨by decide, by decide⟩ (by first | assumption | decide | omega) (by decide) ?_
        refine V.top (x' := (nI (od j))) ((by rw [e91']; exact hoj.1)) ?_
        refine V.iconst dX10_findSlates_130 (v := 4) (by decide) ?_
        refine V.invv (z := mX10_of) (As := [_, _]) dX10_findSlates_131 rfl mlRX10_175 okX10_of npX10_of rfl rfl rfl ⟨by decide, by decide⟩ (Nat.le_of_ble_eq_true rfl) rfl (Nat.le_of_ble_eq_true rfl) (c_of  (hod8) (by decide) ?_)
        show V rS g (d + 1) mX10_findSlates 134 [some (.ref 83), some (.int bd), some (.int (b2i (gdF (loT (geR G) G (offR M0) od bd m) (offR M0) od bd j = true))), some (.int (nI j)), none, none] [.int ((M') 84 (108 + 7 * (od j) + 4)), .int (loT (geR G) G (offR M0) od bd m j)] ((M')) Q
        refine V.top (x' := ((offR M0) (od j))) ((by rw [e84'])) ?_
        refine V.iload_n dX10_findSlates_134 rfl (i := 1) rfl ?_
        refine V.iadd dX10_findSlates_135 ?_
        refine V.ic_gt (tgt := 143) dX10_findSlates_136 (by decide) (fun c136 => ?_) (fun q => absurd ((Int32.not_le.mp hle)) q)
        refine V.iconst dX10_findSlates_143 (v := 0) (by decide) ?_
        exact hgd _ (b2i_f (by rw [gdF, hg, decide_eq_false hle]; exact Bool.false_ne_true)).symm
    · skip
      refine V.iload_n dX10_findSlates_113 rfl (i := 2) rfl ?_
      refine V.if_eq (tgt := 143) dX10_findSlates_114 (by decide) (fun c114 => ?_) (fun q => absurd ((b2i_f hg)) q)
      refine V.iconst dX10_findSlates_143 (v := 0) (by decide) ?_
      exact hgd _ (b2i_f (by rw [gdF, Bool.eq_false_iff.mpr hg]; exact Bool.false_ne_true)).symm
set_option maxHeartbeats 4000000 in
set_option maxRecDepth 100000 in
theorem l_fh1 {g : GG} {d : Nat} {Q : Option Value → Mem → Prop} {n m : Nat} {od : Nat → Nat} {G : Nat → Nat → Int32} {bd : Int32} {M0 : Mem} (hO : OdX M0 od m n) (hA : ApX M0 G od m) {gd : Int32} {j : Nat} (hj : j < m) {T : Nat → Int32} (hc : ∀ M', eqx [94] M0 M' → (∀ i, i < m → j < i → M' 94 i = T i) → M' 94 j = hiS (geR G) G (offR M0) od bd T j (m - 1 - j) → V rS g (d + 1) mX10_findSlates 268 [some (.ref 83), some (.int bd), some (.int gd), some (.int (nI j)), none, none] [] M' Q) : ∀ (k c : Nat) (M : Mem) (l5 : Option Value), j + 1 + c + k = m → eqx [94] M0 M → (∀ i, i < m → j < i → M 94 i = T i) → M 94 j = hiS (geR G) G (offR M0) od bd T j c → V rS g (d + 1) mX10_findSlates 186 [some (.ref 83), some (.int bd), some (.int gd), some (.int (nI j)), some (.int (nI (j + 1 + c))), l5] [] M Q := by
  intro k
  induction k with
  | zero =>
    intro c M l5 hk he h1 h2
    obtain ⟨o1, o2, o3, o4, o5⟩ := hO
    have e84 : M 84 = M0 84 := he 84 (by decide)
    have e91 : M 91 = M0 91 := he 91 (by decide)
    have e92 : M 92 = M0 92 := he 92 (by decide)
    have e83 : M 83 = M0 83 := he 83 (by decide)
    obtain rfl : m = j + 1 + c := by omega
    rw [show j + 1 + c - 1 - j = c by omega] at hc
    refine V.fg (ls' := [some (.ref 83), some (.int bd), some (.int gd), some (.int (nI j)), some (.int (nI (j + 1 + c))), none]) ⟨rfl, rfl, rfl, rfl, rfl, trivial⟩ ?_
    refine V.iload dX10_findSlates_186 rfl ?_
    refine V.aload_n dX10_findSlates_188 rfl (i := 0) rfl ?_
    refine V.getI dX10_findSlates_189 rfl flRX10_255 rfl ⟨by decide, by decide⟩ ?_
    refine V.top (x' := (nI (j + 1 + c))) ((by rw [e83]; exact o1)) ?_
    refine V.ic_ge (tgt := 268) dX10_findSlates_192 (by decide) (fun c192 => ?_) (fun q => absurd ((Int32.le_refl _)) q)
    exact V.fg (ls' := [some (.ref 83), some (.int bd), some (.int gd), some (.int (nI j)), none, none]) ⟨rfl, rfl, rfl, rfl, trivial⟩ (hc M he h1 h2)
  | succ k ih =>
    intro c M l5 hk he h1 h2
    obtain ⟨o1, o2, o3, o4, o5⟩ := hO
    have e84 : M 84 = M0 84 := he 84 (by decide)
    have e91 : M 91 = M0 91 := he 91 (by decide)
    have e92 : M 92 = M0 92 := he 92 (by decide)
    have e83 : M 83 = M0 83 := he 83 (by decide)
    have hi8 : j + 1 + c < 8 := by omega
    have hj8 : j < 8 := by omega
    have hix : 8 * j + (j + 1 + c) < 64 := by omega
    have hap : M 92 (8 * j + (j + 1 + c)) = G (od j) (od (j + 1 + c)) := by rw [e92]; exact hA j (j + 1 + c) (by omega) (by omega)
    refine V.fg (ls' := [some (.ref 83), some (.int bd), some (.int gd), some (.int (nI j)), some (.int (nI (j + 1 + c))), none]) ⟨rfl, rfl, rfl, rfl, rfl, trivial⟩ ?_
    refine V.iload dX10_findSlates_186 rfl ?_
    refine V.aload_n dX10_findSlates_188 rfl (i := 0) rfl ?_
    refine V.getI dX10_findSlates_189 rfl flRX10_255 rfl ⟨by decide, by decide⟩ ?_
    refine V.top (x' := (nI m)) ((by rw [e83]; exact o1)) ?_
    refine V.ic_ge (tgt := 268) dX10_findSlates_192 (by decide) (fun q => absurd q ((nI_ge (a := (j + 1 + c)) (b := m) (by omega) (by omega)))) (fun c192 => ?_)
    refine V.aload_n dX10_findSlates_195 rfl (i := 0) rfl ?_
    refine V.getR dX10_findSlates_196 rfl flRX10_41 rfl ⟨by decide, by decide⟩ ?_
    refine V.iload dX10_findSlates_199 rfl ?_
    refine V.ialdN dX10_findSlates_201 rfl ⟨by decide, by decide⟩ (by first | assumption | decide | omega) (by decide) ?_
    refine V.top (x' := (T (j + 1 + c))) ((h1 (j + 1 + c) (by omega) (by omega))) ?_
    refine V.aload_n dX10_findSlates_202 rfl (i := 0) rfl ?_
    refine V.getR dX10_findSlates_203 rfl flRX10_35 rfl ⟨by decide, by decide⟩ ?_
    refine V.bipush dX10_findSlates_206 (v := 8) (by decide) ?_
    refine V.iload_n dX10_findSlates_208 rfl (i := 3) rfl ?_
    refine V.imul dX10_findSlates_209 ?_
    refine V.top (x' := (nI (8 * j))) (pk_mul 8 j) ?_
    refine V.iload dX10_findSlates_210 rfl ?_
    refine V.iadd dX10_findSlates_212 ?_
    refine V.top (x' := (nI ((8 * j) + (j + 1 + c)))) (nI_add (8 * j) (j + 1 + c)) ?_
    refine V.ialdN dX10_findSlates_213 rfl ⟨by decide, by decide⟩ (by first | assumption | decide | omega) (by decide) ?_
    refine V.top (x' := (G (od j) (od (j + 1 + c)))) (hap) ?_
    refine V.isub dX10_findSlates_214 ?_
    refine V.istore dX10_findSlates_215 (i := 5) (by decide) (fun _ h => by cases h; exact Or.inl rfl) rfl ?_
    refine V.aload_n dX10_findSlates_217 rfl (i := 0) rfl ?_
    refine V.getR dX10_findSlates_218 rfl flRX10_41 rfl ⟨by decide, by decide⟩ ?_
    refine V.iload_n dX10_findSlates_221 rfl (i := 3) rfl ?_
    refine V.aload_n dX10_findSlates_222 rfl (i := 0) rfl ?_
    refine V.getR dX10_findSlates_223 rfl flRX10_35 rfl ⟨by decide, by decide⟩ ?_
    refine V.bipush dX10_findSlates_226 (v := 8) (by decide) ?_
    refine V.iload_n dX10_findSlates_228 rfl (i := 3) rfl ?_
    refine V.imul dX10_findSlates_229 ?_
    refine V.top (x' := (nI (8 * j))) (pk_mul 8 j) ?_
    refine V.iload dX10_findSlates_230 rfl ?_
    refine V.iadd dX10_findSlates_232 ?_
    refine V.top (x' := (nI ((8 * j) + (j + 1 + c)))) (nI_add (8 * j) (j + 1 + c)) ?_
    refine V.ialdN dX10_findSlates_233 rfl ⟨by decide, by decide⟩ (by first | assumption | decide | omega) (by decide) ?_
    refine V.top (x' := (G (od j) (od (j + 1 + c)))) (hap) ?_
    refine V.ldc dX10_findSlates_234 rfl ctRX10_65 ?_
    refine V.ic_le (tgt := 255) dX10_findSlates_236 (by decide) (fun c236 => ?_) (fun c236 => ?_)
    · refine V.aload_n dX10_findSlates_255 rfl (i := 0) rfl ?_
      refine V.getR dX10_findSlates_256 rfl flRX10_41 rfl ⟨by decide, by decide⟩ ?_
      refine V.iload_n dX10_findSlates_259 rfl (i := 3) rfl ?_
      refine V.ialdN dX10_findSlates_260 rfl ⟨by decide, by decide⟩ (by first | assumption | decide | omega) (by decide) ?_
      refine V.top (x' := (hiS (geR G) G (offR M0) od bd T j (c + 1))) ((by first | (rw [hiS, if_neg (show ¬ geR G (od j) (od (j + 1 + c)) = true from fun z => absurd (of_decide_eq_true z) (Int32.not_lt.mpr c236))]; exact h2) | (rw [hiS, if_pos (show geR G (od j) (od (j + 1 + c)) = true from decide_eq_true (Int32.not_le.mp c236)), if_neg (Int32.not_lt.mpr c247)]; exact h2) | (rw [hiS, if_pos (show geR G (od j) (od (j + 1 + c)) = true from decide_eq_true (Int32.not_le.mp c236)), if_pos (Int32.not_le.mp c247)]))) ?_
      refine V.iastN dX10_findSlates_261 rfl ⟨by decide, by decide⟩ (by first | assumption | decide | omega) (by decide) ?_
      refine V.iinc dX10_findSlates_262 rfl (v := (nI ((j + 1 + c) + 1))) (nI_1 _) (by decide) (fun _ h => by cases h; exact Or.inl rfl) rfl ?_
      refine V.goto dX10_findSlates_265 (tgt := 186) (by decide) ?_
      exact ih (c + 1) _ _ (by omega) (he.put (by decide)) (fun i hi hi2 => by rw [put_n (fun z => by omega)]; exact h1 i hi hi2) put_s
    · refine V.iload dX10_findSlates_239 rfl ?_
      refine V.aload_n dX10_findSlates_241 rfl (i := 0) rfl ?_
      refine V.getR dX10_findSlates_242 rfl flRX10_41 rfl ⟨by decide, by decide⟩ ?_
      refine V.iload_n dX10_findSlates_245 rfl (i := 3) rfl ?_
      refine V.ialdN dX10_findSlates_246 rfl ⟨by decide, by decide⟩ (by first | assumption | decide | omega) (by decide) ?_
      refine V.top (x' := (hiS (geR G) G (offR M0) od bd T j c)) (h2) ?_
      refine V.ic_ge (tgt := 255) dX10_findSlates_247 (by decide) (fun c247 => ?_) (fun c247 => ?_)
      · refine V.aload_n dX10_findSlates_255 rfl (i := 0) rfl ?_
        refine V.getR dX10_findSlates_256 rfl flRX10_41 rfl ⟨by decide, by decide⟩ ?_
        refine V.iload_n dX10_findSlates_259 rfl (i := 3) rfl ?_
        refine V.ialdN dX10_findSlates_260 rfl ⟨by decide, by decide⟩ (by first | assumption | decide | omega) (by decide) ?_
        refine V.top (x' := (hiS (geR G) G (offR M0) od bd T j (c + 1))) ((by first | (rw [hiS, if_neg (show ¬ geR G (od j) (od (j + 1 + c)) = true from fun z => absurd (of_decide_eq_true z) (Int32.not_lt.mpr c236))]; exact h2) | (rw [hiS, if_pos (show geR G (od j) (od (j + 1 + c)) = true from decide_eq_true (Int32.not_le.mp c236)), if_neg (Int32.not_lt.mpr c247)]; exact h2) | (rw [hiS, if_pos (show geR G (od j) (od (j + 1 + c)) = true from decide_eq_true (Int32.not_le.mp c236)), if_pos (Int32.not_le.mp c247)]))) ?_
        refine V.iastN dX10_findSlates_261 rfl ⟨by decide, by decide⟩ (by first | assumption | decide | omega) (by decide) ?_
        refine V.iinc dX10_findSlates_262 rfl (v := (nI ((j + 1 + c) + 1))) (nI_1 _) (by decide) (fun _ h => by cases h; exact Or.inl rfl) rfl ?_
        refine V.goto dX10_findSlates_265 (tgt := 186) (by decide) ?_
        exact ih (c + 1) _ _ (by omega) (he.put (by decide)) (fun i hi hi2 => by rw [put_n (fun z => by omega)]; exact h1 i hi hi2) put_s
      · refine V.iload dX10_findSlates_250 rfl ?_
        refine V.goto dX10_findSlates_252 (tgt := 261) (by decide) ?_
        refine V.top (x' := (hiS (geR G) G (offR M0) od bd T j (c + 1))) ((by first | (rw [hiS, if_neg (show ¬ geR G (od j) (od (j + 1 + c)) = true from fun z => absurd (of_decide_eq_true z) (Int32.not_lt.mpr c236))]; exact h2) | (rw [hiS, if_pos (show geR G (od j) (od (j + 1 + c)) = true from decide_eq_true (Int32.not_le.mp c236)), if_neg (Int32.not_lt.mpr c247)]; exact h2) | (rw [hiS, if_pos (show geR G (od j) (od (j + 1 + c)) = true from decide_eq_true (Int32.not_le.mp c236)), if_pos (Int32.not_le.mp c247)]))) ?_
        refine V.iastN dX10_findSlates_261 rfl ⟨by decide, by decide⟩ (by first | assumption | decide | omega) (by decide) ?_
        refine V.iinc dX10_findSlates_262 rfl (v := (nI ((j + 1 + c) + 1))) (nI_1 _) (by decide) (fun _ h => by cases h; exact Or.inl rfl) rfl ?_
        refine V.goto dX10_findSlates_265 (tgt := 186) (by decide) ?_
        exact ih (c + 1) _ _ (by omega) (he.put (by decide)) (fun i hi hi2 => by rw [put_n (fun z => by omega)]; exact h1 i hi hi2) put_s
set_option maxHeartbeats 4000000 in
set_option maxRecDepth 100000 in
theorem l_fh {g : GG} {d : Nat} {Q : Option Value → Mem → Prop} {n m : Nat} {od : Nat → Nat} {G : Nat → Nat → Int32} {bd : Int32} {M0 : Mem} (hO : OdX M0 od m n) (hA : ApX M0 G od m) {gd : Int32} (hgd : gd = 0 ∨ gd = 1) (hQ : ∀ M', eqx [94] M0 M' → (∀ i, i < m → M' 94 i = hiT (geR G) G (offR M0) od bd m m i) → Q (some (.int gd)) M') : ∀ (k c : Nat) (M : Mem) (l4 l5 : Option Value), c + k = m → eqx [94] M0 M → (∀ i, i < m → m - 1 - i < c → M 94 i = hiT (geR G) G (offR M0) od bd m c i) → V rS g (d + 1) mX10_findSlates 158 [some (.ref 83), some (.int bd), some (.int gd), some (.int (nI k - 1)), l4, l5] [] M Q := by
  intro k
  induction k with
  | zero =>
    intro c M l4 l5 hk he h1
    obtain rfl : c = m := by omega
    refine V.fg (ls' := [some (.ref 83), some (.int bd), some (.int gd), some (.int (nI 0 - 1)), none, none]) ⟨rfl, rfl, rfl, rfl, trivial⟩ ?_
    refine V.iload_n dX10_findSlates_158 rfl (i := 3) rfl ?_
    refine V.if_lt (tgt := 274) dX10_findSlates_159 (by decide) (fun c159 => ?_) (fun q => absurd ((by decide)) q)
    refine V.iload_n dX10_findSlates_274 rfl (i := 2) rfl ?_
    exact V.zret dX10_findSlates_275 rfl (hgd) (hQ M he (fun i hi => h1 i hi (by omega)))
  | succ k ih =>
    intro c M l4 l5 hk he h1
    have hO' := hO
    obtain ⟨o1, o2, o3, o4, o5⟩ := hO
    have e84 : M 84 = M0 84 := he 84 (by decide)
    have e91 : M 91 = M0 91 := he 91 (by decide)
    have e92 : M 92 = M0 92 := he 92 (by decide)
    have e83 : M 83 = M0 83 := he 83 (by decide)
    have hj8 : k < 8 := by omega
    have hoj := o4 k (by omega)
    have hod8 : od k ≤ 8 := by omega
    have hkc : k = m - 1 - c := by omega
    have hcm : m - 1 - k = c := by omega
    refine V.lseq (ls' := [some (.ref 83), some (.int bd), some (.int gd), some (.int (nI k)), l4, l5]) (by rw [nI_pred]) ?_
    refine V.fg (ls' := [some (.ref 83), some (.int bd), some (.int gd), some (.int (nI k)), none, none]) ⟨rfl, rfl, rfl, rfl, trivial⟩ ?_
    refine V.iload_n dX10_findSlates_158 rfl (i := 3) rfl ?_
    refine V.if_lt (tgt := 274) dX10_findSlates_159 (by decide) (fun q => absurd q ((nI_pos (by omega)))) (fun c159 => ?_)
    refine V.aload_n dX10_findSlates_162 rfl (i := 0) rfl ?_
    refine V.getR dX10_findSlates_163 rfl flRX10_41 rfl ⟨by decide, by decide⟩ ?_
    refine V.iload_n dX10_findSlates_166 rfl (i := 3) rfl ?_
    refine V.aload_n dX10_findSlates_167 rfl (i := 0) rfl ?_
    refine V.aload_n dX10_findSlates_168 rfl (i := 0) rfl ?_
    refine V.getR dX10_findSlates_169 rfl flRX10_32 rfl ⟨by decide, by decide⟩ ?_
    refine V.iload_n dX10_findSlates_172 rfl (i := 3) rfl ?_
    refine V.ialdN dX10_findSlates_173 rfl ⟨by decide, by decide⟩ (hj8) (by decide) ?_
    refine V.top (x' := (nI (od k))) ((by rw [e91]; exact hoj.1)) ?_
    refine V.iconst dX10_findSlates_174 (v := 4) (by decide) ?_
    refine V.invv (z := mX10_of) (As := [_, _]) dX10_findSlates_175 rfl mlRX10_175 okX10_of npX10_of rfl rfl rfl ⟨by decide, by decide⟩ (Nat.le_of_ble_eq_true rfl) rfl (Nat.le_of_ble_eq_true rfl) (c_of  (hod8) (by decide) ?_)
    show V rS g (d + 1) mX10_findSlates 178 [some (.ref 83), some (.int bd), some (.int gd), some (.int (nI k)), none, none] [.int (M 84 (108 + 7 * (od k) + 4)), .int (nI k), .ref 94] (M) Q
    refine V.iload_n dX10_findSlates_178 rfl (i := 1) rfl ?_
    refine V.iadd dX10_findSlates_179 ?_
    refine V.iastN dX10_findSlates_180 rfl ⟨by decide, by decide⟩ (by first | assumption | decide | omega) (by decide) ?_
    refine V.iload_n dX10_findSlates_181 rfl (i := 3) rfl ?_
    refine V.iconst dX10_findSlates_182 (v := 1) (by decide) ?_
    refine V.iadd dX10_findSlates_183 ?_
    refine V.top (x' := (nI (k + 1))) (nI_add k 1) ?_
    refine V.istore dX10_findSlates_184 (i := 4) (by decide) (fun _ h => by cases h; exact Or.inl rfl) rfl ?_
    refine l_fh1 (gd := gd) hO' hA (j := k) (by omega) (T := hiT (geR G) G (offR M0) od bd m c) (fun M' he' h3 h4 => ?_) (m - (k + 1)) 0 _ _ (by omega) (he.put (by decide)) (fun i h5 h6 => by rw [put_n (fun z => by omega)]; exact h1 i h5 (by omega)) (by rw [put_s, hiS, e84])
    rw [hcm] at h4
    refine V.iinc dX10_findSlates_268 rfl (v := (nI k - 1)) (by rw [Int32.sub_eq_add_neg]; rfl) (by decide) (fun _ h => by cases h; exact Or.inl rfl) rfl ?_
    refine V.goto dX10_findSlates_271 (tgt := 158) (by decide) ?_
    exact ih (c + 1) M' _ _ (by omega) he' (fun i h5 h6 => by by_cases hq : i = k; subst hq; rw [h4]; have hz := hiT_s (ge := geR G) (G := G) (off := (offR M0)) (od := od) (bd := bd) (m := m) (c := c); rw [← hkc] at hz; exact hz.symm; rw [hiT_n (by omega)]; exact h3 i h5 (by omega))
set_option maxHeartbeats 4000000 in
set_option maxRecDepth 100000 in
theorem c_fs {g : GG} {d : Nat} {M : Mem} {Q : Option Value → Mem → Prop} {n m : Nat} {od : Nat → Nat} {G : Nat → Nat → Int32} {bd : Int32} (hO : OdX M od m n) (hA : ApX M G od m) (hQ : ∀ M', eqx [93, 94] M M' → (∀ i, i < m → M' 93 i = loT (geR G) G (offR M) od bd m i) → (∀ i, i < m → M' 94 i = hiT (geR G) G (offR M) od bd m m i) → Q (some (.int (b2i (gdF (loT (geR G) G (offR M) od bd m) (offR M) od bd m = true)))) M') : V rS g (d + 1) mX10_findSlates 0 [some (.ref 83), some (.int bd), none, none, none, none] [] M Q := by
  have hcont : ∀ M', eqx [93] M M' → (∀ i, i < m → M' 93 i = loT (geR G) G (offR M) od bd m i) → V rS g (d + 1) mX10_findSlates 151 [some (.ref 83), some (.int bd), some (.int (b2i (gdF (loT (geR G) G (offR M) od bd m) (offR M) od bd m = true))), none, none, none] [] M' Q := by
    intro M1 he h1
    have hO1 : OdX M1 od m n := by
      unfold OdX
      rw [he 83 (by decide), he 91 (by decide)]
      exact hO
    have hA1 : ApX M1 G od m := fun i j h2 h3 => by rw [he 92 (by decide)]; exact hA i j h2 h3
    have eo : offR M1 = offR M := by unfold offR; rw [he 84 (by decide)]
    refine V.aload_n dX10_findSlates_151 rfl (i := 0) rfl ?_
    refine V.getI dX10_findSlates_152 rfl flRX10_255 rfl ⟨by decide, by decide⟩ ?_
    refine V.top (x' := (nI m)) (hO1.1) ?_
    refine V.iconst dX10_findSlates_155 (v := 1) (by decide) ?_
    refine V.isub dX10_findSlates_156 ?_
    refine V.istore_n dX10_findSlates_157 rfl (i := 3) (by decide) (fun _ h => by cases h; exact Or.inl rfl) rfl ?_
    refine l_fh hO1 hA1 (b2i_zo _) (fun M2 he2 h3 => ?_) m 0 M1 _ _ (by omega) eqx.rf (fun i _ z => absurd z (Nat.not_lt_zero _))
    rw [eo] at h3
    exact hQ M2 ((he.up (by decide)).tr (he2.up (by decide))) (fun i hi => by rw [he2 93 (by decide)]; exact h1 i hi) h3
  refine V.iconst dX10_findSlates_0 (v := 1) (by decide) ?_
  refine V.istore_n dX10_findSlates_1 rfl (i := 2) (by decide) (fun _ h => by cases h; exact Or.inl rfl) rfl ?_
  refine V.iconst dX10_findSlates_2 (v := 0) (by decide) ?_
  refine V.istore_n dX10_findSlates_3 rfl (i := 3) (by decide) (fun _ h => by cases h; exact Or.inl rfl) rfl ?_
  exact l_fl hO hA hcont m 0 M _ _ (by omega) eqx.rf (fun i hi => absurd hi (Nat.not_lt_zero _))

