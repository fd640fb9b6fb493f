/-! ===== Hearing ===== -/
abbrev scrH : List Nat := [29, 46, 47, 48, 49, 50, 51, 52, 53, 69, 70]
/-- who is heard where (hp bell ear), by what ways -/
def Hd (M : Mem) (hp : Nat → Nat → Bool) (wy : Nat → Nat → Int32) (n ne : Nat) : Prop := (∀ e, e < ne → M 29 e = bI (fun b => hp b e) n) ∧ ∀ b e, b < n → e < ne → hp b e = true → M (46 + b) e = wy b e
def Hp (M : Mem) (hp : Nat → Nat → Bool) (wy : Nat → Nat → Int32) (n e i : Nat) : Prop := (∀ e', e' < e → M 29 e' = bI (fun b => hp b e') n) ∧ M 29 e = bI (fun b => hp b e) i ∧ ∀ b e', b < n → (e' < e ∨ (e' = e ∧ b < i)) → hp b e' = true → M (46 + b) e' = wy b e'
theorem Hp.no {M : Mem} {hp : Nat → Nat → Bool} {wy : Nat → Nat → Int32} {n e i : Nat} (h : Hp M hp wy n e i) (hi : ¬ hp i e = true) : Hp M hp wy n e (i + 1) := by
  refine ⟨h.1, by rw [bI_f (p := fun b => hp b e) hi]; exact h.2.1, fun b e' hb he hh => ?_⟩
  rcases he with he | ⟨rfl, he⟩
  · exact h.2.2 b e' hb (Or.inl he) hh
  · by_cases hbi : b = i
    · subst hbi; exact absurd hh hi
    · exact h.2.2 b e' hb (Or.inr ⟨rfl, by omega⟩) hh
theorem Hp.yes {M M1 : Mem} {hp : Nat → Nat → Bool} {wy : Nat → Nat → Int32} {n e i : Nat} (h : Hp M hp wy n e i) (he : eqx [69, 70] M M1) (h8 : n ≤ 8) (hin : i < n) (hi : hp i e = true) : Hp (put (put M1 29 e (M1 29 e ||| ((1 : Int32) <<< (nI i &&& 31)))) (46 + i) e (wy i e)) hp wy n e (i + 1) := by
  have e29 : M1 29 = M 29 := he 29 (by decide)
  have e46 : ∀ b, b < 8 → M1 (46 + b) = M (46 + b) := fun b hb => he (46 + b) (by simp; omega)
  refine ⟨fun e' h1 => ?_, ?_, fun b e' hb hc hh => ?_⟩
  · rw [put_cell (by omega), put_n (fun q => by omega), e29]
    exact h.1 e' h1
  · rw [put_cell (by omega), put_s, e29, h.2.1, bI_t (p := fun b => hp b e) (by omega) hi]
  · by_cases hbi : b = i ∧ e' = e
    · obtain ⟨rfl, rfl⟩ := hbi
      rw [put_s]
    · rw [put_n (fun q => hbi ⟨by omega, q.2⟩), put_cell (by omega), e46 b (by omega)]
      refine h.2.2 b e' hb ?_ hh
      rcases hc with hc | ⟨h1, h2⟩
      · exact Or.inl hc
      · exact Or.inr ⟨h1, by omega⟩
/-- what a WIND lets be heard -/
def hpF (M : Mem) (p : Nat → Bool) (w : Int32) (b e : Nat) : Bool := p b && decide (0 < strS M (M (30 + b) 0) (M (30 + b) 3) (M (30 + b) 2) (M 12 e) w)
def wyF (M : Mem) (w : Int32) (b e : Nat) : Int32 := wayF (M (30 + b) 2) (M 12 e) w
/-- the counts and ranges that the class keeps -/
def VB (M : Mem) (n ne : Nat) : Prop := M 1 2 = nI n ∧ n ≤ 8 ∧ M 1 4 = nI ne ∧ ne ≤ 10 ∧ sz50 (M 14 1) ∧ (∀ b, b < 8 → rg 0 99 (M (30 + b) 2)) ∧ ∀ e, e < 10 → rg 0 99 (M 12 e)
theorem VB.eq {S : List Nat} {M M' : Mem} {n ne : Nat} (h : VB M n ne) (he : eqx S M M') (h1 : 1 ∉ S) (h12 : 12 ∉ S) (h14 : 14 ∉ S) (hb : ∀ b, b < 8 → 30 + b ∉ S) : VB M' n ne := by
  unfold VB
  rw [he 1 h1, he 12 h12, he 14 h14]
  refine ⟨h.1, h.2.1, h.2.2.1, h.2.2.2.1, h.2.2.2.2.1, fun b hb8 => ?_, h.2.2.2.2.2.2⟩
  rw [he _ (hb b hb8)]
  exact h.2.2.2.2.2.1 b hb8
theorem sH30 {b : Nat} (h : b < 8) : 30 + b ∉ scrH := by
  simp [scrH]
  omega
theorem strS_eq {M M' : Mem} (h1 : M' 14 = M 14) (h2 : M' 68 = M 68) (h3 : M' 10 = M 10) : strS M' = strS M := by unfold strS; rw [lawC_eq h1 h2, h3]

set_option maxHeartbeats 4000000 in
set_option maxRecDepth 100000 in
theorem l_lis {g : GG} {d : Nat} {Q : Option Value → Mem → Prop} {M0 : Mem} {p : Nat → Bool} {w : Int32} {n ne : Nat} (hV : VB M0 n ne) {e : Nat} (hE : e < ne) (hc : ∀ M', eqx scrH M0 M' → Hp M' (hpF M0 p w) (wyF M0 w) n e n → V cS g (d + 3) mX1_listenTo 134 [some (.ref 4), some (.int (bI p n)), some (.int w), some (.int (nI e)), none, none, none] [] M' Q) : ∀ (k i : Nat) (M : Mem) (l6 : Option Value), i + k = n → eqx scrH M0 M → Hp M (hpF M0 p w) (wyF M0 w) n e i → V cS g (d + 3) mX1_listenTo 34 [some (.ref 4), some (.int (bI p n)), some (.int w), some (.int (nI e)), some (.int (M0 12 e)), some (.int (nI i)), l6] [] M Q := by
  intro k
  induction k with
  | zero =>
    intro i M l6 hk he hh
    obtain rfl : i = n := by omega
    have hz : M 1 2 = nI i := by rw [he 1 (by decide)]; exact hV.1
    refine V.fg (ls' := [some (.ref 4), some (.int (bI p i)), some (.int w), some (.int (nI e)), some (.int (M0 12 e)), some (.int (nI i)), none]) ⟨rfl, rfl, rfl, rfl, rfl, rfl, trivial⟩ ?_
    refine V.iload dX1_listenTo_34 rfl ?_
    refine V.aload_n dX1_listenTo_36 rfl (i := 0) rfl ?_
    refine V.getR dX1_listenTo_37 rfl flRX1_23 rfl ⟨by decide, by decide⟩ ?_
    refine V.getI dX1_listenTo_40 rfl flRX1_27 rfl ⟨by decide, by decide⟩ ?_
    refine V.top (x' := (nI i)) (hz) ?_
    refine V.ic_ge (tgt := 134) dX1_listenTo_43 (by decide) (fun c43 => ?_) (fun q => absurd ((Int32.le_refl _)) q)
    exact V.fg (ls' := [some (.ref 4), some (.int (bI p i)), some (.int w), some (.int (nI e)), none, none, none]) ⟨rfl, rfl, rfl, rfl, trivial⟩ (hc M he hh)
  | succ k ih =>
    intro i M l6 hk he hh
    have h8 := hV.2.1
    have hz : M 1 2 = nI n := by rw [he 1 (by decide)]; exact hV.1
    have hi : i < 8 := by omega
    have he10 : e < 10 := by have := hV.2.2.2.1; omega
    have hcell : M (30 + i) = M0 (30 + i) := he (30 + i) (sH30 hi)
    have hstr : strS M = strS M0 := strS_eq (he 14 (by decide)) (he 68 (by decide)) (he 10 (by decide))
    have hw14 : sz50 (M 14 1) := by rw [he 14 (by decide)]; exact hV.2.2.2.2.1
    have hsp : rg 0 99 (M (30 + i) 2) := by rw [hcell]; exact hV.2.2.2.2.2.1 i hi
    refine V.fg (ls' := [some (.ref 4), some (.int (bI p n)), some (.int w), some (.int (nI e)), some (.int (M0 12 e)), some (.int (nI i)), none]) ⟨rfl, rfl, rfl, rfl, rfl, rfl, trivial⟩ ?_
    refine V.iload dX1_listenTo_34 rfl ?_
    refine V.aload_n dX1_listenTo_36 rfl (i := 0) rfl ?_
    refine V.getR dX1_listenTo_37 rfl flRX1_23 rfl ⟨by decide, by decide⟩ ?_
    refine V.getI dX1_listenTo_40 rfl flRX1_27 rfl ⟨by decide, by decide⟩ ?_
    refine V.top (x' := (nI n)) (hz) ?_
    refine V.ic_ge (tgt := 134) dX1_listenTo_43 (by decide) (fun q => absurd q ((nI_ge (a := i) (b := n) (by omega) (by omega)))) (fun c43 => ?_)
    refine V.aload_n dX1_listenTo_46 rfl (i := 0) rfl ?_
    refine V.getR dX1_listenTo_47 rfl flRX1_23 rfl ⟨by decide, by decide⟩ ?_
    refine V.getR dX1_listenTo_50 rfl flRX1_33 rfl ⟨by decide, by decide⟩ ?_
    refine V.iload dX1_listenTo_53 rfl ?_
    refine V.aaldBN dX1_listenTo_55 rfl ⟨by decide, by decide⟩ (by first | assumption | decide | omega) (by decide) ?_
    refine V.astore dX1_listenTo_56 (i := 6) (by decide) (fun _ h => by cases h; exact Or.inl rfl) rfl ?_
    refine V.iload_n dX1_listenTo_58 rfl (i := 1) rfl ?_
    refine V.iload dX1_listenTo_59 rfl ?_
    refine V.ishr dX1_listenTo_61 ?_
    refine V.iconst dX1_listenTo_62 (v := 1) (by decide) ?_
    refine V.iand dX1_listenTo_63 ?_
    refine V.if_eq (tgt := 128) dX1_listenTo_64 (by decide) (fun c64 => ?_) (fun c64 => ?_)
    · refine V.iinc dX1_listenTo_128 rfl (v := (nI (i + 1))) (nI_1 _) (by decide) (fun _ h => by cases h; exact Or.inl rfl) rfl ?_
      refine V.goto dX1_listenTo_131 (tgt := 34) (by decide) ?_
      first | exact ih (i + 1) _ _ (by omega) (((he.tr (hM1.up (by decide))).put (by decide)).put (by simp [scrH]; omega)) (hh.yes hM1 h8 (by omega) (by unfold hpF; rw [Bool.and_eq_true]; exact ⟨Classical.byContradiction fun z => c64 ((bI_bit (by omega) (by omega)).mpr (fun q => z q.2)), decide_eq_true (Int32.not_le.mp c92)⟩)) | exact ih (i + 1) M _ (by omega) he (hh.no (by unfold hpF; rw [Bool.and_eq_true]; exact fun q => (bI_bit (by omega) (by omega)).mp c64 ⟨by omega, q.1⟩)) | exact ih (i + 1) _ _ (by omega) (he.tr (hM1.up (by decide))) (Hp.no (i := i) ⟨fun e' h1 => by rw [hM1 29 (by decide)]; exact hh.1 e' h1, by rw [hM1 29 (by decide)]; exact hh.2.1, fun b e' hb hc2 hh2 => by rw [hM1 (46 + b) (by simp; omega)]; exact hh.2.2 b e' hb hc2 hh2⟩ (by unfold hpF; rw [Bool.and_eq_true]; exact fun q => absurd (of_decide_eq_true q.2) (Int32.not_lt.mpr c92)))
    · refine V.aload_n dX1_listenTo_67 rfl (i := 0) rfl ?_
      refine V.getR dX1_listenTo_68 rfl flRX1_23 rfl ⟨by decide, by decide⟩ ?_
      refine V.aload dX1_listenTo_71 rfl ?_
      refine V.getI dX1_listenTo_73 rfl flRX1_94 (fkB30 (by first | assumption | decide | omega) (by decide)) (inB30 (by first | assumption | decide | omega)) ?_
      refine V.aload dX1_listenTo_76 rfl ?_
      refine V.getI dX1_listenTo_78 rfl flRX1_97 (fkB30 (by first | assumption | decide | omega) (by decide)) (inB30 (by first | assumption | decide | omega)) ?_
      refine V.aload dX1_listenTo_81 rfl ?_
      refine V.getI dX1_listenTo_83 rfl flRX1_100 (fkB30 (by first | assumption | decide | omega) (by decide)) (inB30 (by first | assumption | decide | omega)) ?_
      refine V.iload dX1_listenTo_86 rfl ?_
      refine V.iload_n dX1_listenTo_88 rfl (i := 2) rfl ?_
      refine V.invv (z := mX7_strength) (As := [_, _, _, _, _]) dX1_listenTo_89 rfl mlRX1_103 okX7_strength npX7_strength rfl rfl rfl ⟨by decide, by decide⟩ (Nat.le_of_ble_eq_true rfl) rfl (Nat.le_of_ble_eq_true rfl) (c_strength  (hw14) (hsp) (hV.2.2.2.2.2.2 e he10) (fun M1 hM1 => ?_))
      show V cS g (d + 3) mX1_listenTo 92 [some (.ref 4), some (.int (bI p n)), some (.int w), some (.int (nI e)), some (.int (M0 12 e)), some (.int (nI i)), some (.ref (30 + i))] [.int (strS M (M (30 + i) 0) (M (30 + i) 3) (M (30 + i) 2) (M0 12 e) w)] M1 Q
      refine V.top (x' := (strS M0 (M0 (30 + i) 0) (M0 (30 + i) 3) (M0 (30 + i) 2) (M0 12 e) w)) ((by rw [hstr, hcell])) ?_
      refine V.if_le (tgt := 128) dX1_listenTo_92 (by decide) (fun c92 => ?_) (fun c92 => ?_)
      · refine V.iinc dX1_listenTo_128 rfl (v := (nI (i + 1))) (nI_1 _) (by decide) (fun _ h => by cases h; exact Or.inl rfl) rfl ?_
        refine V.goto dX1_listenTo_131 (tgt := 34) (by decide) ?_
        first | exact ih (i + 1) _ _ (by omega) (((he.tr (hM1.up (by decide))).put (by decide)).put (by simp [scrH]; omega)) (hh.yes hM1 h8 (by omega) (by unfold hpF; rw [Bool.and_eq_true]; exact ⟨Classical.byContradiction fun z => c64 ((bI_bit (by omega) (by omega)).mpr (fun q => z q.2)), decide_eq_true (Int32.not_le.mp c92)⟩)) | exact ih (i + 1) M _ (by omega) he (hh.no (by unfold hpF; rw [Bool.and_eq_true]; exact fun q => (bI_bit (by omega) (by omega)).mp c64 ⟨by omega, q.1⟩)) | exact ih (i + 1) _ _ (by omega) (he.tr (hM1.up (by decide))) (Hp.no (i := i) ⟨fun e' h1 => by rw [hM1 29 (by decide)]; exact hh.1 e' h1, by rw [hM1 29 (by decide)]; exact hh.2.1, fun b e' hb hc2 hh2 => by rw [hM1 (46 + b) (by simp; omega)]; exact hh.2.2 b e' hb hc2 hh2⟩ (by unfold hpF; rw [Bool.and_eq_true]; exact fun q => absurd (of_decide_eq_true q.2) (Int32.not_lt.mpr c92)))
      · refine V.aload_n dX1_listenTo_95 rfl (i := 0) rfl ?_
        refine V.getR dX1_listenTo_96 rfl flRX1_16 rfl ⟨by decide, by decide⟩ ?_
        refine V.iload_n dX1_listenTo_99 rfl (i := 3) rfl ?_
        refine V.dup2 dX1_listenTo_100 rfl rfl ?_
        refine V.ialdN dX1_listenTo_101 rfl ⟨by decide, by decide⟩ (by first | assumption | decide | omega) (by decide) ?_
        refine V.iconst dX1_listenTo_102 (v := 1) (by decide) ?_
        refine V.iload dX1_listenTo_103 rfl ?_
        refine V.ishl dX1_listenTo_105 ?_
        refine V.ior dX1_listenTo_106 ?_
        refine V.iastN dX1_listenTo_107 rfl ⟨by decide, by decide⟩ (by first | assumption | decide | omega) (by decide) ?_
        have hM1c : M1 (30 + i) = M0 (30 + i) := by rw [hM1 (30 + i) (by simp; omega)]; exact hcell
        refine V.aload_n dX1_listenTo_108 rfl (i := 0) rfl ?_
        refine V.getR dX1_listenTo_109 rfl flRX1_11 rfl ⟨by decide, by decide⟩ ?_
        refine V.iload dX1_listenTo_112 rfl ?_
        refine V.aaldIN dX1_listenTo_114 rfl ⟨by decide, by decide⟩ (by first | assumption | decide | omega) (by decide) ?_
        refine V.iload_n dX1_listenTo_115 rfl (i := 3) rfl ?_
        refine V.aload dX1_listenTo_116 rfl ?_
        refine V.getI dX1_listenTo_118 rfl flRX1_100 (fkB30 (by first | assumption | decide | omega) (by decide)) (inB30 (by first | assumption | decide | omega)) ?_
        refine V.top (x' := (M0 (30 + i) 2)) ((by rw [put_cell (by omega), hM1c])) ?_
        refine V.iload dX1_listenTo_121 rfl ?_
        refine V.iload_n dX1_listenTo_123 rfl (i := 2) rfl ?_
        refine V.invsN (z := mX9_wayBetween) (As := [_, _, _]) (host := "OneBreath") dX1_listenTo_124 rfl (by decide +kernel) okX9_wayBetween npX9_wayBetween rfl (Nat.le_of_ble_eq_true rfl) rfl (Nat.le_of_ble_eq_true rfl) (c_wayBetween   ?_)
        show V cS g (d + 3) mX1_listenTo 127 [some (.ref 4), some (.int (bI p n)), some (.int w), some (.int (nI e)), some (.int (M0 12 e)), some (.int (nI i)), some (.ref (30 + i))] [.int (wayF (M0 (30 + i) 2) (M0 12 e) w), .int (nI e), .ref (46 + i)] ((put M1 29 e ((M1 29 e) ||| ((1 : Int32) <<< ((nI i) &&& 31))))) Q
        refine V.iastN dX1_listenTo_127 (layA46 (by first | assumption | decide | omega)) (inB46 (by first | assumption | decide | omega)) (by first | assumption | decide | omega) (by decide) ?_
        refine V.iinc dX1_listenTo_128 rfl (v := (nI (i + 1))) (nI_1 _) (by decide) (fun _ h => by cases h; exact Or.inl rfl) rfl ?_
        refine V.goto dX1_listenTo_131 (tgt := 34) (by decide) ?_
        first | exact ih (i + 1) _ _ (by omega) (((he.tr (hM1.up (by decide))).put (by decide)).put (by simp [scrH]; omega)) (hh.yes hM1 h8 (by omega) (by unfold hpF; rw [Bool.and_eq_true]; exact ⟨Classical.byContradiction fun z => c64 ((bI_bit (by omega) (by omega)).mpr (fun q => z q.2)), decide_eq_true (Int32.not_le.mp c92)⟩)) | exact ih (i + 1) M _ (by omega) he (hh.no (by unfold hpF; rw [Bool.and_eq_true]; exact fun q => (bI_bit (by omega) (by omega)).mp c64 ⟨by omega, q.1⟩)) | exact ih (i + 1) _ _ (by omega) (he.tr (hM1.up (by decide))) (Hp.no (i := i) ⟨fun e' h1 => by rw [hM1 29 (by decide)]; exact hh.1 e' h1, by rw [hM1 29 (by decide)]; exact hh.2.1, fun b e' hb hc2 hh2 => by rw [hM1 (46 + b) (by simp; omega)]; exact hh.2.2 b e' hb hc2 hh2⟩ (by unfold hpF; rw [Bool.and_eq_true]; exact fun q => absurd (of_decide_eq_true q.2) (Int32.not_lt.mpr c92)))
set_option maxHeartbeats 4000000 in
set_option maxRecDepth 100000 in
theorem l_lis2 {g : GG} {d : Nat} {Q : Option Value → Mem → Prop} {M0 : Mem} {p : Nat → Bool} {w : Int32} {n ne : Nat} (hV : VB M0 n ne) (hQ : ∀ M', eqx scrH M0 M' → Hd M' (hpF M0 p w) (wyF M0 w) n ne → Q none M') : ∀ (k e : Nat) (M : Mem) (l4 l5 l6 : Option Value), e + k = ne → eqx scrH M0 M → Hd M (hpF M0 p w) (wyF M0 w) n e → V cS g (d + 3) mX1_listenTo 2 [some (.ref 4), some (.int (bI p n)), some (.int w), some (.int (nI e)), l4, l5, l6] [] M Q := by
  intro k
  induction k with
  | zero =>
    intro e M l4 l5 l6 hk he hh
    obtain rfl : e = ne := by omega
    have hz : M 1 4 = nI e := by rw [he 1 (by decide)]; exact hV.2.2.1
    refine V.fg (ls' := [some (.ref 4), some (.int (bI p n)), some (.int w), some (.int (nI e)), none, none, none]) ⟨rfl, rfl, rfl, rfl, trivial⟩ ?_
    refine V.iload_n dX1_listenTo_2 rfl (i := 3) rfl ?_
    refine V.aload_n dX1_listenTo_3 rfl (i := 0) rfl ?_
    refine V.getR dX1_listenTo_4 rfl flRX1_23 rfl ⟨by decide, by decide⟩ ?_
    refine V.getI dX1_listenTo_7 rfl flRX1_47 rfl ⟨by decide, by decide⟩ ?_
    refine V.top (x' := (nI e)) (hz) ?_
    refine V.ic_ge (tgt := 140) dX1_listenTo_10 (by decide) (fun c10 => ?_) (fun q => absurd ((Int32.le_refl _)) q)
    exact V.vret dX1_listenTo_140 rfl (hQ M he hh)
  | succ k ih =>
    intro e M l4 l5 l6 hk he hh
    have h10 := hV.2.2.2.1
    have hz : M 1 4 = nI ne := by rw [he 1 (by decide)]; exact hV.2.2.1
    have he10 : e < 10 := by omega
    refine V.fg (ls' := [some (.ref 4), some (.int (bI p n)), some (.int w), some (.int (nI e)), none, none, none]) ⟨rfl, rfl, rfl, rfl, trivial⟩ ?_
    refine V.iload_n dX1_listenTo_2 rfl (i := 3) rfl ?_
    refine V.aload_n dX1_listenTo_3 rfl (i := 0) rfl ?_
    refine V.getR dX1_listenTo_4 rfl flRX1_23 rfl ⟨by decide, by decide⟩ ?_
    refine V.getI dX1_listenTo_7 rfl flRX1_47 rfl ⟨by decide, by decide⟩ ?_
    refine V.top (x' := (nI ne)) (hz) ?_
    refine V.ic_ge (tgt := 140) dX1_listenTo_10 (by decide) (fun q => absurd q ((nI_ge (a := e) (b := ne) (by omega) (by omega)))) (fun c10 => ?_)
    refine V.aload_n dX1_listenTo_13 rfl (i := 0) rfl ?_
    refine V.getR dX1_listenTo_14 rfl flRX1_23 rfl ⟨by decide, by decide⟩ ?_
    refine V.getR dX1_listenTo_17 rfl flRX1_91 rfl ⟨by decide, by decide⟩ ?_
    refine V.iload_n dX1_listenTo_20 rfl (i := 3) rfl ?_
    refine V.ialdN dX1_listenTo_21 rfl ⟨by decide, by decide⟩ (by first | assumption | decide | omega) (by decide) ?_
    refine V.top (x' := (M0 12 e)) ((by rw [he 12 (by decide)])) ?_
    refine V.istore dX1_listenTo_22 (i := 4) (by decide) (fun _ h => by cases h; exact Or.inl rfl) rfl ?_
    refine V.aload_n dX1_listenTo_24 rfl (i := 0) rfl ?_
    refine V.getR dX1_listenTo_25 rfl flRX1_16 rfl ⟨by decide, by decide⟩ ?_
    refine V.iload_n dX1_listenTo_28 rfl (i := 3) rfl ?_
    refine V.iconst dX1_listenTo_29 (v := 0) (by decide) ?_
    refine V.iastN dX1_listenTo_30 rfl ⟨by decide, by decide⟩ (by first | assumption | decide | omega) (by decide) ?_
    refine V.iconst dX1_listenTo_31 (v := 0) (by decide) ?_
    refine V.istore dX1_listenTo_32 (i := 5) (by decide) (fun _ h => by cases h; exact Or.inl rfl) rfl ?_
    refine l_lis hV (e := e) (by omega) (fun M' he' hh' => ?_) n 0 _ none (by omega) (he.put (by decide)) ⟨fun e' h1 => by rw [put_n (fun q => by omega)]; exact hh.1 e' h1, by rw [put_s, bI_0], fun b e' hb hc2 hh2 => by rw [put_cell (by omega)]; rcases hc2 with q | q; exact hh.2 b e' hb q hh2; exact absurd q.2 (Nat.not_lt_zero _)⟩
    refine V.iinc dX1_listenTo_134 rfl (v := (nI (e + 1))) (nI_1 _) (by decide) (fun _ h => by cases h; exact Or.inl rfl) rfl ?_
    refine V.goto dX1_listenTo_137 (tgt := 2) (by decide) ?_
    exact ih (e + 1) M' _ _ _ (by omega) he' ⟨fun e' h1 => by by_cases q : e' = e; subst q; exact hh'.2.1; exact hh'.1 e' (by omega), fun b e' hb h1 h2 => hh'.2.2 b e' hb (by omega) h2⟩
set_option maxHeartbeats 4000000 in
set_option maxRecDepth 100000 in
theorem c_listenTo {g : GG} {d : Nat} {M : Mem} {Q : Option Value → Mem → Prop} {p : Nat → Bool} {w : Int32} {n ne : Nat} (hV : VB M n ne) (hQ : ∀ M', eqx scrH M M' → Hd M' (hpF M p w) (wyF M w) n ne → Q none M') : V cS g (d + 3) mX1_listenTo 0 [some (.ref 4), some (.int (bI p n)), some (.int w), none, none, none, none] [] M Q := by
  refine V.iconst dX1_listenTo_0 (v := 0) (by decide) ?_
  refine V.istore_n dX1_listenTo_1 rfl (i := 3) (by decide) (fun _ h => by cases h; exact Or.inl rfl) rfl ?_
  exact l_lis2 hV hQ ne 0 M _ _ _ (by omega) eqx.rf ⟨fun e h => absurd h (Nat.not_lt_zero _), fun b e _ h => absurd h (Nat.not_lt_zero _)⟩
set_option maxHeartbeats 4000000 in
set_option maxRecDepth 100000 in
theorem l_listen {g : GG} {d : Nat} {M : Mem} {Q : Option Value → Mem → Prop} {w hour : Int32} {n ne : Nat} (hV : VB M n ne) (hQ : ∀ M', eqx scrH M M' → Hd M' (hpF M (fun b => strk (M (30 + b) 0) (M (30 + b) 1) (M (30 + b) 6) hour) w) (wyF M w) n ne → Q none M') : ∀ (k i : Nat), i + k = n → V cS g (d + 4) mX1_listen 5 [some (.ref 4), some (.int hour), some (.int w), some (.int (bI (fun b => strk (M (30 + b) 0) (M (30 + b) 1) (M (30 + b) 6) hour) i)), some (.int (nI i))] [] M Q := by
  have hn := hV.1
  have h8 := hV.2.1
  intro k
  induction k with
  | zero =>
    intro i hk
    obtain rfl : i = n := by omega
    refine V.iload dX1_listen_5 rfl ?_
    refine V.aload_n dX1_listen_7 rfl (i := 0) rfl ?_
    refine V.getR dX1_listen_8 rfl flRX1_23 rfl ⟨by decide, by decide⟩ ?_
    refine V.getI dX1_listen_11 rfl flRX1_27 rfl ⟨by decide, by decide⟩ ?_
    refine V.top (x' := (nI i)) (hn) ?_
    refine V.ic_ge (tgt := 47) dX1_listen_14 (by decide) (fun c14 => ?_) (fun q => absurd ((Int32.le_refl _)) q)
    refine V.aload_n dX1_listen_47 rfl (i := 0) rfl ?_
    refine V.iload_n dX1_listen_48 rfl (i := 3) rfl ?_
    refine V.iload_n dX1_listen_49 rfl (i := 2) rfl ?_
    refine V.invv (z := mX1_listenTo) (As := [_, _]) dX1_listen_50 rfl mlRX1_43 okX1_listenTo npX1_listenTo rfl rfl rfl ⟨by decide, by decide⟩ (Nat.le_of_ble_eq_true rfl) rfl (Nat.le_of_ble_eq_true rfl) (c_listenTo hV (fun M1 hM1 hH1 => ?_))
    show V cS g (d + 4) mX1_listen 53 [some (.ref 4), some (.int hour), some (.int w), some (.int (bI (fun b => strk (M (30 + b) 0) (M (30 + b) 1) (M (30 + b) 6) hour) i)), some (.int (nI i))] [] M1 Q
    exact V.vret dX1_listen_53 rfl (hQ M1 hM1 hH1)
  | succ k ih =>
    intro i hk
    refine V.iload dX1_listen_5 rfl ?_
    refine V.aload_n dX1_listen_7 rfl (i := 0) rfl ?_
    refine V.getR dX1_listen_8 rfl flRX1_23 rfl ⟨by decide, by decide⟩ ?_
    refine V.getI dX1_listen_11 rfl flRX1_27 rfl ⟨by decide, by decide⟩ ?_
    refine V.top (x' := (nI n)) (hn) ?_
    refine V.ic_ge (tgt := 47) dX1_listen_14 (by decide) (fun q => absurd q ((nI_ge (a := i) (b := n) (by omega) (by omega)))) (fun c14 => ?_)
    refine V.aload_n dX1_listen_17 rfl (i := 0) rfl ?_
    refine V.getR dX1_listen_18 rfl flRX1_23 rfl ⟨by decide, by decide⟩ ?_
    refine V.getR dX1_listen_21 rfl flRX1_33 rfl ⟨by decide, by decide⟩ ?_
    refine V.iload dX1_listen_24 rfl ?_
    refine V.aaldBN dX1_listen_26 rfl ⟨by decide, by decide⟩ (by first | assumption | decide | omega) (by decide) ?_
    refine V.iload_n dX1_listen_27 rfl (i := 1) rfl ?_
    refine V.invv (z := mX0_ringsAt) (As := [_]) dX1_listen_28 rfl mlRX1_37 okX0_ringsAt npX0_ringsAt rfl (layO30 (by first | assumption | decide | omega)) rfl (inB30 (by first | assumption | decide | omega)) (Nat.le_of_ble_eq_true rfl) rfl (Nat.le_of_ble_eq_true rfl) (c_ringsAt  (by first | assumption | decide | omega) ?_)
    show V cS g (d + 4) mX1_listen 31 [some (.ref 4), some (.int hour), some (.int w), some (.int (bI (fun b => strk (M (30 + b) 0) (M (30 + b) 1) (M (30 + b) 6) hour) i)), some (.int (nI i))] [.int (b2i (strk (M (30 + i) 0) (M (30 + i) 1) (M (30 + i) 6) hour = true))] (M) Q
    refine V.if_eq (tgt := 41) dX1_listen_31 (by decide) (fun c31 => ?_) (fun c31 => ?_)
    · refine V.lseq (ls' := [some (.ref 4), some (.int hour), some (.int w), some (.int (bI (fun b => strk (M (30 + b) 0) (M (30 + b) 1) (M (30 + b) 6) hour) (i + 1))), some (.int (nI i))]) (by first | (rw [bI_f (p := (fun b => strk (M (30 + b) 0) (M (30 + b) 1) (M (30 + b) 6) hour)) (b2i_0.mp c31)]; rfl) | (rw [bI_f (p := (fun b => strk (M (30 + b) 0) (M (30 + b) 1) (M (30 + b) 6) hour)) (b2i_0.mp c31)]) | (rw [bI_t (p := (fun b => strk (M (30 + b) 0) (M (30 + b) 1) (M (30 + b) 6) hour)) (by omega) (Classical.byContradiction fun z => c31 (b2i_f z))]; rfl)) ?_
      refine V.iinc dX1_listen_41 rfl (v := (nI (i + 1))) (nI_1 _) (by decide) (fun _ h => by cases h; exact Or.inl rfl) rfl ?_
      refine V.goto dX1_listen_44 (tgt := 5) (by decide) ?_
      exact ih (i + 1) (by omega)
    · refine V.iload_n dX1_listen_34 rfl (i := 3) rfl ?_
      refine V.iconst dX1_listen_35 (v := 1) (by decide) ?_
      refine V.iload dX1_listen_36 rfl ?_
      refine V.ishl dX1_listen_38 ?_
      refine V.ior dX1_listen_39 ?_
      refine V.istore_n dX1_listen_40 rfl (i := 3) (by decide) (fun _ h => by cases h; exact Or.inl rfl) rfl ?_
      refine V.lseq (ls' := [some (.ref 4), some (.int hour), some (.int w), some (.int (bI (fun b => strk (M (30 + b) 0) (M (30 + b) 1) (M (30 + b) 6) hour) (i + 1))), some (.int (nI i))]) (by first | (rw [bI_f (p := (fun b => strk (M (30 + b) 0) (M (30 + b) 1) (M (30 + b) 6) hour)) (b2i_0.mp c31)]; rfl) | (rw [bI_f (p := (fun b => strk (M (30 + b) 0) (M (30 + b) 1) (M (30 + b) 6) hour)) (b2i_0.mp c31)]) | (rw [bI_t (p := (fun b => strk (M (30 + b) 0) (M (30 + b) 1) (M (30 + b) 6) hour)) (by omega) (Classical.byContradiction fun z => c31 (b2i_f z))]; rfl)) ?_
      refine V.iinc dX1_listen_41 rfl (v := (nI (i + 1))) (nI_1 _) (by decide) (fun _ h => by cases h; exact Or.inl rfl) rfl ?_
      refine V.goto dX1_listen_44 (tgt := 5) (by decide) ?_
      exact ih (i + 1) (by omega)
set_option maxHeartbeats 4000000 in
set_option maxRecDepth 100000 in
theorem c_listen {g : GG} {d : Nat} {M : Mem} {Q : Option Value → Mem → Prop} {w hour : Int32} {n ne : Nat} (hV : VB M n ne) (hQ : ∀ M', eqx scrH M M' → Hd M' (hpF M (fun b => strk (M (30 + b) 0) (M (30 + b) 1) (M (30 + b) 6) hour) w) (wyF M w) n ne → Q none M') : V cS g (d + 4) mX1_listen 0 [some (.ref 4), some (.int hour), some (.int w), none, none] [] M Q := by
  refine V.iconst dX1_listen_0 (v := 0) (by decide) ?_
  refine V.istore_n dX1_listen_1 rfl (i := 3) (by decide) (fun _ h => by cases h; exact Or.inl rfl) rfl ?_
  refine V.iconst dX1_listen_2 (v := 0) (by decide) ?_
  refine V.istore dX1_listen_3 (i := 4) (by decide) (fun _ h => by cases h; exact Or.inl rfl) rfl ?_
  exact l_listen hV hQ n 0 (by omega)

