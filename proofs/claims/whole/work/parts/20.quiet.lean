/-! ===== the quietest hour ===== -/
def adP (st : Nat → Nat → Bool) (c : Nat → Nat → Int32) (a b : Nat) (f : Nat → Int32) : Nat → Int32 := fun h => if h < 24 ∧ st a h = true ∧ st b h = true ∧ 0 < c a b then f h + c a b else f h
def hqR (st : Nat → Nat → Bool) (c : Nat → Nat → Int32) (a : Nat) : Nat → Nat → (Nat → Int32) → (Nat → Int32)
  | 0, _, f => f
  | k + 1, b, f => hqR st c a k (b + 1) (adP st c a b f)
def hqA (st : Nat → Nat → Bool) (c : Nat → Nat → Int32) (n : Nat) : Nat → Nat → (Nat → Int32) → (Nat → Int32)
  | 0, _, f => f
  | k + 1, a, f => hqA st c n k (a + 1) (hqR st c a (n - (a + 1)) (a + 1) f)
/-- the place of the least of f 0 .. f h, the first of like ones -/
def argm (f : Nat → Int32) : Nat → Nat
  | 0 => 0
  | h + 1 => if f (h + 1) < f (argm f h) then h + 1 else argm f h
theorem argm_le (f : Nat → Int32) : ∀ h, argm f h ≤ h
  | 0 => Nat.le_refl _
  | h + 1 => by
    have := argm_le f h
    unfold argm
    split <;> omega
theorem argm_cong {f g : Nat → Int32} : ∀ {h : Nat}, (∀ k, k ≤ h → f k = g k) → argm f h = argm g h
  | 0, _ => rfl
  | h + 1, e => by
    have ih := argm_cong (f := f) (g := g) (h := h) (fun k hk => e k (by omega))
    unfold argm
    rw [ih, e (h + 1) (by omega), e (argm g h) (by have := argm_le g h; omega)]
theorem allB : ∀ n, n ≤ 8 → ((1 : Int32) <<< (nI n &&& 31)) - 1 = bI (fun _ => true) n := by decide +kernel
abbrev scrQ : List Nat := 54 :: scrH

set_option maxHeartbeats 4000000 in
set_option maxRecDepth 100000 in
theorem l_q0 {g : GG} {d : Nat} {Q : Option Value → Mem → Prop} : ∀ (k h : Nat) (M : Mem), h + k = 24 → (∀ M', eqx [54] M M' → (∀ i, i < 24 → h ≤ i → M' 54 i = 0) → (∀ i, i < h → M' 54 i = M 54 i) → V cS g d mX1_quietestHour 43 [some (.ref 4), some (.int (nI 24)), none] [] M' Q) → V cS g d mX1_quietestHour 24 [some (.ref 4), some (.int (nI h)), none] [] M Q := by
  intro k
  induction k with
  | zero =>
    intro h M hk hc
    obtain rfl : h = 24 := by omega
    refine V.iload_n dX1_quietestHour_24 rfl (i := 1) rfl ?_
    refine V.bipush dX1_quietestHour_25 (v := 24) (by decide) ?_
    refine V.ic_ge (tgt := 43) dX1_quietestHour_27 (by decide) (fun c27 => ?_) (fun q => absurd ((by decide)) q)
    exact hc M eqx.rf (fun i h1 h2 => absurd h2 (by omega)) (fun _ _ => rfl)
  | succ k ih =>
    intro h M hk hc
    have hh : h < 24 := by omega
    refine V.iload_n dX1_quietestHour_24 rfl (i := 1) rfl ?_
    refine V.bipush dX1_quietestHour_25 (v := 24) (by decide) ?_
    refine V.ic_ge (tgt := 43) dX1_quietestHour_27 (by decide) (fun q => absurd q ((nI_ge (a := h) (b := 24) (by omega) (by omega)))) (fun c27 => ?_)
    refine V.aload_n dX1_quietestHour_30 rfl (i := 0) rfl ?_
    refine V.getR dX1_quietestHour_31 rfl flRX1_20 rfl ⟨by decide, by decide⟩ ?_
    refine V.iload_n dX1_quietestHour_34 rfl (i := 1) rfl ?_
    refine V.iconst dX1_quietestHour_35 (v := 0) (by decide) ?_
    refine V.iastN dX1_quietestHour_36 rfl ⟨by decide, by decide⟩ (by first | assumption | decide | omega) (by decide) ?_
    refine V.iinc dX1_quietestHour_37 rfl (v := (nI (h + 1))) (nI_1 _) (by decide) (fun _ h => by cases h; exact Or.inl rfl) rfl ?_
    refine V.goto dX1_quietestHour_40 (tgt := 24) (by decide) ?_
    exact ih (h + 1) _ (by omega) (fun M' he h1 h2 => hc M' ((eqx.rf.put (by decide)).tr he) (fun i hi1 hi2 => by by_cases q : i = h; subst q; rw [h2 i (by omega), put_s]; exact h1 i hi1 (by omega)) (fun i hi => by rw [h2 i (by omega), put_n (fun q => by omega)]))
set_option maxHeartbeats 4000000 in
set_option maxRecDepth 100000 in
theorem l_qR {g : GG} {d : Nat} {Q : Option Value → Mem → Prop} {M0 : Mem} {hp : Nat → Nat → Bool} {wy : Nat → Nat → Int32} {n ne : Nat} (hN : cnts M0 n ne) {a : Nat} (ha : a < n) : ∀ (k b : Nat) (M : Mem) (f : Nat → Int32), b + k = n → (∀ x, x ≠ 54 → M x = M0 x) → Hd M hp wy n ne → M 54 = f → (∀ M', (∀ x, x ≠ 54 → M' x = M0 x) → M' 54 = hqR (fun b h => strk (M0 (30 + b) 0) (M0 (30 + b) 1) (M0 (30 + b) 6) (nI h)) (fun a b => nI (cB (cl2 hp wy (M0 1 6) (fun b => M0 (30 + b) 4) a b) ne)) a k b f → V cS g (d + 3) mX1_quietestHour 92 [some (.ref 4), some (.int (nI a)), some (.int (nI n))] [] M' Q) → V cS g (d + 3) mX1_quietestHour 60 [some (.ref 4), some (.int (nI a)), some (.int (nI b))] [] M Q := by
  intro k
  induction k with
  | zero =>
    intro b M f hk he hH hf hc
    obtain rfl : b = n := by omega
    have hn : M 1 2 = nI b := by rw [he 1 (by decide)]; exact hN.1
    refine V.iload_n dX1_quietestHour_60 rfl (i := 2) rfl ?_
    refine V.aload_n dX1_quietestHour_61 rfl (i := 0) rfl ?_
    refine V.getR dX1_quietestHour_62 rfl flRX1_23 rfl ⟨by decide, by decide⟩ ?_
    refine V.getI dX1_quietestHour_65 rfl flRX1_27 rfl ⟨by decide, by decide⟩ ?_
    refine V.top (x' := (nI b)) (hn) ?_
    refine V.ic_ge (tgt := 92) dX1_quietestHour_68 (by decide) (fun c68 => ?_) (fun q => absurd ((Int32.le_refl _)) q)
    exact hc M he hf
  | succ k ih =>
    intro b M f hk he hH hf hc
    have h8 := hN.2.1
    have h10 := hN.2.2.2
    have hn : M 1 2 = nI n := by rw [he 1 (by decide)]; exact hN.1
    have hNM : cnts M n ne := by unfold cnts; rw [he 1 (by decide)]; exact hN
    have hb30 : ∀ x, M (30 + x) = M0 (30 + x) ∨ 30 + x = 54 := fun x => by by_cases q : 30 + x = 54; exact Or.inr q; exact Or.inl (he _ q)
    have hofs : ∀ x, x < 8 → M (30 + x) = M0 (30 + x) := fun x hx => he _ (by omega)
    have hcl : bI (cl2 hp wy (M 1 6) (fun b => M (30 + b) 4) a b) ne = bI (cl2 hp wy (M0 1 6) (fun b => M0 (30 + b) 4) a b) ne := by unfold cl2; dsimp only; rw [he 1 (by decide), hofs a (by omega), hofs b (by omega)]
    refine V.iload_n dX1_quietestHour_60 rfl (i := 2) rfl ?_
    refine V.aload_n dX1_quietestHour_61 rfl (i := 0) rfl ?_
    refine V.getR dX1_quietestHour_62 rfl flRX1_23 rfl ⟨by decide, by decide⟩ ?_
    refine V.getI dX1_quietestHour_65 rfl flRX1_27 rfl ⟨by decide, by decide⟩ ?_
    refine V.top (x' := (nI n)) (hn) ?_
    refine V.ic_ge (tgt := 92) dX1_quietestHour_68 (by decide) (fun q => absurd q ((nI_ge (a := b) (b := n) (by omega) (by omega)))) (fun c68 => ?_)
    refine V.aload_n dX1_quietestHour_71 rfl (i := 0) rfl ?_
    refine V.iload_n dX1_quietestHour_72 rfl (i := 1) rfl ?_
    refine V.iload_n dX1_quietestHour_73 rfl (i := 2) rfl ?_
    refine V.aload_n dX1_quietestHour_74 rfl (i := 0) rfl ?_
    refine V.iload_n dX1_quietestHour_75 rfl (i := 1) rfl ?_
    refine V.iload_n dX1_quietestHour_76 rfl (i := 2) rfl ?_
    refine V.invv (z := mX1_earsOfClash_) (As := [_, _]) dX1_quietestHour_77 rfl mlRX1_69 okX1_earsOfClash_ npX1_earsOfClash_ rfl rfl rfl ⟨by decide, by decide⟩ (Nat.le_of_ble_eq_true rfl) rfl (Nat.le_of_ble_eq_true rfl) (c_eoc2 hNM hH ha (by omega) ?_)
    show V cS g (d + 3) mX1_quietestHour 80 [some (.ref 4), some (.int (nI a)), some (.int (nI b))] [.int (bI (cl2 hp wy (M 1 6) (fun b => M (30 + b) 4) a b) ne), .int (nI b), .int (nI a), .ref 4] M Q
    refine V.top (x' := (bI (cl2 hp wy (M0 1 6) (fun b => M0 (30 + b) 4) a b) ne)) (hcl) ?_
    refine V.invs (z := mJ6_bitCount_0f7a4) (As := [_]) dX1_quietestHour_80 rfl mlRX1_72 okJ6_bitCount_0f7a4 npJ6_bitCount_0f7a4 rfl (Nat.le_of_ble_eq_true rfl) rfl (Nat.le_of_ble_eq_true rfl) (c_bitCount   ?_)
    show V cS g (d + 3) mX1_quietestHour 83 [some (.ref 4), some (.int (nI a)), some (.int (nI b))] [.int (bcF (bI (cl2 hp wy (M0 1 6) (fun b => M0 (30 + b) 4) a b) ne)), .int (nI b), .int (nI a), .ref 4] (M) Q
    refine V.top (x' := (nI (cB (cl2 hp wy (M0 1 6) (fun b => M0 (30 + b) 4) a b) ne))) ((bcF_bI h10)) ?_
    refine V.invv (z := mX1_addHourly) (As := [_, _, _]) dX1_quietestHour_83 rfl mlRX1_80 okX1_addHourly npX1_addHourly rfl rfl rfl ⟨by decide, by decide⟩ (Nat.le_of_ble_eq_true rfl) rfl (Nat.le_of_ble_eq_true rfl) (c_addH (by omega) (by omega) ?_)
    show V cS g (d + 3) mX1_quietestHour 86 [some (.ref 4), some (.int (nI a)), some (.int (nI b))] [] (um M 54 (fun i => if i < 24 ∧ strk (M (30 + a) 0) (M (30 + a) 1) (M (30 + a) 6) (nI i) = true ∧ strk (M (30 + b) 0) (M (30 + b) 1) (M (30 + b) 6) (nI i) = true ∧ 0 < nI (cB (cl2 hp wy (M0 1 6) (fun b => M0 (30 + b) 4) a b) ne) then M 54 i + nI (cB (cl2 hp wy (M0 1 6) (fun b => M0 (30 + b) 4) a b) ne) else M 54 i)) Q
    refine V.iinc dX1_quietestHour_86 rfl (v := (nI (b + 1))) (nI_1 _) (by decide) (fun _ h => by cases h; exact Or.inl rfl) rfl ?_
    refine V.goto dX1_quietestHour_89 (tgt := 60) (by decide) ?_
    exact ih (b + 1) _ (adP (fun b h => strk (M0 (30 + b) 0) (M0 (30 + b) 1) (M0 (30 + b) 6) (nI h)) (fun a b => nI (cB (cl2 hp wy (M0 1 6) (fun b => M0 (30 + b) 4) a b) ne)) a b f) (by omega) (fun x hx => by rw [um_cell hx]; exact he x hx) ⟨fun e h1 => by rw [um_cell (by decide)]; exact hH.1 e h1, fun x e h1 h2 h3 => by rw [um_cell (by omega)]; exact hH.2 x e h1 h2 h3⟩ (by rw [um_s, hofs a (by omega), hofs b (by omega), hf]; rfl) hc
set_option maxHeartbeats 4000000 in
set_option maxRecDepth 100000 in
theorem l_qA {g : GG} {d : Nat} {Q : Option Value → Mem → Prop} {M0 : Mem} {hp : Nat → Nat → Bool} {wy : Nat → Nat → Int32} {n ne : Nat} (hN : cnts M0 n ne) (hHx : ∀ M', (∀ x, x ≠ 54 → M' x = M0 x) → Hd M' hp wy n ne) : ∀ (k a : Nat) (M : Mem) (f : Nat → Int32) (l2 : Option Value), a + k = n → (∀ x, x ≠ 54 → M x = M0 x) → M 54 = f → (∀ M', (∀ x, x ≠ 54 → M' x = M0 x) → M' 54 = hqA (fun b h => strk (M0 (30 + b) 0) (M0 (30 + b) 1) (M0 (30 + b) 6) (nI h)) (fun a b => nI (cB (cl2 hp wy (M0 1 6) (fun b => M0 (30 + b) 4) a b) ne)) n k a f → V cS g (d + 3) mX1_quietestHour 98 [some (.ref 4), some (.int (nI n)), none] [] M' Q) → V cS g (d + 3) mX1_quietestHour 45 [some (.ref 4), some (.int (nI a)), l2] [] M Q := by
  intro k
  induction k with
  | zero =>
    intro a M f l2 hk he hf hc
    obtain rfl : a = n := by omega
    have hn : M 1 2 = nI a := by rw [he 1 (by decide)]; exact hN.1
    refine V.fg (ls' := [some (.ref 4), some (.int (nI a)), none]) ⟨rfl, rfl, trivial⟩ ?_
    refine V.iload_n dX1_quietestHour_45 rfl (i := 1) rfl ?_
    refine V.aload_n dX1_quietestHour_46 rfl (i := 0) rfl ?_
    refine V.getR dX1_quietestHour_47 rfl flRX1_23 rfl ⟨by decide, by decide⟩ ?_
    refine V.getI dX1_quietestHour_50 rfl flRX1_27 rfl ⟨by decide, by decide⟩ ?_
    refine V.top (x' := (nI a)) (hn) ?_
    refine V.ic_ge (tgt := 98) dX1_quietestHour_53 (by decide) (fun c53 => ?_) (fun q => absurd ((Int32.le_refl _)) q)
    exact hc M he hf
  | succ k ih =>
    intro a M f l2 hk he hf hc
    have h8 := hN.2.1
    have hn : M 1 2 = nI n := by rw [he 1 (by decide)]; exact hN.1
    refine V.fg (ls' := [some (.ref 4), some (.int (nI a)), none]) ⟨rfl, rfl, trivial⟩ ?_
    refine V.iload_n dX1_quietestHour_45 rfl (i := 1) rfl ?_
    refine V.aload_n dX1_quietestHour_46 rfl (i := 0) rfl ?_
    refine V.getR dX1_quietestHour_47 rfl flRX1_23 rfl ⟨by decide, by decide⟩ ?_
    refine V.getI dX1_quietestHour_50 rfl flRX1_27 rfl ⟨by decide, by decide⟩ ?_
    refine V.top (x' := (nI n)) (hn) ?_
    refine V.ic_ge (tgt := 98) dX1_quietestHour_53 (by decide) (fun q => absurd q ((nI_ge (a := a) (b := n) (by omega) (by omega)))) (fun c53 => ?_)
    refine V.iload_n dX1_quietestHour_56 rfl (i := 1) rfl ?_
    refine V.iconst dX1_quietestHour_57 (v := 1) (by decide) ?_
    refine V.iadd dX1_quietestHour_58 ?_
    refine V.top (x' := (nI (a + 1))) (nI_add a 1) ?_
    refine V.istore_n dX1_quietestHour_59 rfl (i := 2) (by decide) (fun _ h => by cases h; exact Or.inl rfl) rfl ?_
    refine l_qR hN (by omega) (n - (a + 1)) (a + 1) M f (by omega) he (hHx M he) hf (fun M' he' hf' => ?_)
    refine V.iinc dX1_quietestHour_92 rfl (v := (nI (a + 1))) (nI_1 _) (by decide) (fun _ h => by cases h; exact Or.inl rfl) rfl ?_
    refine V.goto dX1_quietestHour_95 (tgt := 45) (by decide) ?_
    exact ih (a + 1) M' _ _ (by omega) he' hf' hc
set_option maxHeartbeats 4000000 in
set_option maxRecDepth 100000 in
theorem l_qm {g : GG} {d : Nat} {M : Mem} {Q : Option Value → Mem → Prop} {f : Nat → Int32} (hf : ∀ h, h < 24 → M 54 h = f h) (hQ : Q (some (.int (nI (argm f 23)))) M) : ∀ (k h : Nat), h + k = 24 → 1 ≤ h → V cS g d mX1_quietestHour 102 [some (.ref 4), some (.int (nI (argm f (h - 1)))), some (.int (nI h))] [] M Q := by
  intro k
  induction k with
  | zero =>
    intro h hk h1
    obtain rfl : h = 24 := by omega
    refine V.iload_n dX1_quietestHour_102 rfl (i := 2) rfl ?_
    refine V.bipush dX1_quietestHour_103 (v := 24) (by decide) ?_
    refine V.ic_ge (tgt := 131) dX1_quietestHour_105 (by decide) (fun c105 => ?_) (fun q => absurd ((by decide)) q)
    refine V.iload_n dX1_quietestHour_131 rfl (i := 1) rfl ?_
    exact V.ret dX1_quietestHour_132 rfl (hQ)
  | succ k ih =>
    intro h hk h1
    have hh : h < 24 := by omega
    have ha : argm f (h - 1) < 24 := by have := argm_le f (h - 1); omega
    have hs : h + 1 - 1 = (h - 1) + 1 := by omega
    have hs2 : h - 1 + 1 = h := by omega
    refine V.iload_n dX1_quietestHour_102 rfl (i := 2) rfl ?_
    refine V.bipush dX1_quietestHour_103 (v := 24) (by decide) ?_
    refine V.ic_ge (tgt := 131) dX1_quietestHour_105 (by decide) (fun q => absurd q ((nI_ge (a := h) (b := 24) (by omega) (by omega)))) (fun c105 => ?_)
    refine V.aload_n dX1_quietestHour_108 rfl (i := 0) rfl ?_
    refine V.getR dX1_quietestHour_109 rfl flRX1_20 rfl ⟨by decide, by decide⟩ ?_
    refine V.iload_n dX1_quietestHour_112 rfl (i := 2) rfl ?_
    refine V.ialdN dX1_quietestHour_113 rfl ⟨by decide, by decide⟩ (by first | assumption | decide | omega) (by decide) ?_
    refine V.top (x' := (f h)) ((hf h hh)) ?_
    refine V.aload_n dX1_quietestHour_114 rfl (i := 0) rfl ?_
    refine V.getR dX1_quietestHour_115 rfl flRX1_20 rfl ⟨by decide, by decide⟩ ?_
    refine V.iload_n dX1_quietestHour_118 rfl (i := 1) rfl ?_
    refine V.ialdN dX1_quietestHour_119 rfl ⟨by decide, by decide⟩ (by first | assumption | decide | omega) (by decide) ?_
    refine V.top (x' := (f (argm f (h - 1)))) ((hf _ ha)) ?_
    refine V.ic_ge (tgt := 125) dX1_quietestHour_120 (by decide) (fun c120 => ?_) (fun c120 => ?_)
    · refine V.lseq (ls' := [some (.ref 4), some (.int (nI (argm f (h + 1 - 1)))), some (.int (nI h))]) (by first | (rw [hs, argm, hs2, if_neg (Int32.not_lt.mpr c120)]; try rfl) | (rw [hs, argm, hs2, if_pos (Int32.not_le.mp c120)]; try rfl)) ?_
      refine V.iinc dX1_quietestHour_125 rfl (v := (nI (h + 1))) (nI_1 _) (by decide) (fun _ h => by cases h; exact Or.inl rfl) rfl ?_
      refine V.goto dX1_quietestHour_128 (tgt := 102) (by decide) ?_
      exact ih (h + 1) (by omega) (by omega)
    · refine V.iload_n dX1_quietestHour_123 rfl (i := 2) rfl ?_
      refine V.istore_n dX1_quietestHour_124 rfl (i := 1) (by decide) (fun _ h => by cases h; exact Or.inl rfl) rfl ?_
      refine V.lseq (ls' := [some (.ref 4), some (.int (nI (argm f (h + 1 - 1)))), some (.int (nI h))]) (by first | (rw [hs, argm, hs2, if_neg (Int32.not_lt.mpr c120)]; try rfl) | (rw [hs, argm, hs2, if_pos (Int32.not_le.mp c120)]; try rfl)) ?_
      refine V.iinc dX1_quietestHour_125 rfl (v := (nI (h + 1))) (nI_1 _) (by decide) (fun _ h => by cases h; exact Or.inl rfl) rfl ?_
      refine V.goto dX1_quietestHour_128 (tgt := 102) (by decide) ?_
      exact ih (h + 1) (by omega) (by omega)
theorem hqR_cong {st st' : Nat → Nat → Bool} {c c' : Nat → Nat → Int32} {a n : Nat} (hst : ∀ b, b < n → st b = st' b) (hc : ∀ b, b < n → c a b = c' a b) (ha : a < n) : ∀ (k b : Nat) (f f' : Nat → Int32), b + k ≤ n → (∀ h, h < 24 → f h = f' h) → ∀ h, h < 24 → hqR st c a k b f h = hqR st' c' a k b f' h
  | 0, b, f, f', _, hf, h, hh => hf h hh
  | k + 1, b, f, f', hk, hf, h, hh => by
    refine hqR_cong hst hc ha k (b + 1) _ _ (by omega) (fun i hi => ?_) h hh
    unfold adP
    rw [hst a ha, hst b (by omega), hc b (by omega), hf i hi]
theorem hqA_cong {st st' : Nat → Nat → Bool} {c c' : Nat → Nat → Int32} {n : Nat} (hst : ∀ b, b < n → st b = st' b) (hc : ∀ a b, a < n → b < n → c a b = c' a b) : ∀ (k a : Nat) (f f' : Nat → Int32), a + k ≤ n → (∀ h, h < 24 → f h = f' h) → ∀ h, h < 24 → hqA st c n k a f h = hqA st' c' n k a f' h
  | 0, a, f, f', _, hf, h, hh => hf h hh
  | k + 1, a, f, f', hk, hf, h, hh => hqA_cong hst hc k (a + 1) _ _ (by omega) (fun i hi => hqR_cong hst (fun b hb => hc a b (by omega) hb) (by omega) (n - (a + 1)) (a + 1) f f' (by omega) hf i hi) h hh

set_option maxHeartbeats 4000000 in
set_option maxRecDepth 100000 in
theorem c_quiet {g : GG} {d : Nat} {M : Mem} {Q : Option Value → Mem → Prop} {n ne : Nat} (hV : VB M n ne) (hQ : ∀ M', eqx scrQ M M' → (∀ h, h < 24 → M' 54 h = (hqA (fun b h => strk (M (30 + b) 0) (M (30 + b) 1) (M (30 + b) 6) (nI h)) (fun a b => nI (cB (cl2 (hpF M (fun _ => true) (M 1 5)) (wyF M (M 1 5)) (M 1 6) (fun b => M (30 + b) 4) a b) ne)) n n 0 (fun _ => 0)) h) → Q (some (.int (nI (argm (hqA (fun b h => strk (M (30 + b) 0) (M (30 + b) 1) (M (30 + b) 6) (nI h)) (fun a b => nI (cB (cl2 (hpF M (fun _ => true) (M 1 5)) (wyF M (M 1 5)) (M 1 6) (fun b => M (30 + b) 4) a b) ne)) n n 0 (fun _ => 0)) 23)))) M') : V cS g (d + 4) mX1_quietestHour 0 [some (.ref 4), none, none] [] M Q := by
  have hn := hV.1
  have h8 := hV.2.1
  refine V.aload_n dX1_quietestHour_0 rfl (i := 0) rfl ?_
  refine V.iconst dX1_quietestHour_1 (v := 1) (by decide) ?_
  refine V.aload_n dX1_quietestHour_2 rfl (i := 0) rfl ?_
  refine V.getR dX1_quietestHour_3 rfl flRX1_23 rfl ⟨by decide, by decide⟩ ?_
  refine V.getI dX1_quietestHour_6 rfl flRX1_27 rfl ⟨by decide, by decide⟩ ?_
  refine V.top (x' := (nI n)) (hn) ?_
  refine V.ishl dX1_quietestHour_9 ?_
  refine V.iconst dX1_quietestHour_10 (v := 1) (by decide) ?_
  refine V.isub dX1_quietestHour_11 ?_
  refine V.top (x' := (bI (fun _ => true) n)) ((allB n h8)) ?_
  refine V.aload_n dX1_quietestHour_12 rfl (i := 0) rfl ?_
  refine V.getR dX1_quietestHour_13 rfl flRX1_23 rfl ⟨by decide, by decide⟩ ?_
  refine V.getI dX1_quietestHour_16 rfl flRX1_77 rfl ⟨by decide, by decide⟩ ?_
  refine V.invv (z := mX1_listenTo) (As := [_, _]) dX1_quietestHour_19 rfl mlRX1_43 okX1_listenTo npX1_listenTo rfl rfl rfl ⟨by decide, by decide⟩ (Nat.le_of_ble_eq_true rfl) rfl (Nat.le_of_ble_eq_true rfl) (c_listenTo hV (fun M1 hM1 hH1 => ?_))
  show V cS g (d + 4) mX1_quietestHour 22 [some (.ref 4), none, none] [] M1 Q
  refine V.iconst dX1_quietestHour_22 (v := 0) (by decide) ?_
  refine V.istore_n dX1_quietestHour_23 rfl (i := 1) (by decide) (fun _ h => by cases h; exact Or.inl rfl) rfl ?_
  refine l_q0 24 0 M1 (by omega) (fun M2 hM2 hz _ => ?_)
  have hV1 : VB M1 n ne := hV.eq hM1 (by decide) (by decide) (by decide) (fun b hb => sH30 hb)
  have hN2 : cnts M2 n ne := hV1.cn.eq hM2 (by decide)
  have hE2 : ∀ x, x ≠ 54 → M2 x = M1 x := fun x hx => hM2 x (by simpa using hx)
  have hHx : ∀ M', (∀ x, x ≠ 54 → M' x = M2 x) → Hd M' (hpF M (fun _ => true) (M 1 5)) (wyF M (M 1 5)) n ne := fun M' h => ⟨fun e he => by rw [h 29 (by decide), hE2 29 (by decide)]; exact hH1.1 e he, fun b e hb he hh => by rw [h (46 + b) (by omega), hE2 (46 + b) (by omega)]; exact hH1.2 b e hb he hh⟩
  refine V.iconst dX1_quietestHour_43 (v := 0) (by decide) ?_
  refine V.istore_n dX1_quietestHour_44 rfl (i := 1) (by decide) (fun _ h => by cases h; exact Or.inl rfl) rfl ?_
  refine l_qA hN2 hHx n 0 M2 (M2 54) none (by omega) (fun _ _ => rfl) rfl (fun M3 hM3 hf3 => ?_)
  have hb : ∀ b, b < 8 → M2 (30 + b) = M (30 + b) := fun b hb => by rw [hE2 (30 + b) (by omega), hM1 (30 + b) (sH30 hb)]
  have h1 : M2 1 = M 1 := by rw [hE2 1 (by decide), hM1 1 (by decide)]
  have hF : ∀ h, h < 24 → M3 54 h = (hqA (fun b h => strk (M (30 + b) 0) (M (30 + b) 1) (M (30 + b) 6) (nI h)) (fun a b => nI (cB (cl2 (hpF M (fun _ => true) (M 1 5)) (wyF M (M 1 5)) (M 1 6) (fun b => M (30 + b) 4) a b) ne)) n n 0 (fun _ => 0)) h := fun h hh => by
    rw [hf3]
    refine hqA_cong (fun b hb8 => by rw [hb b (by omega)]) (fun a b ha hb8 => by unfold cl2; dsimp only; rw [hb a (by omega), hb b (by omega), h1]) n 0 _ _ (by omega) (fun i hi => hz i hi (Nat.zero_le _)) h hh
  have he : eqx scrQ M M3 := fun c hc => by
    rw [List.mem_cons, not_or] at hc
    rw [hM3 c hc.1, hE2 c hc.1]
    exact hM1 c hc.2
  refine V.iconst dX1_quietestHour_98 (v := 0) (by decide) ?_
  refine V.istore_n dX1_quietestHour_99 rfl (i := 1) (by decide) (fun _ h => by cases h; exact Or.inl rfl) rfl ?_
  refine V.iconst dX1_quietestHour_100 (v := 1) (by decide) ?_
  refine V.istore_n dX1_quietestHour_101 rfl (i := 2) (by decide) (fun _ h => by cases h; exact Or.inl rfl) rfl ?_
  exact l_qm hF (hQ M3 he hF) 23 1 (by omega) (by omega)

