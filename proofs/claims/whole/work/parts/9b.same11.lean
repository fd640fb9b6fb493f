/-! ===== alike: apart, check ===== -/
theorem heldR_rg (x : Int32) : rg 0 99999 (heldR x 0 99999) := by
  unfold heldR
  by_cases c : x < 0
  · rw [if_pos c]; exact ⟨by decide, by decide⟩
  · rw [if_neg c]
    by_cases c2 : (99999 : Int32) < x
    · rw [if_pos c2]; exact ⟨by decide, by decide⟩
    · rw [if_neg c2]; exact ⟨Int32.not_lt.mp c, Int32.not_lt.mp c2⟩
theorem wayF_rg {f t w : Int32} (hf : rg 0 99 f) (ht : rg 0 99 t) (hw : rg (-5) 5 w) : rg 0 99999 (wayF f t w) := by
  rw [← way_eq hf ht hw]
  exact heldR_rg _
theorem rg_i {lo hi x : Int32} {l h : Int} (hx : rg lo hi x) (hl : lo.toInt = l) (hh : hi.toInt = h) : l ≤ x.toInt ∧ x.toInt ≤ h := ⟨hl ▸ Int32.le_iff_toInt_le.mp hx.1, hh ▸ Int32.le_iff_toInt_le.mp hx.2⟩
theorem gap_i {br x y : Int32} (hb : rg 0 30 br) (hx : rg 0 99999 x) (hy : rg 0 99999 y) : (br + 1 + x - y).toInt = br.toInt + 1 + x.toInt - y.toInt ∧ -99999 ≤ br.toInt + 1 + x.toInt - y.toInt ∧ br.toInt + 1 + x.toInt - y.toInt ≤ 100030 := by
  have b := rg_i hb (l := 0) (h := 30) (by decide) (by decide)
  have p := rg_i hx (l := 0) (h := 99999) (by decide) (by decide)
  have q := rg_i hy (l := 0) (h := 99999) (by decide) (by decide)
  have e1 : (br + 1).toInt = br.toInt + 1 := by
    rw [Int32.toInt_add, show (1 : Int32).toInt = 1 from by decide]
    exact Int.bmod_eq_of_le (by omega) (by omega)
  have e2 : (br + 1 + x).toInt = br.toInt + 1 + x.toInt := by
    rw [Int32.toInt_add, e1]
    exact Int.bmod_eq_of_le (by omega) (by omega)
  refine ⟨?_, by omega, by omega⟩
  rw [Int32.toInt_sub, e2]
  exact Int.bmod_eq_of_le (by omega) (by omega)
section RE
variable {hp hp' : Nat → Nat → Bool} {wy wy' : Nat → Nat → Int32} {off off' : Nat → Int32} {n ne : Nat} {br : Int32}
/-- gaps are alike: none on both sides, or the same -/
theorem gp_al (h : AG hp wy off hp' wy' off' n ne) {a b : Nat} (ha : a < n) (hb : b < n) (hbr : rg 0 30 br) (hw : ∀ x, x < n → ∀ e, e < ne → rg 0 99999 (wy x e)) : ∀ k, k ≤ ne → (gpF hp wy br a b k = -1000000 ∧ gpR hp' wy' br a b k = -1000000000) ∨ (gpF hp wy br a b k = gpR hp' wy' br a b k ∧ -99999 ≤ (gpF hp wy br a b k).toInt ∧ (gpF hp wy br a b k).toInt ≤ 100030)
  | 0, _ => Or.inl ⟨rfl, rfl⟩
  | k + 1, hk => by
    have ih := gp_al h ha hb hbr hw k (by omega)
    have g := gap_i hbr (hw a ha k (by omega)) (hw b hb k (by omega))
    rw [gpF, gpR, ← (h.1 a ha k (by omega)).1, ← (h.1 b hb k (by omega)).1, ← (h.1 a ha k (by omega)).2, ← (h.1 b hb k (by omega)).2]
    by_cases c : hp a k = true ∧ hp b k = true
    · rw [if_pos c, if_pos c]
      rcases ih with ⟨i1, i2⟩ | ⟨i1, i2, i3⟩
      · have c1 : (-1000000 : Int32) < br + 1 + wy a k - wy b k := Int32.lt_iff_toInt_lt.mpr (by rw [g.1, show (-1000000 : Int32).toInt = -1000000 from by decide]; omega)
        have c2 : (-1000000000 : Int32) < br + 1 + wy a k - wy b k := Int32.lt_iff_toInt_lt.mpr (by rw [g.1, show (-1000000000 : Int32).toInt = -1000000000 from by decide]; omega)
        rw [i1, i2, if_pos c1, if_pos c2]
        exact Or.inr ⟨rfl, by rw [g.1]; omega, by rw [g.1]; omega⟩
      · rw [← i1]
        by_cases c1 : gpF hp wy br a b k < br + 1 + wy a k - wy b k
        · rw [if_pos c1]
          exact Or.inr ⟨rfl, by rw [g.1]; omega, by rw [g.1]; omega⟩
        · rw [if_neg c1]
          exact Or.inr ⟨rfl, i2, i3⟩
    · rw [if_neg c, if_neg c]
      exact ih
end RE
theorem Rel.wyb {M1 M2 : Mem} {n ne t w : Nat} {S0 S1 : List Int32} (h : Rel M1 M2 n ne t w S0 S1) : ∀ x, x < n → ∀ e, e < ne → rg 0 99999 (wyH M1 x e) := fun x hx e he => by
  have := h.hn.2.2
  have := h.hne.2.2
  exact wayF_rg (h.bl.2 x (by omega)).2.2.1 (h.ear.2 e (by omega)) (by rw [h.wn.1.1]; exact h.wn.1.2)

set_option maxHeartbeats 4000000 in
set_option maxRecDepth 100000 in
theorem s_apart {g : GG} {d : Nat} {a u v : Int32} : Same g (d + 5) (d + 67) mX9_apart mX10_apart [some (.ref 0), some (.int a), some (.int u), some (.int v), none] [some (.ref 83), some (.int a), some (.int u), some (.int v), none] := by
  rintro M1 M2 ⟨n, ne, t, wt, S0, S1, h⟩
  have h8 := h.hn.2.2
  have ok : ((0 ≤ a ∧ a < M1 1 2 ∧ a < 8) ∧ (0 ≤ u ∧ u < M1 1 2 ∧ u < 8) ∧ ¬ a = u ∧ 0 ≤ v ∧ v ≤ 23) ↔ ((0 ≤ a ∧ a < nI n) ∧ (0 ≤ u ∧ u < nI n) ∧ ¬ a = u ∧ 0 ≤ v ∧ v ≤ 23) := and_congr (okB h.hn.1 h8) (and_congr_left' (okB h.hn.1 h8))
  have GA : ∀ {b c : Nat}, b < n → c < n → ∀ M1', eqx scrH M1 M1' → (gpF (hpH M1 v) (wyH M1) (M1' 1 6) b c ne = -1000000 ∧ gpR (hpR S0 M2 v) (wyR M2) (M2 84 101) b c ne = -1000000000) ∨ (gpF (hpH M1 v) (wyH M1) (M1' 1 6) b c ne = gpR (hpR S0 M2 v) (wyR M2) (M2 84 101) b c ne ∧ -99999 ≤ (gpF (hpH M1 v) (wyH M1) (M1' 1 6) b c ne).toInt ∧ (gpF (hpH M1 v) (wyH M1) (M1' 1 6) b c ne).toInt ≤ 100030) := fun hb hc M1' k1 => by
    rw [(kc k1).c 1, h.wn.2.1.1]
    exact gp_al (h.ag v) hb hc h.wn.2.1.2 h.wyb ne (Nat.le_refl _)
  refine c9_apart h.vb (fun hn => c10_apart h.vr (fun _ => h.er (by decide) (by decide)) (fun hp => absurd (ok.mpr hp) hn) (fun hp => absurd (ok.mpr hp) hn)) (fun hp b c hb hc ea eu M1' k1 hz => c10_apart h.vr (fun hn => absurd (ok.mp hp) hn) (fun _ b' c' hb' hc' ea' eu' M2' k2 hz' => ?_) (fun _ b' c' hb' hc' ea' eu' M2' k2 hz' => ?_)) (fun hp b c hb hc ea eu M1' k1 hz => c10_apart h.vr (fun hn => absurd (ok.mp hp) hn) (fun _ b' c' hb' hc' ea' eu' M2' k2 hz' => ?_) (fun _ b' c' hb' hc' ea' eu' M2' k2 hz' => ?_))
  · exact ((h.keepC (kc k1)).keepR k2.xx).er (by decide) (by decide)
  all_goals (obtain rfl : b' = b := nI_inj2 (ea'.symm.trans ea) (by omega) (by omega); obtain rfl : c' = c := nI_inj2 (eu'.symm.trans eu) (by omega) (by omega); rcases GA hb hc M1' k1 with ⟨i1, i2⟩ | ⟨i1, i2, i3⟩)
  · exact absurd i2 hz'
  · rw [hz, show (-1000000 : Int32).toInt = -1000000 from by decide] at i2
    omega
  · exact absurd i1 hz
  · rw [i1, hz', show (-1000000000 : Int32).toInt = -1000000000 from by decide] at i2
    omega
  · exact absurd i1 hz
  · exact ⟨_, rfl, by rw [i1], ((h.keepC (kc k1)).keepR k2.xx).e⟩

