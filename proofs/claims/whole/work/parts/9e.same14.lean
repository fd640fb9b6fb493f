/-! ===== alike: winds ===== -/
theorem fst_an {p : Nat → Bool} {m : Nat} : fst p m < m ↔ anB p m = true := by
  rw [anB_iff]
  constructor
  · intro h; exact ⟨_, h, fst_yes p m h⟩
  · rintro ⟨k, hk, hp⟩
    refine Classical.byContradiction fun z => ?_
    rw [fst_none z k hk] at hp
    cases hp
theorem fcR_none {cl : Nat → Nat → Nat → Bool} {ne a : Nat} : ∀ k b, fcR cl ne a k b = none ↔ ∀ x, b ≤ x → x < b + k → anB (cl a x) ne = false
  | 0, b => ⟨fun _ x h1 h2 => by omega, fun _ => rfl⟩
  | k + 1, b => by
    rw [fcR]
    by_cases c : fst (cl a b) ne < ne
    · rw [if_pos c]
      refine ⟨fun z => (by cases z), fun z => ?_⟩
      exact absurd (fst_an.mp c) (by rw [z b (by omega) (by omega)]; decide)
    · rw [if_neg c, fcR_none k (b + 1)]
      refine ⟨fun z x h1 h2 => ?_, fun z x h1 h2 => z x (by omega) (by omega)⟩
      by_cases e : x = b
      · subst e; exact Bool.eq_false_iff.mpr (fun q => c (fst_an.mpr q))
      · exact z x (by omega) (by omega)
theorem fcR_pos {cl : Nat → Nat → Nat → Bool} {ne a : Nat} (h10 : ne ≤ 10) (ha : a < 8) : ∀ k b v, b + k ≤ 8 → fcR cl ne a k b = some v → 0 ≤ v
  | 0, b, v, _, h => by cases h
  | k + 1, b, v, hb, h => by
    rw [fcR] at h
    by_cases c : fst (cl a b) ne < ne
    · rw [if_pos c] at h
      cases h
      exact nI_pos' (by omega)
    · rw [if_neg c] at h
      exact fcR_pos h10 ha k (b + 1) v (by omega) h
theorem fcA_neg {cl : Nat → Nat → Nat → Bool} {n ne : Nat} (h8 : n ≤ 8) (h10 : ne ≤ 10) : ∀ k a, a + k = n → (fcA cl n ne k a < 0 ↔ ∀ x, a ≤ x → ∀ y, x < y → y < n → anB (cl x y) ne = false)
  | 0, a, ha => ⟨fun _ x h1 y h2 h3 => by omega, fun _ => (show (-1 : Int32) < 0 from by decide)⟩
  | k + 1, a, ha => by
    rw [fcA]
    cases e : fcR cl ne a (n - (a + 1)) (a + 1) with
    | some v =>
      refine ⟨fun z => absurd (fcR_pos h10 (by omega) _ _ v (by omega) e) (Int32.not_le.mpr z), fun z => ?_⟩
      have := (fcR_none (cl := cl) (ne := ne) (a := a) (n - (a + 1)) (a + 1)).mpr (fun x h1 h2 => z a (Nat.le_refl _) x (by omega) (by omega))
      rw [this] at e
      cases e
    | none =>
      have e2 := (fcR_none _ _).mp e
      show fcA cl n ne k (a + 1) < 0 ↔ _
      rw [fcA_neg h8 h10 k (a + 1) (by omega)]
      refine ⟨fun z x h1 y h2 h3 => ?_, fun z x h1 => z x (by omega)⟩
      by_cases q : x = a
      · subst q; exact e2 y (by omega) (by omega)
      · exact z x (by omega) y h2 h3
theorem sm_zero {f : Nat → Nat} : ∀ n, sm f n = 0 ↔ ∀ i, i < n → f i = 0
  | 0 => ⟨fun _ i hi => by omega, fun _ => rfl⟩
  | n + 1 => by
    rw [sm, Nat.add_eq_zero_iff, sm_zero n]
    exact ⟨fun z i hi => by by_cases e : i = n; subst e; exact z.2; exact z.1 i (by omega), fun z => ⟨fun i hi => z i (by omega), z n (by omega)⟩⟩
theorem fc_cs {hp : Nat → Nat → Bool} {wy : Nat → Nat → Int32} {br : Int32} {off : Nat → Int32} {n ne : Nat} (h8 : n ≤ 8) (h10 : ne ≤ 10) : fcF (cl2 hp wy br off) n ne < 0 ↔ csT hp wy br off n ne = 0 := by
  unfold fcF csT
  rw [fcA_neg h8 h10 n 0 (by omega), sm_zero]
  constructor
  · intro z b hb
    refine (sm_zero b).mpr (fun a ha => ?_)
    have := z a (by omega) b ha hb
    refine Nat.eq_zero_of_not_pos (fun q => ?_)
    rw [cB_anN, this] at q
    cases q
  · intro z x _ y h2 h3
    have := (sm_zero y).mp (z y h3) x h2
    refine Bool.eq_false_iff.mpr (fun q => ?_)
    have q2 := (cB_anN ne).mpr q
    omega

set_option maxHeartbeats 4000000 in
set_option maxRecDepth 100000 in
theorem s_winds {g : GG} {d : Nat} {a : Int32} : Same g (d + 5) (d + 67) mX9_winds mX10_winds [some (.ref 0), some (.int a), none, none] [some (.ref 83), some (.int a), none, none, none] := by
  rintro M1 M2 ⟨n, ne, t, wt, S0, S1, h⟩
  have h8 := h.hn.2.2
  have h10 := h.hne.2.2
  refine c9_winds h.vb (fun hn => c10_winds h.vr (fun _ => h.er (by decide) (by decide)) (fun hp => absurd hp hn)) (fun hp M1' k1 => c10_winds h.vr (fun hn => absurd hp hn) (fun _ M2' k2 => ?_))
  refine ⟨_, rfl, congrArg (fun q => some (Value.int q)) (bI_ext (fun j hj => ?_)).symm, ((h.keepC (kc k1)).keepR k2).e⟩
  unfold cmW cwR caR
  have hx : wdM M2 j 84 100 = wN j := put_s
  have ho : ∀ i, i ≠ 100 → i ≠ 107 → wdM M2 j 84 i = M2 84 i := fun i hi _ => put_n (fun z => hi z.2)
  have ag : AG (hpF M1 (fun b => strk (M1 (30 + b) 0) (M1 (30 + b) 1) (M1 (30 + b) 6) a) (wN j)) (wyF M1 (wN j)) (fun b => M1 (30 + b) 4) (hpR S0 (wdM M2 j) a) (wyR (wdM M2 j)) (offR (wdM M2 j)) n ne := ⟨fun b hb e he => ⟨hp_al h hb he hx ho, wy_al h hb he hx ho⟩, fun b hb => by show M1 (30 + b) 4 = wdM M2 j 84 (108 + 7 * b + 4); rw [ho _ (by omega) (by omega)]; exact h.bl.at hb (by decide)⟩
  rw [ag.fc, ca_T h8 h10, h.wn.2.1.1, show wdM M2 j 84 101 = M2 84 101 from ho 101 (by decide) (by decide)]
  have hT := csT_le (hp := hpR S0 (wdM M2 j) a) (wy := wyR (wdM M2 j)) (br := M2 84 101) (off := offR (wdM M2 j)) h8 h10
  refine decide_eq_decide.mpr ((fc_cs h8 h10).trans ⟨fun z => by rw [z]; rfl, fun z => nI_inj2 (b := 0) z (by omega) (by omega)⟩)

