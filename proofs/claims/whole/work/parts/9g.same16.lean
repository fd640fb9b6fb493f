/-! ===== alike: slates, the numbers ===== -/
theorem i_le {x y : Int32} : x ≤ y ↔ x.toInt ≤ y.toInt := Int32.le_iff_toInt_le
theorem i_lt {x y : Int32} : x < y ↔ x.toInt < y.toInt := Int32.lt_iff_toInt_lt
theorem i_add {x y : Int32} (h1 : -2147483648 ≤ x.toInt + y.toInt) (h2 : x.toInt + y.toInt ≤ 2147483647) : (x + y).toInt = x.toInt + y.toInt := by
  rw [Int32.toInt_add]
  exact Int.bmod_eq_of_le (by omega) (by omega)
theorem i_sub {x y : Int32} (h1 : -2147483648 ≤ x.toInt - y.toInt) (h2 : x.toInt - y.toInt ≤ 2147483647) : (x - y).toInt = x.toInt - y.toInt := by
  rw [Int32.toInt_sub]
  exact Int.bmod_eq_of_le (by omega) (by omega)
theorem insR_ext {off off' : Nat → Int32} {b : Nat} (hb : off b = off' b) : ∀ r : List Nat, (∀ x, x ∈ r → off x = off' x) → insR off b r = insR off' b r
  | [], _ => rfl
  | x :: r, h => by
    rw [insR, insR, hb, h x List.mem_cons_self, insR_ext hb r (fun y hy => h y (List.mem_cons_of_mem _ hy))]
theorem odR_ext {off off' : Nat → Int32} {p p' : Nat → Bool} : ∀ n, (∀ b, b < n → off b = off' b ∧ p b = p' b) → odR off p n = odR off' p' n
  | 0, _ => rfl
  | n + 1, h => by
    rw [odR, odR, odR_ext n (fun b hb => h b (by omega)), (h n (by omega)).2, insR_ext (h n (by omega)).1 _ (fun x hx => (h x (by have := odR_lt hx; omega)).1)]
/-- two ways to hold apart agree -/
def AL (ge : Nat → Nat → Bool) (G : Nat → Nat → Int32) (off : Nat → Int32) (ge' : Nat → Nat → Bool) (G' : Nat → Nat → Int32) (off' : Nat → Int32) (n : Nat) : Prop := (∀ x, x < n → off x = off' x) ∧ ∀ a b, a < n → b < n → ge a b = ge' a b ∧ (ge a b = true → G a b = G' a b)
section SL
variable {ge ge' : Nat → Nat → Bool} {G G' : Nat → Nat → Int32} {off off' : Nat → Int32} {od : Nat → Nat} {bd : Int32} {m n : Nat}
theorem loS_al (h : AL ge G off ge' G' off' n) (hod : ∀ k, k < m → od k < n) {T : Nat → Int32} {j : Nat} (hj : j < m) : ∀ i, i ≤ j → loS ge G off od bd T j i = loS ge' G' off' od bd T j i
  | 0, _ => by rw [loS, loS, h.1 _ (hod j hj)]
  | i + 1, hi => by
    have q := h.2 (od i) (od j) (hod i (by omega)) (hod j hj)
    rw [loS, loS, loS_al h hod hj i (by omega), ← q.1]
    by_cases c : ge (od i) (od j) = true
    · rw [if_pos c, if_pos c, q.2 c]
    · rw [if_neg c, if_neg c]
theorem loT_al (h : AL ge G off ge' G' off' n) (hod : ∀ k, k < m → od k < n) : ∀ j, j ≤ m → loT ge G off od bd j = loT ge' G' off' od bd j
  | 0, _ => rfl
  | j + 1, hj => by
    funext i
    rw [loT, loT, loT_al h hod j (by omega), loS_al h hod (by omega) j (Nat.le_refl _)]
theorem hiS_al (h : AL ge G off ge' G' off' n) (hod : ∀ k, k < m → od k < n) {T : Nat → Int32} {i : Nat} (hj : i < m) : ∀ c, i + 1 + c ≤ m → hiS ge G off od bd T i c = hiS ge' G' off' od bd T i c
  | 0, _ => by rw [hiS, hiS, h.1 _ (hod i hj)]
  | c + 1, hc => by
    have q := h.2 (od i) (od (i + 1 + c)) (hod i hj) (hod (i + 1 + c) (by omega))
    rw [hiS, hiS, hiS_al h hod hj c (by omega), ← q.1]
    by_cases z : ge (od i) (od (i + 1 + c)) = true
    · rw [if_pos z, if_pos z, q.2 z]
    · rw [if_neg z, if_neg z]
theorem hiT_al (h : AL ge G off ge' G' off' n) (hod : ∀ k, k < m → od k < n) : ∀ c, c ≤ m → hiT ge G off od bd m c = hiT ge' G' off' od bd m c
  | 0, _ => rfl
  | c + 1, hc => by
    funext i
    rw [hiT, hiT, hiT_al h hod c (by omega), hiS_al h hod (by omega) c (by omega)]
theorem lbF_al {T : Nat → Int32} (h : ∀ x, x < n → off x = off' x) (hod : ∀ k, k < m → od k < n) : ∀ k, k ≤ m → lbF T off od k = lbF T off' od k
  | 0, _ => rfl
  | k + 1, hk => by rw [lbF, lbF, lbF_al h hod k (by omega), h _ (hod k (by omega))]
theorem gdF_al {T : Nat → Int32} (h : ∀ x, x < n → off x = off' x) (hod : ∀ k, k < m → od k < n) : ∀ k, k ≤ m → gdF T off od bd k = gdF T off' od bd k
  | 0, _ => rfl
  | k + 1, hk => by rw [gdF, gdF, gdF_al h hod k (by omega), h _ (hod k (by omega))]
theorem foT_al {T : Nat → Int32} (h : ∀ x, x < n → off x = off' x) : ∀ k x, x < n → foT T off od k x = foT T off' od k x
  | 0, x, hx => h x hx
  | k + 1, x, hx => by
    rw [foT, foT]
    show (if x = od k then _ else _) = (if x = od k then _ else _)
    rw [foT_al h k x hx]
theorem tkC_al {T : Nat → Int32} (h : ∀ x, x < n → off x = off' x) (hod : ∀ k, k < m → od k < n) : ∀ k, k ≤ m → tkC T off od k = tkC T off' od k
  | 0, _ => rfl
  | k + 1, hk => by rw [tkC, tkC, tkC_al h hod k (by omega), foT_al h k _ (hod k (by omega))]
theorem heldF_rg9 (x : Int32) : rg (-900) 900 (heldF x (-900) 900) := by
  unfold heldF
  have h : (if x < 900 then x else 900) ≤ (900 : Int32) := by
    by_cases c : x < 900
    · rw [if_pos c]; exact Int32.le_of_lt c
    · rw [if_neg c]; exact Int32.le_refl _
  by_cases c : (-900) < (if x < 900 then x else 900)
  · rw [if_pos c]; exact ⟨Int32.le_of_lt c, h⟩
  · rw [if_neg c]; exact ⟨by decide, by decide⟩
theorem foT_rg {T : Nat → Int32} (h : ∀ x, x < 8 → rg (-900) 900 (off x)) : ∀ k x, x < 8 → rg (-900) 900 (foT T off od k x)
  | 0, x, hx => h x hx
  | k + 1, x, hx => by
    rw [foT]
    show rg (-900) 900 (if x = od k then _ else _)
    by_cases c : x = od k
    · rw [if_pos c]; exact heldF_rg9 _
    · rw [if_neg c]; exact foT_rg h k x hx
/-- a bound starts the slate so much earlier -/
theorem loS_sh {T T0 : Nat → Int32} {b : Int} {j : Nat} (hb : bd.toInt = b) (hb0 : 0 ≤ b) (hb2 : b ≤ 2000) (ho : ∀ k, k < m → -900 ≤ (off (od k)).toInt ∧ (off (od k)).toInt ≤ 900) (hG : ∀ i k, i < m → k < m → ge (od i) (od k) = true → -99999 ≤ (G (od i) (od k)).toInt ∧ (G (od i) (od k)).toInt ≤ 100030) (hm : m ≤ 8) (hj : j < m) (hT : ∀ i, i < j → (T i).toInt = (T0 i).toInt - b ∧ -900 ≤ (T0 i).toInt ∧ (T0 i).toInt ≤ 900 + 100030 * (i : Int)) : ∀ i, i ≤ j → (loS ge G off od bd T j i).toInt = (loS ge G off od 0 T0 j i).toInt - b ∧ -900 ≤ (loS ge G off od 0 T0 j i).toInt ∧ (loS ge G off od 0 T0 j i).toInt ≤ 900 + 100030 * (i : Int)
  | 0, _ => by
    have q := ho j hj
    have z : (0 : Int32).toInt = 0 := by decide
    rw [loS, loS, i_sub (by omega) (by omega), i_sub (by omega) (by omega), hb, z]
    omega
  | i + 1, hi => by
    have ih := loS_sh hb hb0 hb2 ho hG hm hj hT i (by omega)
    have t := hT i (by omega)
    rw [loS, loS]
    by_cases c : ge (od i) (od j) = true
    · have g := hG i j (by omega) hj c
      rw [if_pos c, if_pos c]
      have e1 : (T i + G (od i) (od j)).toInt = (T i).toInt + (G (od i) (od j)).toInt := i_add (by omega) (by omega)
      have e0 : (T0 i + G (od i) (od j)).toInt = (T0 i).toInt + (G (od i) (od j)).toInt := i_add (by omega) (by omega)
      by_cases q : loS ge G off od 0 T0 j i < T0 i + G (od i) (od j)
      · have q' := i_lt.mp q
        have q2 : loS ge G off od bd T j i < T i + G (od i) (od j) := i_lt.mpr (by rw [e1]; omega)
        rw [if_pos q, if_pos q2, e1, e0]
        omega
      · have q' : ¬ (loS ge G off od 0 T0 j i).toInt < (T0 i + G (od i) (od j)).toInt := fun z => q (i_lt.mpr z)
        have q2 : ¬ loS ge G off od bd T j i < T i + G (od i) (od j) := fun z => by have := i_lt.mp z; omega
        rw [if_neg q, if_neg q2]
        omega
    · rw [if_neg c, if_neg c]
      omega
theorem loT_sh {b : Int} (hb : bd.toInt = b) (hb0 : 0 ≤ b) (hb2 : b ≤ 2000) (ho : ∀ k, k < m → -900 ≤ (off (od k)).toInt ∧ (off (od k)).toInt ≤ 900) (hG : ∀ i k, i < m → k < m → ge (od i) (od k) = true → -99999 ≤ (G (od i) (od k)).toInt ∧ (G (od i) (od k)).toInt ≤ 100030) (hm : m ≤ 8) : ∀ j, j ≤ m → ∀ i, i < j → (loT ge G off od bd j i).toInt = (loT ge G off od 0 j i).toInt - b ∧ -900 ≤ (loT ge G off od 0 j i).toInt ∧ (loT ge G off od 0 j i).toInt ≤ 900 + 100030 * (i : Int)
  | 0, _, i, hi => by omega
  | j + 1, hj, i, hi => by
    have ih := loT_sh hb hb0 hb2 ho hG hm j (by omega)
    by_cases c : i = j
    · subst c
      rw [loT_s, loT_s]
      exact loS_sh hb hb0 hb2 ho hG hm (by omega) ih i (Nat.le_refl _)
    · rw [loT_n c, loT_n c]
      exact ih i (by omega)
/-- what is lacking -/
theorem lb_i {T : Nat → Int32} (ho : ∀ k, k < m → -900 ≤ (off (od k)).toInt ∧ (off (od k)).toInt ≤ 900) (hT : ∀ k, k < m → -3000 ≤ (T k).toInt ∧ (T k).toInt ≤ 1000000) : ∀ k, k ≤ m → 0 ≤ (lbF T off od k).toInt ∧ (lbF T off od k).toInt ≤ 1000900 ∧ ∀ b : Int, 0 ≤ b → ((lbF T off od k).toInt ≤ b ↔ ∀ i, i < k → (T i).toInt - (off (od i)).toInt ≤ b)
  | 0, _ => by
    rw [lbF, show (0 : Int32).toInt = 0 from by decide]
    exact ⟨by omega, by omega, fun b hb => ⟨fun _ i hi => by omega, fun _ => hb⟩⟩
  | k + 1, hk => by
    obtain ⟨i1, i2, i3⟩ := lb_i ho hT k (by omega)
    have t := hT k (by omega)
    have q := ho k (by omega)
    have e : (T k - off (od k)).toInt = (T k).toInt - (off (od k)).toInt := i_sub (by omega) (by omega)
    rw [lbF]
    by_cases c : lbF T off od k < T k - off (od k)
    · have c' := i_lt.mp c
      rw [if_pos c, e]
      refine ⟨by omega, by omega, fun b hb => ⟨fun z i hi => ?_, fun z => z k (by omega)⟩⟩
      by_cases x : i = k
      · subst x; exact z
      · exact (i3 b hb).mp (by omega) i (by omega)
    · have c' : ¬ (lbF T off od k).toInt < (T k - off (od k)).toInt := fun z => c (i_lt.mpr z)
      rw [if_neg c]
      refine ⟨i1, i2, fun b hb => ⟨fun z i hi => ?_, fun z => (i3 b hb).mpr (fun i hi => z i (by omega))⟩⟩
      by_cases x : i = k
      · subst x; omega
      · exact (i3 b hb).mp z i (by omega)
theorem gd_i {T : Nat → Int32} {b : Int} (hb : bd.toInt = b) (hb0 : 0 ≤ b) (hb2 : b ≤ 2000) (ho : ∀ k, k < m → -900 ≤ (off (od k)).toInt ∧ (off (od k)).toInt ≤ 900) : ∀ k, k ≤ m → (gdF T off od bd k = true ↔ ∀ i, i < k → (T i).toInt ≤ (off (od i)).toInt + b)
  | 0, _ => ⟨fun _ i hi => by omega, fun _ => rfl⟩
  | k + 1, hk => by
    have q := ho k (by omega)
    have e : (off (od k) + bd).toInt = (off (od k)).toInt + b := by rw [i_add (by omega) (by omega), hb]
    rw [gdF, Bool.and_eq_true, decide_eq_true_eq, gd_i hb hb0 hb2 ho k (by omega), i_le, e]
    refine ⟨fun z i hi => ?_, fun z => ⟨fun i hi => z i (by omega), z k (by omega)⟩⟩
    by_cases x : i = k
    · subst x; exact z.2
    · exact z.1 i (by omega)
/-- too great for the bound: told by the most that lacks, or by each one -/
theorem lb_gd {b : Int} (hb : bd.toInt = b) (hb0 : 0 ≤ b) (hb2 : b ≤ 2000) (ho : ∀ k, k < m → -900 ≤ (off (od k)).toInt ∧ (off (od k)).toInt ≤ 900) (hG : ∀ i k, i < m → k < m → ge (od i) (od k) = true → -99999 ≤ (G (od i) (od k)).toInt ∧ (G (od i) (od k)).toInt ≤ 100030) (hm : m ≤ 8) : bd < lbF (loT ge G off od bd m) off od m ↔ gdF (loT ge G off od bd m) off od bd m = false := by
  have hT : ∀ k, k < m → -3000 ≤ (loT ge G off od bd m k).toInt ∧ (loT ge G off od bd m k).toInt ≤ 1000000 := fun k hk => by
    have := loT_sh hb hb0 hb2 ho hG hm m (Nat.le_refl _) k hk
    omega
  have l := lb_i ho hT m (Nat.le_refl _)
  have g := gd_i (T := loT ge G off od bd m) hb hb0 hb2 ho m (Nat.le_refl _)
  rw [← Bool.not_eq_true, g, i_lt, hb]
  have l3 := l.2.2 b hb0
  constructor
  · intro z y
    exact absurd (l3.mpr (fun i hi => by have := y i hi; omega)) (by omega)
  · intro z
    refine Classical.byContradiction fun y => z (fun i hi => ?_)
    have := l3.mp (by omega) i hi
    omega
/-- the least bound: half of what is lacking -/
theorem least_i (ho : ∀ k, k < m → -900 ≤ (off (od k)).toInt ∧ (off (od k)).toInt ≤ 900) (hG : ∀ i k, i < m → k < m → ge (od i) (od k) = true → -99999 ≤ (G (od i) (od k)).toInt ∧ (G (od i) (od k)).toInt ≤ 100030) (hm : m ≤ 8) : ∃ L : Nat, L ≤ 1000900 ∧ lbF (loT ge G off od 0 m) off od m = nI L ∧ ∀ t, t ≤ 2000 → (gdF (loT ge G off od (nI t) m) off od (nI t) m = true ↔ (L + 1) / 2 ≤ t) := by
  have z0 : (0 : Int32).toInt = 0 := by decide
  have hT : ∀ k, k < m → -3000 ≤ (loT ge G off od 0 m k).toInt ∧ (loT ge G off od 0 m k).toInt ≤ 1000000 := fun k hk => by
    have := loT_sh (bd := 0) z0 (Int.le_refl _) (by decide) ho hG hm m (Nat.le_refl _) k hk
    omega
  have l := lb_i ho hT m (Nat.le_refl _)
  obtain ⟨L, hL, e⟩ := nI_of (x := lbF (loT ge G off od 0 m) off od m) (fun q => by have := i_lt.mp q; omega)
  have eL : (lbF (loT ge G off od 0 m) off od m).toInt = (L : Int) := by rw [e]; exact nI_toInt hL
  refine ⟨L, by omega, e, fun t ht => ?_⟩
  have tI : (nI t).toInt = (t : Int) := nI_toInt (by omega)
  rw [gd_i (b := (t : Int)) tI (by omega) (by omega) ho m (Nat.le_refl _)]
  have l3 := l.2.2 (2 * (t : Int)) (by omega)
  have sh : ∀ i, i < m → (loT ge G off od (nI t) m i).toInt = (loT ge G off od 0 m i).toInt - t := fun i hi => (loT_sh (bd := nI t) (b := (t : Int)) tI (by omega) (by omega) ho hG hm m (Nat.le_refl _) i hi).1
  constructor
  · intro y
    have := l3.mpr (fun i hi => by have := y i hi; rw [sh i hi] at this; omega)
    omega
  · intro y i hi
    have := l3.mp (by omega) i hi
    rw [sh i hi]
    omega
end SL


