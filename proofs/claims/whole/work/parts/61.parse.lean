/-! ===== the parser, as a function ===== -/
/-- the level of a sign -/
def lvS (c : Int32) : Int32 := if c = 124 then 0 else if c = 38 then 1 else if c = 60 ∨ c = 61 ∨ c = 62 then 2 else if c = 43 ∨ c = 45 then 3 else if c = 42 ∨ c = 47 ∨ c = 37 then 4 else -1
def dig (c : Int32) : Bool := decide (48 ≤ c) && decide (c ≤ 57)
def nx (bf : Nat → Int32) (sz k : Nat) : Int32 := if k < sz then bf k else -1
/-- how many digits, of so many at most -/
def ndF (nt : Nat → Int32) : Nat → Nat → Nat
  | _, 0 => 0
  | k, n + 1 => if dig (nt k) = true then 1 + ndF nt (k + 1) n else 0
def nvF (nt : Nat → Int32) : Nat → Nat → Int32 → Int32
  | _, 0, v => v
  | k, n + 1, v => if dig (nt k) = true then nvF nt (k + 1) n (v * 10 + nt k - 48) else v
/-- reads from place k on: modes 0 to 4 a level, 5 a unit, 6 + l what follows an operand of level l; fuel, mode, open ones, place, steps -/
def rd (nt : Nat → Int32) (us : Nat) : Nat → Nat → Nat → Nat → List Int32 → Bool × Nat × List Int32
  | 0, _, _, k, out => (false, k, out)
  | f + 1, md, op, k, out =>
    if md < 5 then
      (match rd nt us f (md + 1) op k out with
       | (true, k1, o1) => rd nt us f (md + 6) op k1 o1
       | (false, k1, o1) => (false, k1, o1))
    else if md = 5 then
      if dig (nt k) = true then (true, k + ndF nt k 4, out ++ [nvF nt k 4 0])
      else if nt k = 33 then
        if op < 5 then
          (match rd nt us f 5 (op + 1) (k + 1) out with
           | (true, k1, o1) => (true, k1, o1 ++ [-33])
           | (false, k1, o1) => (false, k1, o1))
        else (false, k, out)
      else if nt k = 40 then
        if op < 5 then
          (match rd nt us f 0 (op + 1) (k + 1) out with
           | (true, k1, o1) => if nt k1 = 41 then (true, k1 + 1, o1) else (false, k1, o1)
           | (false, k1, o1) => (false, k1, o1))
        else (false, k, out)
      else if 0 ≤ nmI us (nt k) then (true, k + 1, out ++ [-1 - nmI us (nt k)])
      else (false, k, out)
    else
      if lvS (nt k) = nI (md - 6) then
        (match rd nt us f (md - 5) op (k + 1) out with
         | (true, k1, o1) => if md = 8 then (true, k1, o1 ++ [-(nt k)]) else rd nt us f md op k1 (o1 ++ [-(nt k)])
         | (false, k1, o1) => (false, k1, o1))
      else (true, k, out)
section RD
variable {nt : Nat → Int32} {us f md op k k1 : Nat} {out o1 : List Int32}
theorem rd_lvT (h : md < 5) (e : rd nt us f (md + 1) op k out = (true, k1, o1)) : rd nt us (f + 1) md op k out = rd nt us f (md + 6) op k1 o1 := by rw [rd, if_pos h, e]
theorem rd_lvF (h : md < 5) (e : rd nt us f (md + 1) op k out = (false, k1, o1)) : rd nt us (f + 1) md op k out = (false, k1, o1) := by rw [rd, if_pos h, e]
theorem rd_dig (h : dig (nt k) = true) : rd nt us (f + 1) 5 op k out = (true, k + ndF nt k 4, out ++ [nvF nt k 4 0]) := by rw [rd, if_neg (by decide), if_pos rfl, if_pos h]
theorem rd_notT (h : ¬ dig (nt k) = true) (h2 : nt k = 33) (h3 : op < 5) (e : rd nt us f 5 (op + 1) (k + 1) out = (true, k1, o1)) : rd nt us (f + 1) 5 op k out = (true, k1, o1 ++ [-33]) := by rw [rd, if_neg (by decide), if_pos rfl, if_neg h, if_pos h2, if_pos h3, e]
theorem rd_notF (h : ¬ dig (nt k) = true) (h2 : nt k = 33) (h3 : op < 5) (e : rd nt us f 5 (op + 1) (k + 1) out = (false, k1, o1)) : rd nt us (f + 1) 5 op k out = (false, k1, o1) := by rw [rd, if_neg (by decide), if_pos rfl, if_neg h, if_pos h2, if_pos h3, e]
theorem rd_not5 (h : ¬ dig (nt k) = true) (h2 : nt k = 33) (h3 : ¬ op < 5) : rd nt us (f + 1) 5 op k out = (false, k, out) := by rw [rd, if_neg (by decide), if_pos rfl, if_neg h, if_pos h2, if_neg h3]
theorem rd_brT (h : ¬ dig (nt k) = true) (h1 : ¬ nt k = 33) (h2 : nt k = 40) (h3 : op < 5) (e : rd nt us f 0 (op + 1) (k + 1) out = (true, k1, o1)) (h4 : nt k1 = 41) : rd nt us (f + 1) 5 op k out = (true, k1 + 1, o1) := by rw [rd, if_neg (by decide), if_pos rfl, if_neg h, if_neg h1, if_pos h2, if_pos h3, e]; exact if_pos h4
theorem rd_brN (h : ¬ dig (nt k) = true) (h1 : ¬ nt k = 33) (h2 : nt k = 40) (h3 : op < 5) (e : rd nt us f 0 (op + 1) (k + 1) out = (true, k1, o1)) (h4 : ¬ nt k1 = 41) : rd nt us (f + 1) 5 op k out = (false, k1, o1) := by rw [rd, if_neg (by decide), if_pos rfl, if_neg h, if_neg h1, if_pos h2, if_pos h3, e]; exact if_neg h4
theorem rd_brF (h : ¬ dig (nt k) = true) (h1 : ¬ nt k = 33) (h2 : nt k = 40) (h3 : op < 5) (e : rd nt us f 0 (op + 1) (k + 1) out = (false, k1, o1)) : rd nt us (f + 1) 5 op k out = (false, k1, o1) := by rw [rd, if_neg (by decide), if_pos rfl, if_neg h, if_neg h1, if_pos h2, if_pos h3, e]
theorem rd_br5 (h : ¬ dig (nt k) = true) (h1 : ¬ nt k = 33) (h2 : nt k = 40) (h3 : ¬ op < 5) : rd nt us (f + 1) 5 op k out = (false, k, out) := by rw [rd, if_neg (by decide), if_pos rfl, if_neg h, if_neg h1, if_pos h2, if_neg h3]
theorem rd_nm (h : ¬ dig (nt k) = true) (h1 : ¬ nt k = 33) (h2 : ¬ nt k = 40) (h3 : 0 ≤ nmI us (nt k)) : rd nt us (f + 1) 5 op k out = (true, k + 1, out ++ [-1 - nmI us (nt k)]) := by rw [rd, if_neg (by decide), if_pos rfl, if_neg h, if_neg h1, if_neg h2, if_pos h3]
theorem rd_no (h : ¬ dig (nt k) = true) (h1 : ¬ nt k = 33) (h2 : ¬ nt k = 40) (h3 : ¬ 0 ≤ nmI us (nt k)) : rd nt us (f + 1) 5 op k out = (false, k, out) := by rw [rd, if_neg (by decide), if_pos rfl, if_neg h, if_neg h1, if_neg h2, if_neg h3]
theorem rd_lpN {l : Nat} (h : ¬ lvS (nt k) = nI l) : rd nt us (f + 1) (l + 6) op k out = (true, k, out) := by rw [rd, if_neg (by omega), if_neg (by omega), if_neg (by rw [show l + 6 - 6 = l by omega]; exact h)]
theorem rd_lpF {l : Nat} (h : lvS (nt k) = nI l) (e : rd nt us f (l + 1) op (k + 1) out = (false, k1, o1)) : rd nt us (f + 1) (l + 6) op k out = (false, k1, o1) := by rw [rd, if_neg (by omega), if_neg (by omega), if_pos (by rw [show l + 6 - 6 = l by omega]; exact h), show l + 6 - 5 = l + 1 by omega, e]
theorem rd_lpT {l : Nat} (h : lvS (nt k) = nI l) (h2 : ¬ l = 2) (e : rd nt us f (l + 1) op (k + 1) out = (true, k1, o1)) : rd nt us (f + 1) (l + 6) op k out = rd nt us f (l + 6) op k1 (o1 ++ [-(nt k)]) := by rw [rd, if_neg (by omega), if_neg (by omega), if_pos (by rw [show l + 6 - 6 = l by omega]; exact h), show l + 6 - 5 = l + 1 by omega, e]; exact if_neg (by omega)
theorem rd_lpE (h : lvS (nt k) = nI 2) (e : rd nt us f 3 op (k + 1) out = (true, k1, o1)) : rd nt us (f + 1) 8 op k out = (true, k1, o1 ++ [-(nt k)]) := by rw [rd, if_neg (by omega), if_neg (by omega), if_pos h, e]; exact if_pos rfl
end RD
theorem nx_in {bf : Nat → Int32} {sz k : Nat} (h : ¬ nx bf sz k = -1) : k < sz := Classical.byContradiction fun z => h (if_neg z)
theorem dig_in {bf : Nat → Int32} {sz k : Nat} (h : dig (nx bf sz k) = true) : k < sz := nx_in (fun z => by rw [z] at h; exact absurd h (by decide))
theorem lvS_in {bf : Nat → Int32} {sz k l : Nat} (hl : l < 5) (h : lvS (nx bf sz k) = nI l) : k < sz := nx_in (fun z => by
  rw [z] at h
  have : ∀ l, l < 5 → ¬ lvS (-1) = nI l := by decide
  exact this l hl h)
theorem nm_in {bf : Nat → Int32} {sz k us : Nat} (h : 0 ≤ nmI us (nx bf sz k)) : k < sz := nx_in (fun z => by
  rw [z] at h
  unfold nmI at h
  by_cases q : us = 0
  · rw [if_pos q] at h; exact absurd h (by decide)
  · rw [if_neg q] at h; exact absurd h (by decide))
theorem ndF_le {bf : Nat → Int32} {sz : Nat} : ∀ (n k : Nat), k ≤ sz → k + ndF (nx bf sz) k n ≤ sz
  | 0, k, h => by unfold ndF; omega
  | n + 1, k, h => by
    unfold ndF
    by_cases c : dig (nx bf sz k) = true
    · rw [if_pos c]
      have := ndF_le (bf := bf) n (k + 1) (dig_in c)
      omega
    · rw [if_neg c]; omega
theorem ndF_pos {nt : Nat → Int32} {k n : Nat} (h : dig (nt k) = true) : 1 ≤ ndF nt k (n + 1) := by
  unfold ndF
  rw [if_pos h]
  omega
/-- what reading keeps: the place goes on, never beyond the end, and there are no more new steps than bytes read -/
theorem rd_inv {bf : Nat → Int32} {us sz : Nat} : ∀ (f md op k : Nat) (out : List Int32) (r : Bool × Nat × List Int32), md ≤ 10 → k ≤ sz → rd (nx bf sz) us f md op k out = r → k ≤ r.2.1 ∧ r.2.1 ≤ sz ∧ r.2.2.length + k ≤ out.length + r.2.1 ∧ (md ≤ 5 → r.1 = true → k < r.2.1)
  | 0, md, op, k, out, r, hm, hk, e => by
    rw [rd] at e
    subst e
    exact ⟨Nat.le_refl _, hk, Nat.le_refl _, fun _ h => by cases h⟩
  | f + 1, md, op, k, out, r, hm, hk, e => by
    by_cases h5 : md < 5
    · rcases q : rd (nx bf sz) us f (md + 1) op k out with ⟨b, k1, o1⟩
      obtain ⟨i1, i2, i3, i4⟩ := rd_inv f (md + 1) op k out _ (by omega) hk q
      have i4' := i4 (by omega)
      simp only at i1 i2 i3 i4'
      cases b
      · rw [rd_lvF h5 q] at e
        subst e
        exact ⟨i1, i2, i3, fun _ h => by cases h⟩
      · rw [rd_lvT h5 q] at e
        obtain ⟨j1, j2, j3, -⟩ := rd_inv f (md + 6) op k1 o1 _ (by omega) i2 e
        have := i4' rfl
        exact ⟨by omega, j2, by omega, fun _ _ => by omega⟩
    · by_cases hu : md = 5
      · subst hu
        by_cases hd : dig (nx bf sz k) = true
        · rw [rd_dig hd] at e
          subst e
          have := ndF_le (bf := bf) 4 k hk
          have h1 : 1 ≤ ndF (nx bf sz) k 4 := ndF_pos (n := 3) hd
          simp only [List.length_append, List.length_singleton]
          exact ⟨by omega, this, by omega, fun _ _ => by omega⟩
        · by_cases h33 : nx bf sz k = 33
          · have hks : k < sz := nx_in (fun z => by rw [h33] at z; exact absurd z (by decide))
            by_cases ho : op < 5
            · rcases q : rd (nx bf sz) us f 5 (op + 1) (k + 1) out with ⟨b, k1, o1⟩
              obtain ⟨i1, i2, i3, i4⟩ := rd_inv f 5 (op + 1) (k + 1) out _ (by omega) hks q
              simp only at i1 i2 i3
              cases b
              · rw [rd_notF hd h33 ho q] at e
                subst e
                exact ⟨by simp only; omega, i2, by simp only; omega, fun _ h => by cases h⟩
              · rw [rd_notT hd h33 ho q] at e
                subst e
                simp only [List.length_append, List.length_singleton]
                exact ⟨by omega, i2, by omega, fun _ _ => by omega⟩
            · rw [rd_not5 hd h33 ho] at e
              subst e
              exact ⟨Nat.le_refl _, hk, Nat.le_refl _, fun _ h => by cases h⟩
          · by_cases h40 : nx bf sz k = 40
            · have hks : k < sz := nx_in (fun z => by rw [h40] at z; exact absurd z (by decide))
              by_cases ho : op < 5
              · rcases q : rd (nx bf sz) us f 0 (op + 1) (k + 1) out with ⟨b, k1, o1⟩
                obtain ⟨i1, i2, i3, i4⟩ := rd_inv f 0 (op + 1) (k + 1) out _ (by omega) hks q
                simp only at i1 i2 i3
                cases b
                · rw [rd_brF hd h33 h40 ho q] at e
                  subst e
                  exact ⟨by simp only; omega, i2, by simp only; omega, fun _ h => by cases h⟩
                · by_cases h41 : nx bf sz k1 = 41
                  · rw [rd_brT hd h33 h40 ho q h41] at e
                    subst e
                    have hks1 : k1 < sz := nx_in (fun z => by rw [h41] at z; exact absurd z (by decide))
                    exact ⟨by simp only; omega, by simp only; omega, by simp only; omega, fun _ _ => by simp only; omega⟩
                  · rw [rd_brN hd h33 h40 ho q h41] at e
                    subst e
                    exact ⟨by simp only; omega, i2, by simp only; omega, fun _ h => by cases h⟩
              · rw [rd_br5 hd h33 h40 ho] at e
                subst e
                exact ⟨Nat.le_refl _, hk, Nat.le_refl _, fun _ h => by cases h⟩
            · by_cases hn : 0 ≤ nmI us (nx bf sz k)
              · rw [rd_nm hd h33 h40 hn] at e
                subst e
                have := nm_in hn
                simp only [List.length_append, List.length_singleton]
                exact ⟨by omega, by omega, by omega, fun _ _ => by omega⟩
              · rw [rd_no hd h33 h40 hn] at e
                subst e
                exact ⟨Nat.le_refl _, hk, Nat.le_refl _, fun _ h => by cases h⟩
      · obtain ⟨l, rfl⟩ : ∃ l, md = l + 6 := ⟨md - 6, by omega⟩
        by_cases hl : lvS (nx bf sz k) = nI l
        · have hks := lvS_in (by omega) hl
          rcases q : rd (nx bf sz) us f (l + 1) op (k + 1) out with ⟨b, k1, o1⟩
          obtain ⟨i1, i2, i3, i4⟩ := rd_inv f (l + 1) op (k + 1) out _ (by omega) hks q
          simp only at i1 i2 i3
          cases b
          · rw [rd_lpF hl q] at e
            subst e
            exact ⟨by simp only; omega, i2, by simp only; omega, fun _ h => by cases h⟩
          · by_cases h2 : l = 2
            · subst h2
              rw [rd_lpE hl q] at e
              subst e
              simp only [List.length_append, List.length_singleton]
              exact ⟨by omega, i2, by omega, fun h => by omega⟩
            · rw [rd_lpT hl h2 q] at e
              obtain ⟨j1, j2, j3, -⟩ := rd_inv f (l + 6) op k1 _ _ (by omega) i2 e
              simp only [List.length_append, List.length_singleton] at j3
              exact ⟨by omega, j2, by omega, fun h => by omega⟩
        · rw [rd_lpN hl] at e
          subst e
          exact ⟨Nat.le_refl _, hk, Nat.le_refl _, fun h => by omega⟩


