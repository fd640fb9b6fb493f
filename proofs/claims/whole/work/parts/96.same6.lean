/-! ===== alike: bell, way, ears, sheet ===== -/
theorem lt24 {w : Int32} : w < 24 ↔ w ≤ 23 := by
  rw [Int32.lt_iff_toInt_lt, Int32.le_iff_toInt_le, show (24 : Int32).toInt = 24 from by decide, show (23 : Int32).toInt = 23 from by decide]
  omega
theorem dvR {a : Int32} (h : 0 ≤ a) : (a / 100).toInt = a.toInt / 100 := by
  have h0 : (0 : Int) ≤ a.toInt := by have := Int32.le_iff_toInt_le.mp h; rwa [show (0 : Int32).toInt = 0 from by decide] at this
  have h1 := a.toInt_lt
  rw [Int32.toInt_div, show (100 : Int32).toInt = 100 from by decide, Int.tdiv_eq_ediv_of_nonneg h0]
  exact Int.bmod_eq_of_le (by omega) (by omega)
theorem dv0 {a : Int32} (h : 0 ≤ a) : 0 ≤ a / 100 := by
  have h0 : (0 : Int) ≤ a.toInt := by have := Int32.le_iff_toInt_le.mp h; rwa [show (0 : Int32).toInt = 0 from by decide] at this
  rw [Int32.le_iff_toInt_le, dvR h, show (0 : Int32).toInt = 0 from by decide]
  omega
theorem rmz {a : Int32} (h : 0 ≤ a) : 0 ≤ (a - a / 100 * 100) := by
  have h0 : (0 : Int) ≤ a.toInt := by have := Int32.le_iff_toInt_le.mp h; rwa [show (0 : Int32).toInt = 0 from by decide] at this
  have h1 := a.toInt_lt
  have e1 : (a / 100 * 100).toInt = a.toInt / 100 * 100 := by
    rw [Int32.toInt_mul, dvR h, show (100 : Int32).toInt = 100 from by decide]
    exact Int.bmod_eq_of_le (by omega) (by omega)
  have e2 : (a - a / 100 * 100).toInt = a.toInt - a.toInt / 100 * 100 := by
    rw [Int32.toInt_sub, e1]
    exact Int.bmod_eq_of_le (by omega) (by omega)
  rw [Int32.le_iff_toInt_le, e2, show (0 : Int32).toInt = 0 from by decide]
  omega
def p7C (M : Mem) (n : Nat) (x0 x1 x2 x3 : Int32) : Mem := put (put (put (put (put (put (put M (30 + n) 0 x0) (30 + n) 1 x1) (30 + n) 2 x2) (30 + n) 3 x3) (30 + n) 4 0) (30 + n) 5 1) (30 + n) 6 0
def p7R (M : Mem) (n : Nat) (x0 x1 x2 x3 : Int32) : Mem := put (put (put (put (put (put (put M 84 (108 + 7 * n + 0) x0) 84 (108 + 7 * n + 1) x1) 84 (108 + 7 * n + 2) x2) 84 (108 + 7 * n + 3) x3) 84 (108 + 7 * n + 4) 0) 84 (108 + 7 * n + 5) 1) 84 (108 + 7 * n + 6) 0
theorem p7C_o {M : Mem} {n c : Nat} {x0 x1 x2 x3 : Int32} (h : c ≠ 30 + n) : p7C M n x0 x1 x2 x3 c = M c := by unfold p7C; rw [put_cell h, put_cell h, put_cell h, put_cell h, put_cell h, put_cell h, put_cell h]
theorem p7R_o {M : Mem} {n c : Nat} {x0 x1 x2 x3 : Int32} (h : c ≠ 84) : p7R M n x0 x1 x2 x3 c = M c := by unfold p7R; rw [put_cell h, put_cell h, put_cell h, put_cell h, put_cell h, put_cell h, put_cell h]
theorem p7R_j {M : Mem} {n j : Nat} {x0 x1 x2 x3 : Int32} (h : ¬ (108 + 7 * n ≤ j ∧ j < 115 + 7 * n)) : p7R M n x0 x1 x2 x3 84 j = M 84 j := by
  unfold p7R
  rw [put_n (fun z => by omega), put_n (fun z => by omega), put_n (fun z => by omega), put_n (fun z => by omega), put_n (fun z => by omega), put_n (fun z => by omega), put_n (fun z => by omega)]
theorem p7C_k {M : Mem} {n k : Nat} {x0 x1 x2 x3 : Int32} (h : k < 7) : p7C M n x0 x1 x2 x3 (30 + n) k = [x0, x1, x2, x3, 0, 1, 0].getD k 0 := by
  have c : k = 0 ∨ k = 1 ∨ k = 2 ∨ k = 3 ∨ k = 4 ∨ k = 5 ∨ k = 6 := by omega
  unfold p7C put
  rcases c with rfl | rfl | rfl | rfl | rfl | rfl | rfl <;> simp
theorem p7R_k {M : Mem} {n k : Nat} {x0 x1 x2 x3 : Int32} (h : k < 7) : p7R M n x0 x1 x2 x3 84 (108 + 7 * n + k) = [x0, x1, x2, x3, 0, 1, 0].getD k 0 := by
  have c : k = 0 ∨ k = 1 ∨ k = 2 ∨ k = 3 ∨ k = 4 ∨ k = 5 ∨ k = 6 := by omega
  unfold p7R put
  rcases c with rfl | rfl | rfl | rfl | rfl | rfl | rfl <;> simp

set_option maxHeartbeats 4000000 in
set_option maxRecDepth 100000 in
theorem s_bell {g : GG} {d : Nat} {a s l : Int32} : Same g (d + 2) (d + 2) mX9_bell mX10_bell [some (.ref 0), some (.int a), some (.int s), some (.int l)] [some (.ref 83), some (.int a), some (.int s), some (.int l)] := by
  rintro M1 M2 ⟨n, ne, t, wt, S0, S1, h⟩
  have h8 := h.hn.2.2
  have ok : ((0 ≤ a ∧ a / 100 < 7 ∧ (a - a / 100 * 100) < 24) ∧ (0 ≤ s ∧ s ≤ 99) ∧ 0 ≤ l ∧ l ≤ 99) ↔ ((0 ≤ a ∧ a / 100 ≤ 6 ∧ (a - a / 100 * 100) ≤ 23) ∧ (0 ≤ s ∧ s ≤ 99) ∧ 0 ≤ l ∧ l ≤ 99) := and_congr_left' (and_congr_right fun _ => and_congr lt7w lt24)
  refine c9_bell h.hn.1 h8 (fun hn => c10_bell h.hn.2.1 h8 (fun _ => h.er (by decide) (by decide)) (fun hp => absurd (ok.mpr hp) hn) (fun hp => absurd (ok.mpr hp) hn)) (fun hp hf => c10_bell h.hn.2.1 h8 (fun hn => absurd (ok.mp hp) hn) (fun _ _ => h.er (by decide) (by decide)) (fun _ hl => absurd hl (by omega))) (fun hp hf => c10_bell h.hn.2.1 h8 (fun hn => absurd (ok.mp hp) hn) (fun _ hl => absurd hl (by omega)) (fun _ _ => ?_))
  have hp2 := ok.mp hp
  refine ⟨_, rfl, rfl, (show Rel (put (p7C M1 n (a / 100) (a - a / 100 * 100) s l) 1 2 (nI (n + 1))) (put (p7R M2 n (a / 100) (a - a / 100 * 100) s l) 84 103 (nI (n + 1))) (n + 1) ne t wt S0 S1 from h.cur (fun c hc hq => by rw [put_cell (fun z => by omega), p7C_o (fun z => by omega)]) (fun c hc => by rw [put_cell hc, p7R_o hc]) ?_).e⟩
  obtain ⟨a0, a1, a2, a3, a4, a5, a6, a7, a8⟩ := h.1
  have g1 : ∀ c j, (c ≠ 1 ∧ ¬ (30 ≤ c ∧ c < 38)) → put (p7C M1 n (a / 100) (a - a / 100 * 100) s l) 1 2 (nI (n + 1)) c j = M1 c j := fun c j hc => by rw [put_cell hc.1, p7C_o (fun z => by omega)]
  have gv : ∀ j, j ≠ 2 → put (p7C M1 n (a / 100) (a - a / 100 * 100) s l) 1 2 (nI (n + 1)) 1 j = M1 1 j := fun j hj => by rw [put_n (fun z => hj z.2), p7C_o (fun z => by omega)]
  have g2 : ∀ j, (j ≠ 103 ∧ ¬ (108 + 7 * n ≤ j ∧ j < 115 + 7 * n)) → put (p7R M2 n (a / 100) (a - a / 100 * 100) s l) 84 103 (nI (n + 1)) 84 j = M2 84 j := fun j hj => by rw [put_n (fun z => hj.1 z.2), p7R_j hj.2]
  refine ⟨⟨⟨put_s, put_s, by omega⟩, by rw [gv 4 (by decide), g2 104 (by omega)]; exact a0.2⟩, a1.eq (gv 5 (by decide)) (gv 6 (by decide)) (gv 7 (by decide)) (gv 12 (by decide)) (g2 _ (by omega)) (g2 _ (by omega)) (g2 _ (by omega)) (g2 _ (by omega)), a2.eq (gv 9 (by decide)) (fun i _ => g1 13 i (by decide)) (g2 _ (by omega)) (fun i _ => g2 _ (by omega)), a3.eq (gv 14 (by decide)) (fun i _ => g1 16 i (by decide)) (g2 _ (by omega)) (fun i _ => g2 _ (by omega)), a4.eq (fun i _ => g1 10 i (by decide)) (fun i _ => g2 _ (by omega)), ⟨fun b hb k hk => ?_, fun b hb => ?_⟩, a6.eq a0.2.2.2 (fun i _ => g1 12 i (by decide)) (fun i _ => g2 _ (by omega)), a7.eq (g1 14 _ (by decide)) (fun i _ => g1 68 i (by decide)) (g2 _ (by omega)) (fun i _ => g2 _ (by omega)), a8.eq (g1 15 _ (by decide)) (fun i _ => g1 71 i (by decide)) (g2 _ (by omega)) (fun i _ => g2 _ (by omega))⟩
  · rw [put_cell (c := 30 + b) (by omega), put_n (b := 84) (fun z => by omega)]
    by_cases e : b = n
    · subst e; rw [p7C_k hk, p7R_k hk]
    · rw [p7C_o (by omega), p7R_j (by omega)]; exact a5.1 b (by omega) k hk
  · rw [put_cell (c := 30 + b) (by omega)]
    by_cases e : b = n
    · subst e
      unfold BD
      rw [p7C_k (by decide), p7C_k (by decide), p7C_k (by decide), p7C_k (by decide), p7C_k (by decide), p7C_k (by decide), p7C_k (by decide)]
      exact ⟨⟨dv0 hp2.1.1, hp2.1.2.1⟩, ⟨rmz hp2.1.1, hp2.1.2.2⟩, hp2.2.1, hp2.2.2, (show rg (-900) 900 0 from ⟨by decide, by decide⟩), (show rg 0 99 1 from ⟨by decide, by decide⟩), Or.inl rfl⟩
    · rw [p7C_o (by omega)]; exact a5.2 b hb
set_option maxHeartbeats 4000000 in
set_option maxRecDepth 100000 in
theorem s_way {g : GG} {d : Nat} {a u v : Int32} : Same g (d + 5) (d + 63) mX9_way mX10_way [some (.ref 0), some (.int a), some (.int u), some (.int v), none, none] [some (.ref 83), some (.int a), some (.int u), some (.int v)] := by
  rintro M1 M2 ⟨n, ne, t, wt, S0, S1, h⟩
  have h8 := h.hn.2.2
  have h10 := h.hne.2.2
  have ok : ((0 ≤ a ∧ a < M1 1 2 ∧ a < 8) ∧ 0 ≤ u ∧ u < M1 1 4 ∧ u < 10) ↔ ((0 ≤ a ∧ a < nI n) ∧ (0 ≤ u ∧ u < nI ne)) := and_congr (okB h.hn.1 h8) (okE h.hne.1 h10)
  have go : ∀ x1 : Int32, ∀ M1' : Mem, KpC M1 M1' → ((0 ≤ a ∧ a < nI n) ∧ (0 ≤ u ∧ u < nI ne) ∧ 0 ≤ v ∧ v ≤ 4) → (∀ b e, b < n → e < ne → a = nI b → u = nI e → (v = 0 → farF (M1 (30 + b) 2) (M1 12 e) = x1) ∧ (v = 1 → hidS (M1 10) (M1 (30 + b) 2) (M1 12 e) = x1) ∧ (v = 2 → wyH M1 b e = x1) ∧ (v = 3 → strS M1 (M1 (30 + b) 0) (M1 (30 + b) 3) (M1 (30 + b) 2) (M1 12 e) (M1 1 5) = x1) ∧ (v = 4 → M1 (30 + b) 4 + wyH M1 b e = x1)) → V rS g (d + 63) mX10_way 0 [some (.ref 83), some (.int a), some (.int u), some (.int v)] [] M2 (fun r2 M2' => SameQ (some (.int x1)) r2 M1' M2') := by
    intro x1 M1' k1 hp hx
    have F := fun b hb e he => And.intro (h.bl.at (b := b) hb (k := 2) (by decide)) (h.ear.1 e he)
    refine c10_way h.vr (fun hn => absurd hp hn) (fun b e hb he ha hu hv => ?_) (fun b e hb he ha hu hv => ?_) (fun b e hb he ha hu hv => ?_) (fun b e hb he ha hu hv M2' k2 => ?_) (fun b e hb he ha hu hv => ?_)
    · rw [← (F b hb e he).1, ← (F b hb e he).2, (hx b e hb he ha hu).1 hv]; exact ⟨_, rfl, rfl, (h.keepC k1).e⟩
    · rw [← (F b hb e he).1, ← (F b hb e he).2, ← hidS_ext (g := M1 10) (g' := hbR M2) (fun i hi => h.hl i hi) (h.bl.2 b (by omega)).2.2.1 (h.ear.2 e (by omega)), (hx b e hb he ha hu).2.1 hv]; exact ⟨_, rfl, rfl, (h.keepC k1).e⟩
    · rw [← ((h.ag 0).1 b hb e he).2, (hx b e hb he ha hu).2.2.1 hv]; exact ⟨_, rfl, rfl, (h.keepC k1).e⟩
    · refine ⟨x1, rfl, congrArg (fun q => some (Value.int q)) ?_, ((h.keepC k1).keepR k2.x).e⟩
      rw [← (hx b e hb he ha hu).2.2.2.1 hv, str_al h.l0 h.hl (h.bl.2 b (by omega)).2.2.1 (h.ear.2 e (by omega)), h.bl.at hb (k := 0) (by decide), h.bl.at hb (k := 3) (by decide), h.bl.at hb (k := 2) (by decide), h.ear.1 e he, h.wn.1.1]
    · rw [← ((h.ag 0).1 b hb e he).2, ← h.bl.at hb (k := 4) (by decide), (hx b e hb he ha hu).2.2.2.2 hv]; exact ⟨_, rfl, rfl, (h.keepC k1).e⟩
  have ij : ∀ {b b' e e' : Nat}, b < 8 → e < 10 → a = nI b → u = nI e → b' < n → e' < ne → a = nI b' → u = nI e' → b' = b ∧ e' = e := fun hb he ha hu hb' he' ha' hu' => ⟨nI_inj2 (ha'.symm.trans ha) (by omega) (by omega), nI_inj2 (hu'.symm.trans hu) (by omega) (by omega)⟩
  refine c9_way h.vb (fun hn => ?_) (fun hp hn => ?_) (fun hp b e hb he ha hu hv => ?_) (fun hp b e hb he ha hu hv f t' hf ht hf2 ht2 => ?_) (fun hp b e hb he ha hu hv => ?_) (fun hp b e hb he ha hu hv M1' k1 => ?_) (fun hp b e hb he ha hu hv => ?_)
  · have hn2 : ¬ ((0 ≤ a ∧ a < nI n) ∧ (0 ≤ u ∧ u < nI ne) ∧ 0 ≤ v ∧ v ≤ 4) := fun z => hn (ok.mpr ⟨z.1, z.2.1⟩)
    exact c10_way h.vr (fun _ => h.er (by decide) (by decide)) (fun b e hb he ha hu hv => absurd (ok.mpr (by subst ha; subst hu; exact ⟨⟨nI_pos' (by omega), nI_lt hb (by omega)⟩, nI_pos' (by omega), nI_lt he (by omega)⟩)) hn) (fun b e hb he ha hu hv => absurd (ok.mpr (by subst ha; subst hu; exact ⟨⟨nI_pos' (by omega), nI_lt hb (by omega)⟩, nI_pos' (by omega), nI_lt he (by omega)⟩)) hn) (fun b e hb he ha hu hv => absurd (ok.mpr (by subst ha; subst hu; exact ⟨⟨nI_pos' (by omega), nI_lt hb (by omega)⟩, nI_pos' (by omega), nI_lt he (by omega)⟩)) hn) (fun b e hb he ha hu hv => absurd (ok.mpr (by subst ha; subst hu; exact ⟨⟨nI_pos' (by omega), nI_lt hb (by omega)⟩, nI_pos' (by omega), nI_lt he (by omega)⟩)) hn) (fun b e hb he ha hu hv => absurd (ok.mpr (by subst ha; subst hu; exact ⟨⟨nI_pos' (by omega), nI_lt hb (by omega)⟩, nI_pos' (by omega), nI_lt he (by omega)⟩)) hn)
  · exact c10_way h.vr (fun _ => h.er (by decide) (by decide)) (fun b e hb he ha hu hv => absurd (by subst hv; decide) hn) (fun b e hb he ha hu hv => absurd (by subst hv; decide) hn) (fun b e hb he ha hu hv => absurd (by subst hv; decide) hn) (fun b e hb he ha hu hv => absurd (by subst hv; decide) hn) (fun b e hb he ha hu hv => absurd (by subst hv; decide) hn)
  · refine go _ M1 (fun _ _ => rfl) ⟨(ok.mp hp).1, (ok.mp hp).2, by subst hv; decide⟩ (fun b' e' hb' he' ha' hu' => ?_)
    obtain ⟨rfl, rfl⟩ := ij hb he ha hu hb' he' ha' hu'
    subst hv
    exact ⟨fun _ => rfl, fun z => absurd z (by decide), fun z => absurd z (by decide), fun z => absurd z (by decide), fun z => absurd z (by decide)⟩
  · refine go _ M1 (fun _ _ => rfl) ⟨(ok.mp hp).1, (ok.mp hp).2, by subst hv; decide⟩ (fun b' e' hb' he' ha' hu' => ?_)
    obtain ⟨rfl, rfl⟩ := ij hb he ha hu hb' he' ha' hu'
    subst hv
    refine ⟨fun z => absurd z (by decide), fun _ => ?_, fun z => absurd z (by decide), fun z => absurd z (by decide), fun z => absurd z (by decide)⟩
    rw [hf2, ht2]
    unfold hidS
    rw [nI_clamp (by omega), nI_clamp (by omega)]
    rfl
  · refine go _ M1 (fun _ _ => rfl) ⟨(ok.mp hp).1, (ok.mp hp).2, by subst hv; decide⟩ (fun b' e' hb' he' ha' hu' => ?_)
    obtain ⟨rfl, rfl⟩ := ij hb he ha hu hb' he' ha' hu'
    subst hv
    exact ⟨fun z => absurd z (by decide), fun z => absurd z (by decide), fun _ => rfl, fun z => absurd z (by decide), fun z => absurd z (by decide)⟩
  · refine go _ M1' (kc1 k1) ⟨(ok.mp hp).1, (ok.mp hp).2, by subst hv; decide⟩ (fun b' e' hb' he' ha' hu' => ?_)
    obtain ⟨rfl, rfl⟩ := ij hb he ha hu hb' he' ha' hu'
    subst hv
    exact ⟨fun z => absurd z (by decide), fun z => absurd z (by decide), fun z => absurd z (by decide), fun _ => rfl, fun z => absurd z (by decide)⟩
  · refine go _ M1 (fun _ _ => rfl) ⟨(ok.mp hp).1, (ok.mp hp).2, by subst hv; decide⟩ (fun b' e' hb' he' ha' hu' => ?_)
    obtain ⟨rfl, rfl⟩ := ij hb he ha hu hb' he' ha' hu'
    subst hv
    exact ⟨fun z => absurd z (by decide), fun z => absurd z (by decide), fun z => absurd z (by decide), fun z => absurd z (by decide), fun _ => rfl⟩

