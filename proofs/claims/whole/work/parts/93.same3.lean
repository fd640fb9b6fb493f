/-! ===== alike: change, bell, law, heard, way ===== -/
theorem BD.put {f : Nat → Int32} (h : BD f) {g : Nat → Int32} {j : Nat} {v : Int32} (h2 : 2 ≤ j) (hj : j < 7) (hm : mayB (nI j) v = true) (he : g j = v) (ho : ∀ k, k < 7 → k ≠ j → g k = f k) : BD g := by
  have c : j = 2 ∨ j = 3 ∨ j = 4 ∨ j = 5 ∨ j = 6 := by omega
  obtain ⟨q0, q1, q2, q3, q4, q5, q6⟩ := h
  have r99 : (j = 2 ∨ j = 3 ∨ j = 5) → rg 0 99 v := fun z => by
    unfold mayB at hm
    rw [if_pos (by rcases z with rfl | rfl | rfl; exact Or.inl rfl; exact Or.inr (Or.inl rfl); exact Or.inr (Or.inr rfl)), Bool.and_eq_true] at hm
    exact ⟨of_decide_eq_true hm.1, of_decide_eq_true hm.2⟩
  rcases c with rfl | rfl | rfl | rfl | rfl
  · exact ⟨by rw [ho 0 (by decide) (by decide)]; exact q0, by rw [ho 1 (by decide) (by decide)]; exact q1, by rw [he]; exact r99 (Or.inl rfl), by rw [ho 3 (by decide) (by decide)]; exact q3, by rw [ho 4 (by decide) (by decide)]; exact q4, by rw [ho 5 (by decide) (by decide)]; exact q5, by rw [ho 6 (by decide) (by decide)]; exact q6⟩
  · exact ⟨by rw [ho 0 (by decide) (by decide)]; exact q0, by rw [ho 1 (by decide) (by decide)]; exact q1, by rw [ho 2 (by decide) (by decide)]; exact q2, by rw [he]; exact r99 (Or.inr (Or.inl rfl)), by rw [ho 4 (by decide) (by decide)]; exact q4, by rw [ho 5 (by decide) (by decide)]; exact q5, by rw [ho 6 (by decide) (by decide)]; exact q6⟩
  · have r : rg (-900) 900 v := by
      unfold mayB at hm
      rw [if_neg (by decide), if_pos (by decide), Bool.and_eq_true] at hm
      exact ⟨of_decide_eq_true hm.1, of_decide_eq_true hm.2⟩
    exact ⟨by rw [ho 0 (by decide) (by decide)]; exact q0, by rw [ho 1 (by decide) (by decide)]; exact q1, by rw [ho 2 (by decide) (by decide)]; exact q2, by rw [ho 3 (by decide) (by decide)]; exact q3, by rw [he]; exact r, by rw [ho 5 (by decide) (by decide)]; exact q5, by rw [ho 6 (by decide) (by decide)]; exact q6⟩
  · exact ⟨by rw [ho 0 (by decide) (by decide)]; exact q0, by rw [ho 1 (by decide) (by decide)]; exact q1, by rw [ho 2 (by decide) (by decide)]; exact q2, by rw [ho 3 (by decide) (by decide)]; exact q3, by rw [ho 4 (by decide) (by decide)]; exact q4, by rw [he]; exact r99 (Or.inr (Or.inr rfl)), by rw [ho 6 (by decide) (by decide)]; exact q6⟩
  · have r : 0 ≤ v ∧ v ≤ 1 := by
      unfold mayB at hm
      rw [if_neg (by decide), if_neg (by decide), if_pos (by decide), Bool.and_eq_true] at hm
      exact ⟨of_decide_eq_true hm.1, of_decide_eq_true hm.2⟩
    have r2 : v = 0 ∨ v = 1 := by
      have r3 := Int32.le_iff_toInt_le.mp r.1
      have r4 := Int32.le_iff_toInt_le.mp r.2
      rw [show (0 : Int32).toInt = 0 from by decide] at r3
      rw [show (1 : Int32).toInt = 1 from by decide] at r4
      have : v.toInt = 0 ∨ v.toInt = 1 := by omega
      exact this.elim (fun z => Or.inl (Int32.toInt_inj.mp z)) (fun z => Or.inr (Int32.toInt_inj.mp z))
    exact ⟨by rw [ho 0 (by decide) (by decide)]; exact q0, by rw [ho 1 (by decide) (by decide)]; exact q1, by rw [ho 2 (by decide) (by decide)]; exact q2, by rw [ho 3 (by decide) (by decide)]; exact q3, by rw [ho 4 (by decide) (by decide)]; exact q4, by rw [ho 5 (by decide) (by decide)]; exact q5, by rw [he]; exact r2⟩
/-- one part of one bell changes -/
theorem Rel.bell1 {M1 M2 : Mem} {n ne t w : Nat} {S0 S1 : List Int32} (h : Rel M1 M2 n ne t w S0 S1) {b j : Nat} {v : Int32} (hb : b < n) (h2 : 2 ≤ j) (hj : j < 7) (hm : mayB (nI j) v = true) : Rel (put M1 (30 + b) j v) (put M2 84 (108 + 7 * b + j) v) n ne t w S0 S1 := by
  have h8 := h.hn.2.2
  refine h.cur (fun c hc hq => put_cell (fun z => by omega)) (fun c hc => put_cell hc) ?_
  obtain ⟨a0, a1, a2, a3, a4, a5, a6, a7, a8⟩ := h.1
  have g1 : ∀ c i, ¬ (30 ≤ c ∧ c < 38) → put M1 (30 + b) j v c i = M1 c i := fun c i hc => by rw [put_cell (fun z => by omega)]
  have gv : ∀ i, i ≠ 100 → put M1 (30 + b) j v 1 i = M1 1 i := fun i _ => g1 1 i (by decide)
  have g2 : ∀ i, ¬ (108 ≤ i ∧ i < 164) → put M2 84 (108 + 7 * b + j) v 84 i = M2 84 i := fun i hi => put_n (fun z => by omega)
  refine ⟨a0.eq (gv 2 (by decide)) (gv 4 (by decide)) (g2 _ (by omega)) (g2 _ (by omega)), a1.eq (gv 5 (by decide)) (gv 6 (by decide)) (gv 7 (by decide)) (gv 12 (by decide)) (g2 _ (by omega)) (g2 _ (by omega)) (g2 _ (by omega)) (g2 _ (by omega)), a2.eq (gv 9 (by decide)) (fun i _ => g1 13 i (by decide)) (g2 _ (by omega)) (fun i _ => g2 _ (by omega)), a3.eq (gv 14 (by decide)) (fun i _ => g1 16 i (by decide)) (g2 _ (by omega)) (fun i _ => g2 _ (by omega)), a4.eq (fun i _ => g1 10 i (by decide)) (fun i _ => g2 _ (by omega)), ⟨fun b' hb' k hk => ?_, fun b' hb' => ?_⟩, a6.eq a0.2.2.2 (fun i _ => g1 12 i (by decide)) (fun i _ => g2 _ (by omega)), a7.eq (g1 14 _ (by decide)) (fun i _ => g1 68 i (by decide)) (g2 _ (by omega)) (fun i _ => g2 _ (by omega)), a8.eq (g1 15 _ (by decide)) (fun i _ => g1 71 i (by decide)) (g2 _ (by omega)) (fun i _ => g2 _ (by omega))⟩
  · by_cases e : b' = b ∧ k = j
    · obtain ⟨rfl, rfl⟩ := e; rw [put_s, put_s]
    · rw [put_n (fun z => e ⟨by omega, z.2⟩), put_n (fun z => e (by omega))]
      exact a5.1 b' hb' k hk
  · by_cases e : b' = b
    · subst e
      exact (a5.2 b' hb').put h2 hj hm put_s (fun k _ hk => put_n (fun z => hk z.2))
    · rw [put_cell (fun z => e (by omega))]
      exact a5.2 b' hb'

set_option maxHeartbeats 4000000 in
set_option maxRecDepth 100000 in
theorem s_change {g : GG} {d : Nat} {a u v : Int32} : Same g (d + 2) (d + 2) mX9_change mX10_change [some (.ref 0), some (.int a), some (.int u), some (.int v), none] [some (.ref 83), some (.int a), some (.int u), some (.int v), none, none] := by
  rintro M1 M2 ⟨n, ne, t, wt, S0, S1, h⟩
  have h8 := h.hn.2.2
  have ok : ((0 ≤ a ∧ a < M1 1 2 ∧ a < 8) ∧ mayB u v = true) ↔ ((0 ≤ a ∧ a < nI n) ∧ mayB u v = true) := and_congr_left' (okB h.hn.1 h8)
  refine c9_change (fun hn => c10_change h.hn.2.1 h8 (fun _ => h.er (by decide) (by decide)) (fun hp => absurd (ok.mpr hp) hn)) (fun hp b hb ha => c10_change h.hn.2.1 h8 (fun hn => absurd (ok.mp hp) hn) (fun _ b' j hb' h2 hj ha' hu => ?_))
  obtain rfl : b' = b := nI_inj2 (ha'.symm.trans ha) (by omega) (by omega)
  subst hu
  have R := h.bell1 hb' h2 hj hp.2
  have e := h.bl.at hb' hj
  have hj5 : j = 2 ∨ j = 3 ∨ j = 4 ∨ j = 5 ∨ j = 6 := by omega
  rcases hj5 with rfl | rfl | rfl | rfl | rfl <;> exact ⟨_, rfl, congrArg (fun q => some (Value.int q)) e.symm, R.e⟩

