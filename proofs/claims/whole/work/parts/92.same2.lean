/-! ===== alike: set, seed, tell, ear, change, bell ===== -/
set_option maxHeartbeats 4000000 in
set_option maxRecDepth 100000 in
theorem s_seed {g : GG} {d : Nat} {a : Int32} : Same g (d + 0) (d + 2) mX9_seed mX10_seed [some (.ref 0), some (.int a), none] [some (.ref 83), some (.int a), none] := by
  rintro M1 M2 ⟨n, ne, t, wt, S0, S1, h⟩
  refine c9_seed (c10_seed ⟨M2 84 105, congrArg (fun q => some (Value.int q)) h.wn.2.2.2, rfl, (show Rel (put M1 1 12 a) (put M2 84 105 a) n ne t wt S0 S1 from h.cur (k1_of (S := [1]) (fun c hc => put_cell (fun z => hc (by rw [z]; decide))) (by decide)) (fun c hc => put_cell hc) ?_).e⟩)
  obtain ⟨a0, a1, a2, a3, a4, a5, a6, a7, a8⟩ := h.1
  have g1 : ∀ c j, c ≠ 1 → put M1 1 12 a c j = M1 c j := fun c j hc => by rw [put_cell hc]
  have gv : ∀ j, j ≠ 12 → put M1 1 12 a 1 j = M1 1 j := fun j hj => put_n (fun z => hj z.2)
  have g2 : ∀ j, j ≠ 105 → put M2 84 105 a 84 j = M2 84 j := fun j hj => put_n (fun z => hj z.2)
  exact ⟨a0.eq (gv 2 (by decide)) (gv 4 (by decide)) (g2 _ (by omega)) (g2 _ (by omega)), ⟨by rw [gv 5 (by decide), g2 100 (by decide)]; exact a1.1, by rw [gv 6 (by decide), g2 101 (by decide)]; exact a1.2.1, by rw [gv 7 (by decide), g2 102 (by decide)]; exact a1.2.2.1, by rw [put_s, put_s]⟩, a2.eq (gv 9 (by decide)) (fun i _ => g1 13 i (by decide)) (g2 _ (by omega)) (fun i _ => g2 _ (by omega)), a3.eq (gv 14 (by decide)) (fun i _ => g1 16 i (by decide)) (g2 _ (by omega)) (fun i _ => g2 _ (by omega)), a4.eq (fun i _ => g1 10 i (by decide)) (fun i _ => g2 _ (by omega)), a5.eq a0.1.2.2 (fun b hb k _ => g1 _ k (by omega)) (fun b _ k _ => g2 _ (by omega)), a6.eq a0.2.2.2 (fun i _ => g1 12 i (by decide)) (fun i _ => g2 _ (by omega)), a7.eq (g1 14 _ (by decide)) (fun i _ => g1 68 i (by decide)) (g2 _ (by omega)) (fun i _ => g2 _ (by omega)), a8.eq (g1 15 _ (by decide)) (fun i _ => g1 71 i (by decide)) (g2 _ (by omega)) (fun i _ => g2 _ (by omega))⟩
set_option maxHeartbeats 4000000 in
set_option maxRecDepth 100000 in
theorem s_set {g : GG} {d : Nat} {a v : Int32} : Same g (d + 2) (d + 2) mX9_set mX10_set [some (.ref 0), some (.int a), some (.int v), none] [some (.ref 83), some (.int a), some (.int v), none, none] := by
  rintro M1 M2 ⟨n, ne, t, wt, S0, S1, h⟩
  refine c9_set (fun hn => c10_set (fun _ => h.er (by decide) (by decide)) (fun hp => absurd hp hn)) (fun hp => c10_set (fun hn => absurd hp hn) (fun _ j hj ha => ?_))
  subst ha
  have hj3 : j = 0 ∨ j = 1 ∨ j = 2 := by omega
  rcases hj3 with rfl | rfl | rfl
  · have hr : rg (-5) 5 v := by
      rcases hp with ⟨e, z⟩ | ⟨e, z⟩ | ⟨e, z⟩ <;> first | exact z | exact absurd e (by decide)
    refine ⟨M2 84 100, congrArg (fun q => some (Value.int q)) (show M1 1 5 = M2 84 100 from h.wn.1.1), rfl, (show Rel (put M1 1 5 v) (put M2 84 100 v) n ne t wt S0 S1 from h.cur (k1_of (S := [1]) (fun c hc => put_cell (fun z => hc (by rw [z]; decide))) (by decide)) (fun c hc => put_cell hc) ?_).e⟩
    obtain ⟨a0, a1, a2, a3, a4, a5, a6, a7, a8⟩ := h.1
    have g1 : ∀ c j, c ≠ 1 → put M1 1 5 v c j = M1 c j := fun c j hc => by rw [put_cell hc]
    have gv : ∀ j, j ≠ 5 → put M1 1 5 v 1 j = M1 1 j := fun j hj => put_n (fun z => hj z.2)
    have g2 : ∀ j, j ≠ 100 → put M2 84 100 v 84 j = M2 84 j := fun j hj => put_n (fun z => hj z.2)
    exact ⟨a0.eq (gv 2 (by decide)) (gv 4 (by decide)) (g2 _ (by omega)) (g2 _ (by omega)), ⟨⟨by rw [put_s, put_s], by rw [put_s]; exact hr⟩, by rw [gv 6 (by decide), g2 101 (by decide)]; exact a1.2.1, by rw [gv 7 (by decide), g2 102 (by decide)]; exact a1.2.2.1, by rw [gv 12 (by decide), g2 105 (by decide)]; exact a1.2.2.2⟩, a2.eq (gv 9 (by decide)) (fun i _ => g1 13 i (by decide)) (g2 _ (by omega)) (fun i _ => g2 _ (by omega)), a3.eq (gv 14 (by decide)) (fun i _ => g1 16 i (by decide)) (g2 _ (by omega)) (fun i _ => g2 _ (by omega)), a4.eq (fun i _ => g1 10 i (by decide)) (fun i _ => g2 _ (by omega)), a5.eq a0.1.2.2 (fun b hb k _ => g1 _ k (by omega)) (fun b _ k _ => g2 _ (by omega)), a6.eq a0.2.2.2 (fun i _ => g1 12 i (by decide)) (fun i _ => g2 _ (by omega)), a7.eq (g1 14 _ (by decide)) (fun i _ => g1 68 i (by decide)) (g2 _ (by omega)) (fun i _ => g2 _ (by omega)), a8.eq (g1 15 _ (by decide)) (fun i _ => g1 71 i (by decide)) (g2 _ (by omega)) (fun i _ => g2 _ (by omega))⟩
  · have hr : rg (0) 30 v := by
      rcases hp with ⟨e, z⟩ | ⟨e, z⟩ | ⟨e, z⟩ <;> first | exact z | exact absurd e (by decide)
    refine ⟨M2 84 101, congrArg (fun q => some (Value.int q)) (show M1 1 6 = M2 84 101 from h.wn.2.1.1), rfl, (show Rel (put M1 1 6 v) (put M2 84 101 v) n ne t wt S0 S1 from h.cur (k1_of (S := [1]) (fun c hc => put_cell (fun z => hc (by rw [z]; decide))) (by decide)) (fun c hc => put_cell hc) ?_).e⟩
    obtain ⟨a0, a1, a2, a3, a4, a5, a6, a7, a8⟩ := h.1
    have g1 : ∀ c j, c ≠ 1 → put M1 1 6 v c j = M1 c j := fun c j hc => by rw [put_cell hc]
    have gv : ∀ j, j ≠ 6 → put M1 1 6 v 1 j = M1 1 j := fun j hj => put_n (fun z => hj z.2)
    have g2 : ∀ j, j ≠ 101 → put M2 84 101 v 84 j = M2 84 j := fun j hj => put_n (fun z => hj z.2)
    exact ⟨a0.eq (gv 2 (by decide)) (gv 4 (by decide)) (g2 _ (by omega)) (g2 _ (by omega)), ⟨by rw [gv 5 (by decide), g2 100 (by decide)]; exact a1.1, ⟨by rw [put_s, put_s], by rw [put_s]; exact hr⟩, by rw [gv 7 (by decide), g2 102 (by decide)]; exact a1.2.2.1, by rw [gv 12 (by decide), g2 105 (by decide)]; exact a1.2.2.2⟩, a2.eq (gv 9 (by decide)) (fun i _ => g1 13 i (by decide)) (g2 _ (by omega)) (fun i _ => g2 _ (by omega)), a3.eq (gv 14 (by decide)) (fun i _ => g1 16 i (by decide)) (g2 _ (by omega)) (fun i _ => g2 _ (by omega)), a4.eq (fun i _ => g1 10 i (by decide)) (fun i _ => g2 _ (by omega)), a5.eq a0.1.2.2 (fun b hb k _ => g1 _ k (by omega)) (fun b _ k _ => g2 _ (by omega)), a6.eq a0.2.2.2 (fun i _ => g1 12 i (by decide)) (fun i _ => g2 _ (by omega)), a7.eq (g1 14 _ (by decide)) (fun i _ => g1 68 i (by decide)) (g2 _ (by omega)) (fun i _ => g2 _ (by omega)), a8.eq (g1 15 _ (by decide)) (fun i _ => g1 71 i (by decide)) (g2 _ (by omega)) (fun i _ => g2 _ (by omega))⟩
  · have hr : rg (0) 300 v := by
      rcases hp with ⟨e, z⟩ | ⟨e, z⟩ | ⟨e, z⟩ <;> first | exact z | exact absurd e (by decide)
    refine ⟨M2 84 102, congrArg (fun q => some (Value.int q)) (show M1 1 7 = M2 84 102 from h.wn.2.2.1.1), rfl, (show Rel (put M1 1 7 v) (put M2 84 102 v) n ne t wt S0 S1 from h.cur (k1_of (S := [1]) (fun c hc => put_cell (fun z => hc (by rw [z]; decide))) (by decide)) (fun c hc => put_cell hc) ?_).e⟩
    obtain ⟨a0, a1, a2, a3, a4, a5, a6, a7, a8⟩ := h.1
    have g1 : ∀ c j, c ≠ 1 → put M1 1 7 v c j = M1 c j := fun c j hc => by rw [put_cell hc]
    have gv : ∀ j, j ≠ 7 → put M1 1 7 v 1 j = M1 1 j := fun j hj => put_n (fun z => hj z.2)
    have g2 : ∀ j, j ≠ 102 → put M2 84 102 v 84 j = M2 84 j := fun j hj => put_n (fun z => hj z.2)
    exact ⟨a0.eq (gv 2 (by decide)) (gv 4 (by decide)) (g2 _ (by omega)) (g2 _ (by omega)), ⟨by rw [gv 5 (by decide), g2 100 (by decide)]; exact a1.1, by rw [gv 6 (by decide), g2 101 (by decide)]; exact a1.2.1, ⟨by rw [put_s, put_s], by rw [put_s]; exact hr⟩, by rw [gv 12 (by decide), g2 105 (by decide)]; exact a1.2.2.2⟩, a2.eq (gv 9 (by decide)) (fun i _ => g1 13 i (by decide)) (g2 _ (by omega)) (fun i _ => g2 _ (by omega)), a3.eq (gv 14 (by decide)) (fun i _ => g1 16 i (by decide)) (g2 _ (by omega)) (fun i _ => g2 _ (by omega)), a4.eq (fun i _ => g1 10 i (by decide)) (fun i _ => g2 _ (by omega)), a5.eq a0.1.2.2 (fun b hb k _ => g1 _ k (by omega)) (fun b _ k _ => g2 _ (by omega)), a6.eq a0.2.2.2 (fun i _ => g1 12 i (by decide)) (fun i _ => g2 _ (by omega)), a7.eq (g1 14 _ (by decide)) (fun i _ => g1 68 i (by decide)) (g2 _ (by omega)) (fun i _ => g2 _ (by omega)), a8.eq (g1 15 _ (by decide)) (fun i _ => g1 71 i (by decide)) (g2 _ (by omega)) (fun i _ => g2 _ (by omega))⟩
set_option maxHeartbeats 4000000 in
set_option maxRecDepth 100000 in
theorem s_tell {g : GG} {d : Nat} {a : Int32} : Same g (d + 2) (d + 2) mX9_tell mX10_tell [some (.ref 0), some (.int a)] [some (.ref 83), some (.int a)] := by
  rintro M1 M2 ⟨n, ne, t, wt, S0, S1, h⟩
  refine c9_tell h.wt.1 h.wt.2.2.1 (fun hn => c10_tell h.wt.2.1 h.wt.2.2.1 (fun _ => h.er (by decide) (by decide)) (fun hp => absurd hp (by omega))) (fun hp => c10_tell h.wt.2.1 h.wt.2.2.1 (fun hn => absurd hn (by omega)) (fun _ => ?_))
  refine ⟨_, rfl, rfl, (h.cur (n' := n) (ne' := ne) (t' := t) (w' := wt + 1) (S0' := S0) (S1' := S1) (k1_of (S := [1, 16]) (fun c hc => by rw [put_cell (fun z => hc (by rw [z]; decide)), put_cell (fun z => hc (by rw [z]; decide))]) (by decide)) (fun c hc => by rw [put_cell hc, put_cell hc]) ?_).e⟩
  obtain ⟨a0, a1, a2, a3, a4, a5, a6, a7, a8⟩ := h.1
  have g1 : ∀ c j, (c ≠ 1 ∧ c ≠ 16) → put (put M1 16 wt a) 1 14 (nI (wt + 1)) c j = M1 c j := fun c j hc => by rw [put_cell hc.1, put_cell hc.2]
  have gv : ∀ j, j ≠ 14 → put (put M1 16 wt a) 1 14 (nI (wt + 1)) 1 j = M1 1 j := fun j hj => by rw [put_n (fun z => hj z.2), put_cell (by decide)]
  have g2 : ∀ j, (j ≠ 107 ∧ j ≠ 183 + wt) → put (put M2 84 (183 + wt) a) 84 107 (nI (wt + 1)) 84 j = M2 84 j := fun j hj => by rw [put_n (fun z => hj.1 z.2), put_n (fun z => hj.2 z.2)]
  refine ⟨a0.eq (gv 2 (by decide)) (gv 4 (by decide)) (g2 _ (by omega)) (g2 _ (by omega)), a1.eq (gv 5 (by decide)) (gv 6 (by decide)) (gv 7 (by decide)) (gv 12 (by decide)) (g2 _ (by omega)) (g2 _ (by omega)) (g2 _ (by omega)) (g2 _ (by omega)), a2.eq (gv 9 (by decide)) (fun i _ => g1 13 i (by decide)) (g2 _ (by omega)) (fun i _ => g2 _ (by omega)), ⟨put_s, put_s, hp, fun i hi => ?_⟩, a4.eq (fun i _ => g1 10 i (by decide)) (fun i _ => g2 _ (by omega)), a5.eq a0.1.2.2 (fun b hb k _ => g1 _ k (by omega)) (fun b _ k _ => g2 _ (by omega)), a6.eq a0.2.2.2 (fun i _ => g1 12 i (by decide)) (fun i _ => g2 _ (by omega)), a7.eq (g1 14 _ (by decide)) (fun i _ => g1 68 i (by decide)) (g2 _ (by omega)) (fun i _ => g2 _ (by omega)), a8.eq (g1 15 _ (by decide)) (fun i _ => g1 71 i (by decide)) (g2 _ (by omega)) (fun i _ => g2 _ (by omega))⟩
  rw [put_cell (by decide), put_n (b := 84) (fun z => by omega)]
  by_cases hi2 : i = wt
  · subst hi2; rw [put_s, put_s]
  · rw [put_n (fun z => hi2 z.2), put_n (fun z => by omega)]
    exact a3.2.2.2 i (by omega)
set_option maxHeartbeats 4000000 in
set_option maxRecDepth 100000 in
theorem s_ear {g : GG} {d : Nat} {a : Int32} : Same g (d + 2) (d + 2) mX9_ear mX10_ear [some (.ref 0), some (.int a)] [some (.ref 83), some (.int a)] := by
  rintro M1 M2 ⟨n, ne, t, wt, S0, S1, h⟩
  refine c9_ear h.hne.1 h.hne.2.2 (fun hn => c10_ear h.hne.2.1 h.hne.2.2 (fun _ => h.er (by decide) (by decide)) (fun hp => absurd hp hn) (fun hp => absurd hp hn)) (fun hp hf => c10_ear h.hne.2.1 h.hne.2.2 (fun hn => absurd hp hn) (fun _ _ => h.er (by decide) (by decide)) (fun _ hl => absurd hl (by omega))) (fun hp hf => c10_ear h.hne.2.1 h.hne.2.2 (fun hn => absurd hp hn) (fun _ hl => absurd hl (by omega)) (fun _ _ => ?_))
  refine ⟨_, rfl, rfl, (h.cur (n' := n) (ne' := ne + 1) (t' := t) (w' := wt) (S0' := S0) (S1' := S1) (k1_of (S := [1, 12]) (fun c hc => by rw [put_cell (fun z => hc (by rw [z]; decide)), put_cell (fun z => hc (by rw [z]; decide))]) (by decide)) (fun c hc => by rw [put_cell hc, put_cell hc]) ?_).e⟩
  obtain ⟨a0, a1, a2, a3, a4, a5, a6, a7, a8⟩ := h.1
  have g1 : ∀ c j, (c ≠ 1 ∧ c ≠ 12) → put (put M1 12 ne a) 1 4 (nI (ne + 1)) c j = M1 c j := fun c j hc => by rw [put_cell hc.1, put_cell hc.2]
  have gv : ∀ j, j ≠ 4 → put (put M1 12 ne a) 1 4 (nI (ne + 1)) 1 j = M1 1 j := fun j hj => by rw [put_n (fun z => hj z.2), put_cell (by decide)]
  have g2 : ∀ j, (j ≠ 104 ∧ j ≠ 171 + ne) → put (put M2 84 (171 + ne) a) 84 104 (nI (ne + 1)) 84 j = M2 84 j := fun j hj => by rw [put_n (fun z => hj.1 z.2), put_n (fun z => hj.2 z.2)]
  refine ⟨⟨by rw [gv 2 (by decide), g2 103 (by omega)]; exact a0.1, put_s, put_s, by omega⟩, a1.eq (gv 5 (by decide)) (gv 6 (by decide)) (gv 7 (by decide)) (gv 12 (by decide)) (g2 _ (by omega)) (g2 _ (by omega)) (g2 _ (by omega)) (g2 _ (by omega)), a2.eq (gv 9 (by decide)) (fun i _ => g1 13 i (by decide)) (g2 _ (by omega)) (fun i _ => g2 _ (by omega)), a3.eq (gv 14 (by decide)) (fun i _ => g1 16 i (by decide)) (g2 _ (by omega)) (fun i _ => g2 _ (by omega)), a4.eq (fun i _ => g1 10 i (by decide)) (fun i _ => g2 _ (by omega)), a5.eq a0.1.2.2 (fun b hb k _ => g1 _ k (by omega)) (fun b _ k _ => g2 _ (by omega)), ⟨fun e he => ?_, fun e he => ?_⟩, a7.eq (g1 14 _ (by decide)) (fun i _ => g1 68 i (by decide)) (g2 _ (by omega)) (fun i _ => g2 _ (by omega)), a8.eq (g1 15 _ (by decide)) (fun i _ => g1 71 i (by decide)) (g2 _ (by omega)) (fun i _ => g2 _ (by omega))⟩
  · rw [put_cell (by decide), put_n (b := 84) (fun z => by omega)]
    by_cases hi2 : e = ne
    · subst hi2; rw [put_s, put_s]
    · rw [put_n (fun z => hi2 z.2), put_n (fun z => by omega)]
      exact a6.1 e (by omega)
  · rw [put_cell (by decide)]
    by_cases hi2 : e = ne
    · subst hi2; rw [put_s]; exact hp
    · rw [put_n (fun z => hi2 z.2)]
      exact a6.2 e he

