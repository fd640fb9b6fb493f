/-! ===== alike: check ===== -/
theorem Rel.wait0 {M1 M2 : Mem} {n ne t wt : Nat} {S0 S1 : List Int32} (h : Rel M1 M2 n ne t wt S0 S1) : Rel (put M1 1 14 0) (put M2 84 107 0) n ne t 0 S0 S1 := by
  refine h.cur (fun c hc hq => put_cell (by omega)) (fun c hc => put_cell hc) ?_
  obtain ⟨a0, a1, a2, a3, a4, a5, a6, a7, a8⟩ := h.1
  have g1 : ∀ c j, c ≠ 1 → put M1 1 14 0 c j = M1 c j := fun c j hc => by rw [put_cell hc]
  have gv : ∀ j, j ≠ 14 → put M1 1 14 0 1 j = M1 1 j := fun j hj => put_n (fun z => hj z.2)
  have g2 : ∀ j, j ≠ 107 → put M2 84 107 0 84 j = M2 84 j := fun j hj => put_n (fun z => hj z.2)
  exact ⟨a0.eq (gv 2 (by decide)) (gv 4 (by decide)) (g2 _ (by omega)) (g2 _ (by omega)), a1.eq (gv 5 (by decide)) (gv 6 (by decide)) (gv 7 (by decide)) (gv 12 (by decide)) (g2 _ (by omega)) (g2 _ (by omega)) (g2 _ (by omega)) (g2 _ (by omega)), a2.eq (gv 9 (by decide)) (fun i _ => g1 13 i (by decide)) (g2 _ (by omega)) (fun i _ => g2 _ (by omega)), ⟨put_s, put_s, by omega, fun i hi => absurd hi (Nat.not_lt_zero _)⟩, a4.eq (fun i _ => g1 10 i (by decide)) (fun i _ => g2 _ (by omega)), a5.eq a0.1.2.2 (fun b hb k _ => g1 _ k (by omega)) (fun b _ k _ => g2 _ (by omega)), a6.eq a0.2.2.2 (fun i _ => g1 12 i (by decide)) (fun i _ => g2 _ (by omega)), a7.eq (g1 14 _ (by decide)) (fun i _ => g1 68 i (by decide)) (g2 _ (by omega)) (fun i _ => g2 _ (by omega)), a8.eq (g1 15 _ (by decide)) (fun i _ => g1 71 i (by decide)) (g2 _ (by omega)) (fun i _ => g2 _ (by omega))⟩
theorem ctP_ext {hp hp' : Nat → Nat → Bool} {wy wy' : Nat → Nat → Int32} {f f' : Nat → Int32} {n ne i : Nat} {br : Int32} (h : ∀ b, b < n → ∀ e, e < ne → hp b e = hp' b e ∧ wy b e = wy' b e) (hf : ∀ j, j ≤ i → f j = f' j) (hi : i < n) : ctP f hp wy br ne i = ctP f' hp' wy' br ne i := by
  unfold ctP
  rw [hf i (Nat.le_refl _)]
  refine congrArg _ (anB_cong (fun a ha => anB_cong (fun e he => ?_)))
  unfold clP
  rw [(h a (by omega) e he).1, (h a (by omega) e he).2, (h i hi e he).1, (h i hi e he).2, hf a (by omega)]

set_option maxHeartbeats 4000000 in
set_option maxRecDepth 100000 in
theorem s_check {g : GG} {d : Nat} {a : Int32} : Same g (d + 5) (d + 66) mX9_check mX10_check [some (.ref 0), some (.int a), none, none, none] [some (.ref 83), some (.int a), none, none] := by
  rintro M1 M2 ⟨n, ne, t, wt, S0, S1, h⟩
  have h0 := h.wait0
  have hfs : fst (fun i => decide (wt ≤ i) || (decide (n ≤ i) || ctP (M1 16) (hpH M1 a) (wyH M1) (M1 1 6) ne i)) (max wt n) = fst (fun i => decide (wt ≤ i) || (decide (n ≤ i) || ctP (fun j => M2 84 (183 + j)) (hpR S0 (put M2 84 107 0) a) (wyR (put M2 84 107 0)) (M2 84 101) ne i)) (max wt n) := by
    refine fst_cong (fun i hi => ?_)
    by_cases c1 : wt ≤ i
    · rw [decide_eq_true c1, Bool.true_or, Bool.true_or]
    · rw [decide_eq_false c1]
      by_cases c2 : n ≤ i
      · rw [decide_eq_true c2, Bool.true_or, Bool.true_or]
      · rw [decide_eq_false c2, h.wn.2.1.1]
        have hx : put M2 84 107 0 84 100 = M1 1 5 := by rw [put_n (fun z => absurd z.2 (by decide))]; exact h.wn.1.1.symm
        have ho : ∀ j, j ≠ 100 → j ≠ 107 → put M2 84 107 0 84 j = M2 84 j := fun j _ hj => put_n (fun z => hj z.2)
        rw [ctP_ext (i := i) (hp := hpH M1 a) (wy := wyH M1) (f := M1 16) (f' := fun j => M2 84 (183 + j)) (hp' := hpR S0 (put M2 84 107 0) a) (wy' := wyR (put M2 84 107 0)) (fun b hb e he => ⟨hp_al h hb he hx ho, wy_al h hb he hx ho⟩) (fun j hj => h.wt.2.2.2 j (by omega)) (by omega)]
  have e9 : put M1 1 14 0 9 1 = M1 9 1 := by rw [put_cell (by decide)]
  have e87 : put M2 84 107 0 87 1 = M2 87 1 := by rw [put_cell (by decide)]
  refine c9_check h.vb h.wt.1 h.wt.2.2.1 (fun hn => c10_check h.vr h.wt.2.1 h.wt.2.2.1 (fun _ => ?_) (fun hp => absurd hp hn)) (fun hp M1' k1 => c10_check h.vr h.wt.2.1 h.wt.2.2.1 (fun hn => absurd hp hn) (fun _ M2' k2 => ?_))
  · rw [← e9, ← e87]
    exact h0.er (by decide) (by decide)
  · exact ⟨_, rfl, by rw [hfs], ((h0.keepC (kc k1)).keepR k2).e⟩

