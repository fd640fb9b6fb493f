/-! ===== alike: the simple methods ===== -/
section RA
variable {M1 M2 : Mem} {n ne t w : Nat} {S0 S1 : List Int32}
theorem Rel.hn (h : Rel M1 M2 n ne t w S0 S1) : M1 1 2 = nI n ∧ M2 84 103 = nI n ∧ n ≤ 8 := h.1.1.1
theorem Rel.hne (h : Rel M1 M2 n ne t w S0 S1) : M1 1 4 = nI ne ∧ M2 84 104 = nI ne ∧ ne ≤ 10 := h.1.1.2
theorem Rel.wn (h : Rel M1 M2 n ne t w S0 S1) : RWn M1 1 (M2 84) := h.1.2.1
theorem Rel.tp (h : Rel M1 M2 n ne t w S0 S1) : RTp M1 1 13 (M2 84) t := h.1.2.2.1
theorem Rel.wt (h : Rel M1 M2 n ne t w S0 S1) : RWt M1 1 16 (M2 84) w := h.1.2.2.2.1
theorem Rel.hl (h : Rel M1 M2 n ne t w S0 S1) : RHl M1 10 (M2 84) := h.1.2.2.2.2.1
theorem Rel.bl (h : Rel M1 M2 n ne t w S0 S1) : RBl M1 30 (M2 84) n := h.1.2.2.2.2.2.1
theorem Rel.ear (h : Rel M1 M2 n ne t w S0 S1) : REr M1 12 (M2 84) ne := h.1.2.2.2.2.2.2.1
theorem Rel.l0 (h : Rel M1 M2 n ne t w S0 S1) : RLw M1 14 68 (M2 84) 0 S0 := h.1.2.2.2.2.2.2.2.1
theorem Rel.l1 (h : Rel M1 M2 n ne t w S0 S1) : RLw M1 15 71 (M2 84) 1 S1 := h.1.2.2.2.2.2.2.2.2
theorem okB {n : Nat} {a x : Int32} (hx : x = nI n) (h8 : n ≤ 8) : (0 ≤ a ∧ a < x ∧ a < 8) ↔ (0 ≤ a ∧ a < nI n) := by
  subst hx
  exact ⟨fun z => ⟨z.1, z.2.1⟩, fun z => ⟨z.1, z.2, Int32.lt_of_lt_of_le z.2 (nI_le (b := 8) h8 (by decide))⟩⟩
theorem okE {n : Nat} {a x : Int32} (hx : x = nI n) (h8 : n ≤ 10) : (0 ≤ a ∧ a < x ∧ a < 10) ↔ (0 ≤ a ∧ a < nI n) := by
  subst hx
  exact ⟨fun z => ⟨z.1, z.2.1⟩, fun z => ⟨z.1, z.2, Int32.lt_of_lt_of_le z.2 (nI_le (b := 10) h8 (by decide))⟩⟩
theorem lt7w {w : Int32} : w < 7 ↔ w ≤ 6 := by
  rw [Int32.lt_iff_toInt_lt, Int32.le_iff_toInt_le, show (7 : Int32).toInt = 7 from by decide, show (6 : Int32).toInt = 6 from by decide]
  omega
theorem nI_inj2 {a b : Nat} (h : nI a = nI b) (ha : a < 1000) (hb : b < 1000) : a = b := (nI_eq (by omega) (by omega)).mp h
theorem RBl.at {f : Nat → Int32} {bl b k : Nat} (h : RBl M1 bl f n) (hb : b < n) (hk : k < 7) : M1 (bl + b) k = f (108 + 7 * b + k) := h.1 b hb k hk
theorem i32_ad (x a b : Int32) : x + b + (a - b) = x + a := by
  rw [Int32.add_assoc, Int32.sub_eq_add_neg, Int32.add_comm a, ← Int32.add_assoc b, Int32.add_right_neg, Int32.zero_add]
theorem i32_as (x b : Int32) : x + b - x = b := by
  rw [Int32.sub_eq_add_neg, Int32.add_comm x, Int32.add_assoc, Int32.add_right_neg, Int32.add_zero]
theorem sI_put {M : Mem} {b : Nat} {w : Int32} : ∀ i, sI (fun j => put M 84 b w 84 j) i = if b + 1 ≤ i then sI (fun j => M 84 j) i + (w - M 84 b) else sI (fun j => M 84 j) i
  | 0 => by rw [if_neg (by omega)]; rfl
  | i + 1 => by
    rw [sI, sI_put i, sI]
    by_cases h : b + 1 ≤ i
    · rw [if_pos h, if_pos (by omega), put_n (fun z => by omega), Int32.add_assoc, Int32.add_comm (w - M 84 b), ← Int32.add_assoc]
    · rw [if_neg h]
      by_cases h2 : i = b
      · subst h2
        rw [if_pos (by omega), put_s, i32_ad]
      · rw [if_neg (by omega), put_n (fun z => h2 z.2)]
end RA
theorem k1_of {S : List Nat} {M M' : Mem} (h : ∀ c, c ∉ S → M' c = M c) (hS : ∀ c, c ∈ pcL → (c = 0 ∨ c = 2 ∨ c = 7 ∨ c = 9 ∨ (18 ≤ c ∧ c ≤ 24) ∨ (38 ≤ c ∧ c ≤ 67) ∨ c = 74 ∨ c = 77) → c ∉ S) : ∀ c, c ∈ pcL → (c = 0 ∨ c = 2 ∨ c = 7 ∨ c = 9 ∨ (18 ≤ c ∧ c ≤ 24) ∨ (38 ≤ c ∧ c ≤ 67) ∨ c = 74 ∨ c = 77) → M' c = M c := fun c hc hq => h c (hS c hc hq)

set_option maxHeartbeats 4000000 in
set_option maxRecDepth 100000 in
theorem s_hill {g : GG} {d : Nat} {a v : Int32} : Same g (d + 2) (d + 2) mX9_hill mX10_hill [some (.ref 0), some (.int a), some (.int v)] [some (.ref 83), some (.int a), some (.int v), none] := by
  rintro M1 M2 ⟨n, ne, t, wt, S0, S1, h⟩
  refine c9_hill (fun hn => c10_hill (fun _ => h.er (by decide) (by decide)) (fun hp => absurd hp hn)) (fun hp b hb ha => c10_hill (fun hn => absurd hp hn) (fun _ b' hb' ha' => ?_))
  obtain rfl : b' = b := nI_inj2 (ha'.symm.trans ha) (by omega) (by omega)
  have e0 : M1 10 (b' + 1) - M1 10 b' = M2 84 b' := by rw [h.hl (b' + 1) (by omega), h.hl b' (by omega)]; exact i32_as _ _
  refine ⟨M2 84 b', by rw [e0], rfl, (h.cur (n' := n) (ne' := ne) (t' := t) (w' := wt) (S0' := S0) (S1' := S1) (k1_of (S := [10]) (fun c hc => um_n (fun z => hc (by rw [z]; decide))) (by decide)) (fun c hc => put_cell hc) ?_).e⟩
  have g1 : ∀ c, c ≠ 10 → um M1 10 (fun i => if b' + 1 ≤ i ∧ i ≤ 100 then M1 10 i + (v - (M1 10 (b' + 1) - M1 10 b')) else M1 10 i) c = M1 c := fun c hc => um_n hc
  have g2 : ∀ j, 100 ≤ j → put M2 84 b' v 84 j = M2 84 j := fun j hj => put_n (fun z => by omega)
  obtain ⟨a0, a1, a2, a3, a4, a5, a6, a7, a8⟩ := h.1
  refine ⟨a0.eq (by rw [g1 1 (by decide)]) (by rw [g1 1 (by decide)]) (g2 _ (by omega)) (g2 _ (by omega)), a1.eq (by rw [g1 1 (by decide)]) (by rw [g1 1 (by decide)]) (by rw [g1 1 (by decide)]) (by rw [g1 1 (by decide)]) (g2 _ (by omega)) (g2 _ (by omega)) (g2 _ (by omega)) (g2 _ (by omega)), a2.eq (by rw [g1 1 (by decide)]) (fun i _ => by rw [g1 13 (by decide)]) (g2 _ (by omega)) (fun i _ => g2 _ (by omega)), a3.eq (by rw [g1 1 (by decide)]) (fun i _ => by rw [g1 16 (by decide)]) (g2 _ (by omega)) (fun i _ => g2 _ (by omega)), ?_, a5.eq a0.1.2.2 (fun b hb k _ => by rw [g1 _ (by omega)]) (fun b _ k _ => g2 _ (by omega)), a6.eq a0.2.2.2 (fun i _ => by rw [g1 12 (by decide)]) (fun i _ => g2 _ (by omega)), a7.eq (by rw [g1 14 (by decide)]) (fun i _ => by rw [g1 68 (by decide)]) (g2 _ (by omega)) (fun i _ => g2 _ (by omega)), a8.eq (by rw [g1 15 (by decide)]) (fun i _ => by rw [g1 71 (by decide)]) (g2 _ (by omega)) (fun i _ => g2 _ (by omega))⟩
  intro i hi
  show um M1 10 (fun i => if b' + 1 ≤ i ∧ i ≤ 100 then M1 10 i + (v - (M1 10 (b' + 1) - M1 10 b')) else M1 10 i) 10 i = sI (fun j => put M2 84 b' v 84 j) i
  rw [um_s, e0]
  refine Eq.trans ?_ (sI_put (M := M2) (b := b') (w := v) i).symm
  by_cases hq : b' + 1 ≤ i
  · rw [if_pos ⟨hq, hi⟩, if_pos hq, h.hl i hi]
  · rw [if_neg (fun z => hq z.1), if_neg hq, h.hl i hi]
set_option maxHeartbeats 4000000 in
set_option maxRecDepth 100000 in
theorem s_ofBell {g : GG} {d : Nat} {a v : Int32} : Same g (d + 2) (d + 2) mX9_ofBell mX10_ofBell [some (.ref 0), some (.int a), some (.int v)] [some (.ref 83), some (.int a), some (.int v)] := by
  rintro M1 M2 ⟨n, ne, t, wt, S0, S1, h⟩
  have h8 := h.hn.2.2
  have ok : ((0 ≤ a ∧ a < M1 1 2 ∧ a < 8) ∧ 0 ≤ v ∧ v < 7) ↔ ((0 ≤ a ∧ a < nI n) ∧ 0 ≤ v ∧ v ≤ 6) := and_congr (okB h.hn.1 h8) (and_congr_right fun _ => lt7w)
  refine c9_ofBell (fun hn => c10_ofBell h.hn.2.1 h8 (fun _ => h.er (by decide) (by decide)) (fun hp => absurd (ok.mpr hp) hn)) (fun hp b hb ha => c10_ofBell h.hn.2.1 h8 (fun hn => absurd (ok.mp hp) hn) (fun _ b' j hb' hj ha' hv => ?_))
  obtain rfl : b' = b := nI_inj2 (ha'.symm.trans ha) (by omega) (by omega)
  subst hv
  refine ⟨_, rfl, congrArg (fun q => some (Value.int q)) ?_, h.e⟩
  rw [← h.bl.at hb' hj]
  have hj7 : j = 0 ∨ j = 1 ∨ j = 2 ∨ j = 3 ∨ j = 4 ∨ j = 5 ∨ j = 6 := by omega
  rcases hj7 with rfl | rfl | rfl | rfl | rfl | rfl | rfl <;> rfl
set_option maxHeartbeats 4000000 in
set_option maxRecDepth 100000 in
theorem s_strikes {g : GG} {d : Nat} {a v : Int32} : Same g (d + 2) (d + 2) mX9_strikes mX10_strikes [some (.ref 0), some (.int a), some (.int v)] [some (.ref 83), some (.int a), some (.int v)] := by
  rintro M1 M2 ⟨n, ne, t, wt, S0, S1, h⟩
  have h8 := h.hn.2.2
  have ok : ((0 ≤ a ∧ a < M1 1 2 ∧ a < 8) ∧ 0 ≤ v ∧ v ≤ 23) ↔ ((0 ≤ a ∧ a < nI n) ∧ 0 ≤ v ∧ v ≤ 23) := and_congr_left' (okB h.hn.1 h8)
  have hs : ∀ b, b < n → M2 84 (108 + 7 * b + 6) = 0 ∨ M2 84 (108 + 7 * b + 6) = 1 := fun b hb => by rw [← h.bl.at hb (k := 6) (by decide)]; exact (h.bl.2 b (by omega)).2.2.2.2.2.2
  refine c9_strikes (fun hn => c10_strikes h.hn.2.1 h8 hs (fun _ => h.er (by decide) (by decide)) (fun hp => absurd (ok.mpr hp) hn)) (fun hp b hb ha => c10_strikes h.hn.2.1 h8 hs (fun hn => absurd (ok.mp hp) hn) (fun _ b' hb' ha' => ?_))
  obtain rfl : b' = b := nI_inj2 (ha'.symm.trans ha) (by omega) (by omega)
  rw [← h.bl.at hb' (k := 0) (by decide), ← h.bl.at hb' (k := 1) (by decide), ← h.bl.at hb' (k := 6) (by decide)]
  exact ⟨_, rfl, rfl, h.e⟩
set_option maxHeartbeats 4000000 in
set_option maxRecDepth 100000 in
theorem s_as {g : GG} {d : Nat} {a v : Int32} : Same g (d + 2) (d + 2) mX9_as mX10_as [some (.ref 0), some (.int a), some (.int v)] [some (.ref 83), some (.int a), some (.int v)] := by
  rintro M1 M2 ⟨n, ne, t, wt, S0, S1, h⟩
  have h8 := h.hn.2.2
  have ok : ((0 ≤ a ∧ a < M1 1 2 ∧ a < 8) ∧ 0 ≤ v ∧ v < 7) ↔ ((0 ≤ a ∧ a < nI n) ∧ 0 ≤ v ∧ v ≤ 6) := and_congr (okB h.hn.1 h8) (and_congr_right fun _ => lt7w)
  refine c9_as (fun b hb => (h.bl.2 b hb).1) (fun hn => c10_as h.hn.2.1 h8 (fun _ => h.er (by decide) (by decide)) (fun hp => absurd (ok.mpr hp) hn) (fun hp => absurd (ok.mpr hp) hn)) (fun hp b hb ha hk => c10_as h.hn.2.1 h8 (fun hn => absurd (ok.mp hp) hn) (fun _ _ _ _ _ => h.er (by decide) (by decide)) (fun _ b' hb' ha' hk' => ?_)) (fun hp b hb ha hk => c10_as h.hn.2.1 h8 (fun hn => absurd (ok.mp hp) hn) (fun _ b' hb' ha' hk' => ?_) (fun _ b' hb' ha' hk' => ?_))
  · obtain rfl : b' = b := nI_inj2 (ha'.symm.trans ha) (by omega) (by omega)
    rw [← h.bl.at hb' (k := 0) (by decide), hk] at hk'
    cases hk'
  · obtain rfl : b' = b := nI_inj2 (ha'.symm.trans ha) (by omega) (by omega)
    rw [← h.bl.at hb' (k := 0) (by decide), hk] at hk'
    cases hk'
  · obtain rfl : b' = b := nI_inj2 (ha'.symm.trans ha) (by omega) (by omega)
    rw [← h.bl.at hb' (k := 3) (by decide)]
    exact ⟨_, rfl, rfl, h.e⟩
set_option maxHeartbeats 4000000 in
set_option maxRecDepth 100000 in
theorem s_told {g : GG} {d : Nat} {a : Int32} : Same g (d + 2) (d + 2) mX9_told mX10_told [some (.ref 0), some (.int a)] [some (.ref 83), some (.int a)] := by
  rintro M1 M2 ⟨n, ne, t, wt, S0, S1, h⟩
  refine c9_told (fun hn => c10_told (fun _ => h.er (by decide) (by decide)) (fun hp => absurd hp hn)) (fun hp k hk ha => c10_told (fun hn => absurd hp hn) (fun _ k' hk' ha' => ?_))
  obtain rfl : k' = k := nI_inj2 (ha'.symm.trans ha) (by omega) (by omega)
  have h1 : 1 ≤ k' := by
    have := hp.1
    rw [ha'] at this
    exact (nI_leI (a := 1) (by omega) (by omega)).mp this
  rw [← h.2.2.1 k' h1 (by omega)]
  exact ⟨_, rfl, rfl, h.e⟩
set_option maxHeartbeats 4000000 in
set_option maxRecDepth 100000 in
theorem s_trace {g : GG} {d : Nat} {a : Int32} : Same g (d + 2) (d + 1) mX9_trace mX10_trace [some (.ref 0), some (.int a)] [some (.ref 83), some (.int a)] := by
  rintro M1 M2 ⟨n, ne, t, wt, S0, S1, h⟩
  obtain ⟨tr, h40, q1, q2, q3⟩ := h.2.2.2.2
  refine c9_trace q1 h40 (fun hn => c10_trace q2 h40 (fun _ => h.er (by decide) (by decide)) (fun hp => absurd (q1 ▸ hp) hn)) (fun hp k hk ha => c10_trace q2 h40 (fun hn => absurd (q1 ▸ hp) hn) (fun _ k' hk' ha' => ?_))
  obtain rfl : k' = k := nI_inj2 (ha'.symm.trans ha) (by omega) (by omega)
  rw [← q3 k' hk']
  exact ⟨_, rfl, rfl, h.e⟩
set_option maxHeartbeats 4000000 in
set_option maxRecDepth 100000 in
theorem s_count {g : GG} {d : Nat} {a : Int32} : Same g (d + 2) (d + 2) mX9_count mX10_count [some (.ref 0), some (.int a)] [some (.ref 83), some (.int a)] := by
  rintro M1 M2 ⟨n, ne, t, wt, S0, S1, h⟩
  have h8 := h.hn.2.2
  have hs : sI (fun b => M1 (30 + b) 6) n = sI (fun b => M2 84 (108 + 7 * b + 6)) n := sI_ext n (fun b hb => h.bl.at hb (by decide))
  obtain ⟨tr, h40, q1, q2, q3⟩ := h.2.2.2.2
  have go : ∀ (x1 x2 : Int32), x1 = x2 → SameQ (some (.int x1)) (some (.int x2)) M1 M2 := fun x1 x2 e => ⟨x1, rfl, by rw [e], h.e⟩
  have K : ∀ (P : Prop) (x1 x2 : Int32), x1 = x2 → (P → P) := fun _ _ _ _ z => z
  refine c9_count h.hn.1 h8 (fun hn => ?_) (fun e => ?_) (fun e => ?_) (fun e => ?_) (fun e => ?_) (fun e => ?_) (fun e => ?_) (fun e => ?_) (fun e => ?_)
  · refine c10_count h.hn.2.1 h8 (fun _ => h.er (by decide) (by decide)) ?_ ?_ ?_ ?_ ?_ ?_ ?_ ?_ <;> (intro e; subst e; exact absurd (by decide) hn)
  · subst e
    refine c10_count h.hn.2.1 h8 (fun hn => absurd (by decide) hn) (fun _ => go _ _ (h.hn.1.trans h.hn.2.1.symm)) (fun e => absurd e (by decide)) (fun e => absurd e (by decide)) (fun e => absurd e (by decide)) (fun e => absurd e (by decide)) (fun e => absurd e (by decide)) (fun e => absurd e (by decide)) (fun e => absurd e (by decide))
  · subst e
    refine c10_count h.hn.2.1 h8 (fun hn => absurd (by decide) hn) (fun e => absurd e (by decide)) (fun _ => go _ _ (h.hne.1.trans h.hne.2.1.symm)) (fun e => absurd e (by decide)) (fun e => absurd e (by decide)) (fun e => absurd e (by decide)) (fun e => absurd e (by decide)) (fun e => absurd e (by decide)) (fun e => absurd e (by decide))
  · subst e
    refine c10_count h.hn.2.1 h8 (fun hn => absurd (by decide) hn) (fun e => absurd e (by decide)) (fun e => absurd e (by decide)) (fun _ => go _ _ (hs)) (fun e => absurd e (by decide)) (fun e => absurd e (by decide)) (fun e => absurd e (by decide)) (fun e => absurd e (by decide)) (fun e => absurd e (by decide))
  · subst e
    refine c10_count h.hn.2.1 h8 (fun hn => absurd (by decide) hn) (fun e => absurd e (by decide)) (fun e => absurd e (by decide)) (fun e => absurd e (by decide)) (fun _ => go _ _ (h.wn.1.1)) (fun e => absurd e (by decide)) (fun e => absurd e (by decide)) (fun e => absurd e (by decide)) (fun e => absurd e (by decide))
  · subst e
    refine c10_count h.hn.2.1 h8 (fun hn => absurd (by decide) hn) (fun e => absurd e (by decide)) (fun e => absurd e (by decide)) (fun e => absurd e (by decide)) (fun e => absurd e (by decide)) (fun _ => go _ _ (h.tp.1.trans h.tp.2.1.symm)) (fun e => absurd e (by decide)) (fun e => absurd e (by decide)) (fun e => absurd e (by decide))
  · subst e
    refine c10_count h.hn.2.1 h8 (fun hn => absurd (by decide) hn) (fun e => absurd e (by decide)) (fun e => absurd e (by decide)) (fun e => absurd e (by decide)) (fun e => absurd e (by decide)) (fun e => absurd e (by decide)) (fun _ => go _ _ (h.wt.1.trans h.wt.2.1.symm)) (fun e => absurd e (by decide)) (fun e => absurd e (by decide))
  · subst e
    refine c10_count h.hn.2.1 h8 (fun hn => absurd (by decide) hn) (fun e => absurd e (by decide)) (fun e => absurd e (by decide)) (fun e => absurd e (by decide)) (fun e => absurd e (by decide)) (fun e => absurd e (by decide)) (fun e => absurd e (by decide)) (fun _ => go _ _ (q1.trans q2.symm)) (fun e => absurd e (by decide))
  · subst e
    refine c10_count h.hn.2.1 h8 (fun hn => absurd (by decide) hn) (fun e => absurd e (by decide)) (fun e => absurd e (by decide)) (fun e => absurd e (by decide)) (fun e => absurd e (by decide)) (fun e => absurd e (by decide)) (fun e => absurd e (by decide)) (fun e => absurd e (by decide)) (fun _ => go _ _ (h.wn.2.2.2))

