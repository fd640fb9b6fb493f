/-! ===== the start: class and reference are alike ===== -/
/-- the reference's memory at its start -/
def M20 : Mem := fun k => if k = 84 then upd (upd (upd (fun _ => 0) 101 3) 102 60) 105 1 else (fun _ => 0)
def ad10 (g : GG) (q : Nat) (f : Nat → Nat) (k : Nat) : Nat := if k < 83 then g.2.2.1 k else if k = 83 then q else if k < 102 then f (k - 84) else g.2.2.1 k

set_option maxHeartbeats 4000000 in
set_option maxRecDepth 100000 in
theorem b10_w {g : GG} {q : Nat} {f : Nat → Nat} : bX10 g q f = wdl rS (g.1, g.2.1, ad10 g q f, g.2.2.2) M20 := rfl
theorem sI_zero {f : Nat → Int32} : ∀ n, (∀ i, i < n → f i = 0) → sI f n = 0
  | 0, _ => rfl
  | n + 1, h => by rw [sI, sI_zero n (fun i hi => h i (by omega)), h n (by omega)]; rfl
theorem M20_0 {j : Nat} (h1 : j ≠ 101) (h2 : j ≠ 102) (h3 : j ≠ 105) : M20 84 j = 0 := by
  unfold M20
  rw [if_pos rfl]
  unfold upd
  rw [if_neg h3, if_neg h2, if_neg h1]
theorem M20_c {c : Nat} (h : c ≠ 84) : M20 c = fun _ => 0 := by unfold M20; rw [if_neg h]
theorem M00_c {c : Nat} (h1 : c ≠ 1) (h2 : c ≠ 2) : M00 c = fun _ => 0 := by
  unfold M00
  rw [if_neg (by omega)]
theorem ini_rel {M : Mem} (h : Ini M) : Rel M M20 0 0 0 0 (dfl 0) (dfl 1) := by
  obtain ⟨M1, a1, a2, a3, b1, b2, b3⟩ := h
  have hc : ∀ c, c ∉ [1, 2, 3, 13, 26, 27, 80, 14, 68, 15, 71] → M c = fun _ => 0 := fun c h => by
    simp only [List.mem_cons, List.not_mem_nil, or_false, not_or] at h
    rw [b1 c (by simp only [List.mem_cons, List.not_mem_nil, or_false]; omega), put_cell (by omega), a1 c (by simp only [List.mem_cons, List.not_mem_nil, or_false]; omega), put_cell (by omega)]
    exact M00_c (by omega) (by omega)
  have h1 : ∀ j, M 1 j = if j = 9 then 0 else M00 1 j := fun j => by
    rw [b1 1 (by decide)]
    by_cases e : j = 9
    · subst e; rw [put_s, if_pos rfl]
    · rw [put_n (fun q => e q.2), a1 1 (by decide), put_n (fun q => e q.2), if_neg e]
  have l0 : M 14 1 = nI (dfl 0).length := by rw [b1 14 (by decide), put_cell (by decide)]; exact a2
  have l0' : ∀ i, i < (dfl 0).length → M 68 i = (dfl 0).getD i 0 := fun i hi => by rw [b1 68 (by decide), put_cell (by decide)]; exact a3 i hi
  refine ⟨⟨⟨⟨by rw [h1]; rfl, M20_0 (by decide) (by decide) (by decide), by decide⟩, by rw [h1]; rfl, M20_0 (by decide) (by decide) (by decide), by decide⟩, ?_, ?_, ?_, ?_, ?_, ?_, ?_, ?_⟩, ?_, ?_, ?_, ?_⟩
  · refine ⟨⟨?_, ?_⟩, ⟨?_, ?_⟩, ⟨?_, ?_⟩, ?_⟩
    · rw [h1, M20_0 (by decide) (by decide) (by decide)]; rfl
    · rw [M20_0 (by decide) (by decide) (by decide)]; exact ⟨by decide, by decide⟩
    · rw [h1]; rfl
    · show rg 0 30 3; exact ⟨by decide, by decide⟩
    · rw [h1]; rfl
    · show rg 0 300 60; exact ⟨by decide, by decide⟩
    · rw [h1]; rfl
  · exact ⟨by rw [h1]; rfl, M20_0 (by decide) (by decide) (by decide), by decide, fun i hi => by omega⟩
  · exact ⟨by rw [h1]; rfl, M20_0 (by decide) (by decide) (by decide), by decide, fun i hi => by omega⟩
  · intro i hi
    rw [hc 10 (by decide), sI_zero i (fun j hj => M20_0 (by omega) (by omega) (by omega))]
  · refine ⟨fun b hb => by omega, fun b hb => ?_⟩
    rw [hc (30 + b) (by simp only [List.mem_cons, List.not_mem_nil, or_false]; omega)]
    exact ⟨⟨by decide, by decide⟩, ⟨by decide, by decide⟩, ⟨by decide, by decide⟩, ⟨by decide, by decide⟩, ⟨by decide, by decide⟩, ⟨by decide, by decide⟩, Or.inl rfl⟩
  · refine ⟨fun e he => by omega, fun e he => ?_⟩
    rw [hc 12 (by decide)]
    show rg 0 99 0
    exact ⟨by decide, by decide⟩
  · exact ⟨Or.inl ⟨M20_0 (by decide) (by decide) (by decide), rfl⟩, l0, by decide, l0'⟩
  · exact ⟨Or.inl ⟨M20_0 (by decide) (by decide) (by decide), rfl⟩, b2, by decide, b3⟩
  · refine ⟨by rw [hc 0 (by decide), M20_c (by decide)], fun z => absurd (by rw [M20_c (by decide)]) z⟩
  · intro k _ _
    rw [hc 9 (by decide), M20_c (by decide)]
  · intro s hs
    rw [hc 62 (by decide), hc 63 (by decide), M20_c (c := 98) (by decide), M20_c (c := 99) (by decide), M20_c (c := 100) (by decide), hc (64 + s) (by simp only [List.mem_cons, List.not_mem_nil, or_false]; omega)]
    exact ⟨rfl, rfl, ⟨0, by decide, rfl⟩, Or.inl rfl, fun i _ => ⟨rfl, fun _ => rfl⟩⟩
  · refine ⟨0, by decide, ?_, ?_, fun i hi => by omega⟩
    · rw [hc 7 (by decide)]; rfl
    · rw [M20_c (by decide)]; rfl

