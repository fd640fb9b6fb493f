/-! ===== the relation of class and reference ===== -/
def RCn (M : Mem) (v : Nat) (f : Nat → Int32) (n ne : Nat) : Prop := (M v 2 = nI n ∧ f 103 = nI n ∧ n ≤ 8) ∧ (M v 4 = nI ne ∧ f 104 = nI ne ∧ ne ≤ 10)
def RWn (M : Mem) (v : Nat) (f : Nat → Int32) : Prop := (M v 5 = f 100 ∧ rg (-5) 5 (f 100)) ∧ (M v 6 = f 101 ∧ rg 0 30 (f 101)) ∧ (M v 7 = f 102 ∧ rg 0 300 (f 102)) ∧ M v 12 = f 105
def RTp (M : Mem) (v tp : Nat) (f : Nat → Int32) (t : Nat) : Prop := M v 9 = nI t ∧ f 106 = nI t ∧ t ≤ 50 ∧ ∀ i, i < t → M tp i = f (303 + i) ∧ isB (M tp i)
def RWt (M : Mem) (v wt : Nat) (f : Nat → Int32) (w : Nat) : Prop := M v 14 = nI w ∧ f 107 = nI w ∧ w ≤ 20 ∧ ∀ i, i < w → M wt i = f (183 + i)
def RHl (M : Mem) (hl : Nat) (f : Nat → Int32) : Prop := ∀ i, i ≤ 100 → M hl i = sI f i
def BD (g : Nat → Int32) : Prop := rg 0 6 (g 0) ∧ rg 0 23 (g 1) ∧ rg 0 99 (g 2) ∧ rg 0 99 (g 3) ∧ rg (-900) 900 (g 4) ∧ rg 0 99 (g 5) ∧ (g 6 = 0 ∨ g 6 = 1)
def RBl (M : Mem) (bl : Nat) (f : Nat → Int32) (n : Nat) : Prop := (∀ b, b < n → ∀ k, k < 7 → M (bl + b) k = f (108 + 7 * b + k)) ∧ ∀ b, b < 8 → BD (M (bl + b))
def REr (M : Mem) (er : Nat) (f : Nat → Int32) (ne : Nat) : Prop := (∀ e, e < ne → M er e = f (171 + e)) ∧ ∀ e, e < 10 → rg 0 99 (M er e)
def RLw (M : Mem) (l s : Nat) (f : Nat → Int32) (us : Nat) (S : List Int32) : Prop := LwR (fun _ => f) us S ∧ M l 1 = nI S.length ∧ S.length ≤ 50 ∧ ∀ i, i < S.length → M s i = S.getD i 0
/-- one valley -/
def VRel (M : Mem) (v hl er tp wt l0 s0 l1 s1 bl : Nat) (f : Nat → Int32) (n ne t w : Nat) (S0 S1 : List Int32) : Prop := RCn M v f n ne ∧ RWn M v f ∧ RTp M v tp f t ∧ RWt M v wt f w ∧ RHl M hl f ∧ RBl M bl f n ∧ REr M er f ne ∧ RLw M l0 s0 f 0 S0 ∧ RLw M l1 s1 f 1 S1
def shv (x y : Int32) : Prop := spt x = spt y ∧ (spt x = true → x = y)
def RSh (M1 M2 : Mem) : Prop := ∀ s, s < 4 → M1 62 s = M2 98 s ∧ M1 63 s = M2 99 s ∧ (∃ z, z ≤ 40 ∧ M2 99 s = nI z) ∧ (M2 98 s = 0 ∨ M2 98 s = 8 ∨ M2 98 s = 16 ∨ M2 98 s = 32) ∧ ∀ i, i < 40 → shv (M1 (64 + s) i) (M2 100 (40 * s + i))
def RTr (M1 M2 : Mem) : Prop := ∃ tr, tr ≤ 40 ∧ M1 7 1 = nI tr ∧ M2 83 22 = nI tr ∧ ∀ i, i < tr → M1 60 i = M2 97 i
def RKp (M1 M2 : Mem) : Prop := M1 0 9 = M2 83 3 ∧ (¬ M2 83 3 = 0 → ∃ n ne t w S0 S1, VRel M1 2 18 20 21 24 22 74 23 77 38 (M2 86) n ne t w S0 S1)
def REe (M1 M2 : Mem) : Prop := ∀ k, 1 ≤ k → k ≤ 5 → M1 9 k = M2 87 k
def RVl (M1 M2 : Mem) (n ne t w : Nat) (S0 S1 : List Int32) : Prop := VRel M1 1 10 12 13 16 14 68 15 71 30 (M2 84) n ne t w S0 S1
def Rel (M1 M2 : Mem) (n ne t w : Nat) (S0 S1 : List Int32) : Prop := RVl M1 M2 n ne t w S0 S1 ∧ RKp M1 M2 ∧ REe M1 M2 ∧ RSh M1 M2 ∧ RTr M1 M2
def RelE (M1 M2 : Mem) : Prop := ∃ n ne t w S0 S1, Rel M1 M2 n ne t w S0 S1
theorem nx_ext {f g : Nat → Int32} {n : Nat} (h : ∀ i, i < n → f i = g i) : nx f n = nx g n := by
  funext k
  unfold nx
  by_cases c : k < n
  · rw [if_pos c, if_pos c, h k c]
  · rw [if_neg c, if_neg c]
theorem LwR.ext {f f' : Nat → Int32} {us : Nat} {S : List Int32} (h : LwR (fun _ => f) us S) (h1 : f' (181 + us) = f (181 + us)) (h2 : ∀ i, i < 50 → f' (203 + 50 * us + i) = f (203 + 50 * us + i)) : LwR (fun _ => f') us S := by
  rcases h with ⟨a, b⟩ | ⟨n, a1, a2, a3, a4⟩
  · exact Or.inl ⟨h1.trans a, b⟩
  · refine Or.inr ⟨n, a1, a2, h1.trans a3, ?_⟩
    rw [← a4]
    exact congrArg (fun q => rdT q us) (nx_ext (fun i hi => h2 i (by omega)))
section RG
variable {M M' : Mem} {f f' : Nat → Int32} {v hl er tp wt l s bl v' hl' er' tp' wt' l' s' bl' n ne t w us : Nat} {S : List Int32}
theorem RCn.eq (h : RCn M v f n ne) (a1 : M' v' 2 = M v 2) (a2 : M' v' 4 = M v 4) (b1 : f' 103 = f 103) (b2 : f' 104 = f 104) : RCn M' v' f' n ne := by
  unfold RCn
  rw [a1, a2, b1, b2]
  exact h
theorem RWn.eq (h : RWn M v f) (a1 : M' v' 5 = M v 5) (a2 : M' v' 6 = M v 6) (a3 : M' v' 7 = M v 7) (a4 : M' v' 12 = M v 12) (b1 : f' 100 = f 100) (b2 : f' 101 = f 101) (b3 : f' 102 = f 102) (b4 : f' 105 = f 105) : RWn M' v' f' := by
  unfold RWn
  rw [a1, a2, a3, a4, b1, b2, b3, b4]
  exact h
theorem RTp.eq (h : RTp M v tp f t) (a1 : M' v' 9 = M v 9) (a2 : ∀ i, i < 50 → M' tp' i = M tp i) (b1 : f' 106 = f 106) (b2 : ∀ i, i < 50 → f' (303 + i) = f (303 + i)) : RTp M' v' tp' f' t := by
  unfold RTp
  rw [a1, b1]
  exact ⟨h.1, h.2.1, h.2.2.1, fun i hi => by have := h.2.2.1; rw [a2 i (by omega), b2 i (by omega)]; exact h.2.2.2 i hi⟩
theorem RWt.eq (h : RWt M v wt f w) (a1 : M' v' 14 = M v 14) (a2 : ∀ i, i < 20 → M' wt' i = M wt i) (b1 : f' 107 = f 107) (b2 : ∀ i, i < 20 → f' (183 + i) = f (183 + i)) : RWt M' v' wt' f' w := by
  unfold RWt
  rw [a1, b1]
  exact ⟨h.1, h.2.1, h.2.2.1, fun i hi => by have := h.2.2.1; rw [a2 i (by omega), b2 i (by omega)]; exact h.2.2.2 i hi⟩
theorem sI_ext {f g : Nat → Int32} : ∀ n, (∀ i, i < n → f i = g i) → sI f n = sI g n
  | 0, _ => rfl
  | n + 1, h => by rw [sI, sI, sI_ext n (fun i hi => h i (by omega)), h n (by omega)]
theorem RHl.eq (h : RHl M hl f) (a1 : ∀ i, i ≤ 100 → M' hl' i = M hl i) (b1 : ∀ i, i < 100 → f' i = f i) : RHl M' hl' f' := fun i hi => by
  rw [a1 i hi, sI_ext i (fun j hj => b1 j (by omega))]
  exact h i hi
theorem BD.eq {g g' : Nat → Int32} (h : BD g) (a : ∀ k, k < 7 → g' k = g k) : BD g' := by
  unfold BD
  rw [a 0 (by decide), a 1 (by decide), a 2 (by decide), a 3 (by decide), a 4 (by decide), a 5 (by decide), a 6 (by decide)]
  exact h
theorem RBl.eq (h : RBl M bl f n) (h8 : n ≤ 8) (a1 : ∀ b, b < 8 → ∀ k, k < 7 → M' (bl' + b) k = M (bl + b) k) (b1 : ∀ b, b < 8 → ∀ k, k < 7 → f' (108 + 7 * b + k) = f (108 + 7 * b + k)) : RBl M' bl' f' n :=
  ⟨fun b hb k hk => by rw [a1 b (by omega) k hk, b1 b (by omega) k hk]; exact h.1 b hb k hk, fun b hb => (h.2 b hb).eq (a1 b hb)⟩
theorem REr.eq (h : REr M er f ne) (h10 : ne ≤ 10) (a1 : ∀ i, i < 10 → M' er' i = M er i) (b1 : ∀ i, i < 10 → f' (171 + i) = f (171 + i)) : REr M' er' f' ne :=
  ⟨fun e he => by rw [a1 e (by omega), b1 e (by omega)]; exact h.1 e he, fun e he => by rw [a1 e he]; exact h.2 e he⟩
theorem RLw.eq (h : RLw M l s f us S) (a1 : M' l' 1 = M l 1) (a2 : ∀ i, i < 50 → M' s' i = M s i) (b1 : f' (181 + us) = f (181 + us)) (b2 : ∀ i, i < 50 → f' (203 + 50 * us + i) = f (203 + 50 * us + i)) : RLw M' l' s' f' us S :=
  ⟨h.1.ext b1 b2, a1.trans h.2.1, h.2.2.1, fun i hi => by have := h.2.2.1; rw [a2 i (by omega)]; exact h.2.2.2 i hi⟩
end RG
/-- the cells of the class that last -/
def pcL : List Nat := [0, 1, 2, 7, 9, 10, 12, 13, 14, 15, 16, 18, 20, 21, 22, 23, 24, 30, 31, 32, 33, 34, 35, 36, 37, 38, 39, 40, 41, 42, 43, 44, 45, 60, 62, 63, 64, 65, 66, 67, 68, 71, 74, 77]
def KpC (M M' : Mem) : Prop := ∀ c, c ∈ pcL → M' c = M c
theorem KpC.of {S : List Nat} {M M' : Mem} (h : eqx S M M') (hS : ∀ c, c ∈ pcL → c ∉ S) : KpC M M' := fun c hc => h c (hS c hc)
theorem pc_b {b : Nat} (h : b < 8) : 30 + b ∈ pcL ∧ 38 + b ∈ pcL := by
  have : ∀ b, b < 8 → 30 + b ∈ pcL ∧ 38 + b ∈ pcL := by decide
  exact this b h
theorem pc_s {s : Nat} (h : s < 4) : 64 + s ∈ pcL := by
  have : ∀ b, b < 4 → 64 + b ∈ pcL := by decide
  exact this s h
theorem VRel.eqM {M M' : Mem} {v hl er tp wt l0 s0 l1 s1 bl n ne t w : Nat} {f : Nat → Int32} {S0 S1 : List Int32} (h : VRel M v hl er tp wt l0 s0 l1 s1 bl f n ne t w S0 S1) (hv : M' v = M v) (h1 : M' hl = M hl) (h2 : M' er = M er) (h3 : M' tp = M tp) (h4 : M' wt = M wt) (h5 : M' l0 = M l0) (h6 : M' s0 = M s0) (h7 : M' l1 = M l1) (h8 : M' s1 = M s1) (h9 : ∀ b, b < 8 → M' (bl + b) = M (bl + b)) : VRel M' v hl er tp wt l0 s0 l1 s1 bl f n ne t w S0 S1 := by
  obtain ⟨a, b, c, d, e, i, j, k, l⟩ := h
  refine ⟨a.eq (by rw [hv]) (by rw [hv]) rfl rfl, b.eq (by rw [hv]) (by rw [hv]) (by rw [hv]) (by rw [hv]) rfl rfl rfl rfl, c.eq (by rw [hv]) (fun i _ => by rw [h3]) rfl (fun _ _ => rfl), d.eq (by rw [hv]) (fun i _ => by rw [h4]) rfl (fun _ _ => rfl), e.eq (fun i _ => by rw [h1]) (fun _ _ => rfl), i.eq a.1.2.2 (fun b hb k _ => by rw [h9 b hb]) (fun _ _ _ _ => rfl), j.eq a.2.2.2 (fun i _ => by rw [h2]) (fun _ _ => rfl), k.eq (by rw [h5]) (fun i _ => by rw [h6]) rfl (fun _ _ => rfl), l.eq (by rw [h7]) (fun i _ => by rw [h8]) rfl (fun _ _ => rfl)⟩
theorem RVl.keepC {M1 M1' M2 : Mem} {n ne t w : Nat} {S0 S1 : List Int32} (h : RVl M1 M2 n ne t w S0 S1) (k : KpC M1 M1') : RVl M1' M2 n ne t w S0 S1 := VRel.eqM h (k 1 (by decide)) (k 10 (by decide)) (k 12 (by decide)) (k 13 (by decide)) (k 16 (by decide)) (k 14 (by decide)) (k 68 (by decide)) (k 15 (by decide)) (k 71 (by decide)) (fun b hb => k _ (pc_b hb).1)
theorem RKp.keepC {M1 M1' M2 : Mem} (h : RKp M1 M2) (h0 : M1' 0 9 = M1 0 9) (k : ∀ c, c ∈ pcL → c ≠ 0 → c ≠ 1 → c ≠ 9 → M1' c = M1 c ∨ (c ≠ 2 ∧ c < 18) ∨ (30 ≤ c ∧ c < 38) ∨ c = 60 ∨ (62 ≤ c ∧ c < 74)) : RKp M1' M2 := by
  have e : ∀ c, c ∈ [2, 18, 20, 21, 22, 23, 24, 74, 77, 38, 39, 40, 41, 42, 43, 44, 45] → M1' c = M1 c := fun c hc => by
    have hp : ∀ c, c ∈ [2, 18, 20, 21, 22, 23, 24, 74, 77, 38, 39, 40, 41, 42, 43, 44, 45] → c ∈ pcL := by decide
    have hq : ∀ c, c ∈ [2, 18, 20, 21, 22, 23, 24, 74, 77, 38, 39, 40, 41, 42, 43, 44, 45] → c ≠ 0 ∧ c ≠ 1 ∧ c ≠ 9 ∧ ¬ ((c ≠ 2 ∧ c < 18) ∨ (30 ≤ c ∧ c < 38) ∨ c = 60 ∨ (62 ≤ c ∧ c < 74)) := by decide
    have q := hq c hc
    exact (k c (hp c hc) q.1 q.2.1 q.2.2.1).elim id (fun z => absurd z q.2.2.2)
  have h38 : ∀ b, b < 8 → 38 + b ∈ [2, 18, 20, 21, 22, 23, 24, 74, 77, 38, 39, 40, 41, 42, 43, 44, 45] := by decide
  refine ⟨h0.trans h.1, fun hz => ?_⟩
  obtain ⟨n, ne, t, w, S0, S1, hV⟩ := h.2 hz
  exact ⟨n, ne, t, w, S0, S1, hV.eqM (e 2 (by decide)) (e 18 (by decide)) (e 20 (by decide)) (e 21 (by decide)) (e 24 (by decide)) (e 22 (by decide)) (e 74 (by decide)) (e 23 (by decide)) (e 77 (by decide)) (fun b hb => e _ (h38 b hb))⟩
theorem RSh.keepC {M1 M1' M2 : Mem} (h : RSh M1 M2) (a : M1' 62 = M1 62) (b : M1' 63 = M1 63) (c : ∀ s, s < 4 → M1' (64 + s) = M1 (64 + s)) : RSh M1' M2 := fun s hs => by
  rw [a, b, c s hs]
  exact h s hs
theorem RSh.keepR {M1 M2 M2' : Mem} (h : RSh M1 M2) (a : M2' 98 = M2 98) (b : M2' 99 = M2 99) (c : M2' 100 = M2 100) : RSh M1 M2' := fun s hs => by
  rw [a, b, c]
  exact h s hs
theorem RTr.keepC {M1 M1' M2 : Mem} (h : RTr M1 M2) (a : M1' 7 1 = M1 7 1) (b : M1' 60 = M1 60) : RTr M1' M2 := by
  unfold RTr
  rw [a, b]
  exact h
theorem RTr.keepR {M1 M2 M2' : Mem} (h : RTr M1 M2) (a : M2' 83 22 = M2 83 22) (b : M2' 97 = M2 97) : RTr M1 M2' := by
  unfold RTr
  rw [a, b]
  exact h
theorem RKp.keepR {M1 M2 M2' : Mem} (h : RKp M1 M2) (a : M2' 83 3 = M2 83 3) (b : M2' 86 = M2 86) : RKp M1 M2' := by
  unfold RKp
  rw [a, b]
  exact h
/-- scratch of the class may change -/
theorem Rel.keepC {M1 M1' M2 : Mem} {n ne t w : Nat} {S0 S1 : List Int32} (h : Rel M1 M2 n ne t w S0 S1) (k : KpC M1 M1') : Rel M1' M2 n ne t w S0 S1 :=
  ⟨h.1.keepC k, h.2.1.keepC (by rw [k 0 (by decide)]) (fun c hc _ _ _ => Or.inl (k c hc)), fun i a b => by rw [k 9 (by decide)]; exact h.2.2.1 i a b, h.2.2.2.1.keepC (k 62 (by decide)) (k 63 (by decide)) (fun s hs => k _ (pc_s hs)), h.2.2.2.2.keepC (by rw [k 7 (by decide)]) (k 60 (by decide))⟩
/-- scratch of the reference may change -/
theorem Rel.keepR {M1 M2 M2' : Mem} {n ne t w : Nat} {S0 S1 : List Int32} (h : Rel M1 M2 n ne t w S0 S1) (k : KpX M2 M2') : Rel M1 M2' n ne t w S0 S1 :=
  ⟨by unfold RVl; rw [k.1 84 (by decide)]; exact h.1, h.2.1.keepR k.2.1 (k.1 86 (by decide)), fun i a b => by rw [k.1 87 (by decide)]; exact h.2.2.1 i a b, h.2.2.2.1.keepR (k.1 98 (by decide)) (k.1 99 (by decide)) (k.1 100 (by decide)), h.2.2.2.2.keepR k.2.2 (k.1 97 (by decide))⟩
/-- an error is told on both sides -/
theorem Rel.err {M1 M2 : Mem} {n ne t w : Nat} {S0 S1 : List Int32} (h : Rel M1 M2 n ne t w S0 S1) (k : Nat) (h1 : 1 ≤ k) (h5 : k ≤ 5) : Rel (put M1 9 k (M1 9 k + 1)) (put M2 87 k (M2 87 k + 1)) n ne t w S0 S1 := by
  have e1 : ∀ c, c ≠ 9 → put M1 9 k (M1 9 k + 1) c = M1 c := fun c hc => put_cell hc
  have e2 : ∀ c, c ≠ 87 → put M2 87 k (M2 87 k + 1) c = M2 c := fun c hc => put_cell hc
  refine ⟨?_, (h.2.1.keepR (by rw [e2 83 (by decide)]) (e2 86 (by decide))).keepC (by rw [e1 0 (by decide)]) (fun c _ _ _ h9 => Or.inl (e1 c h9)), ?_, (h.2.2.2.1.keepR (e2 98 (by decide)) (e2 99 (by decide)) (e2 100 (by decide))).keepC (e1 62 (by decide)) (e1 63 (by decide)) (fun s hs => e1 _ (by omega)), (h.2.2.2.2.keepR (by rw [e2 83 (by decide)]) (e2 97 (by decide))).keepC (by rw [e1 7 (by decide)]) (e1 60 (by decide))⟩
  · unfold RVl
    rw [e2 84 (by decide)]
    exact VRel.eqM h.1 (e1 1 (by decide)) (e1 10 (by decide)) (e1 12 (by decide)) (e1 13 (by decide)) (e1 16 (by decide)) (e1 14 (by decide)) (e1 68 (by decide)) (e1 15 (by decide)) (e1 71 (by decide)) (fun b hb => e1 _ (by omega))
  · intro i a b
    by_cases hi : i = k
    · subst hi
      rw [put_s, put_s, h.2.2.1 i a b]
    · rw [put_n (fun z => hi z.2), put_n (fun z => hi z.2)]
      exact h.2.2.1 i a b
/-- the current valley alone changes -/
theorem Rel.cur {M1 M1' M2 M2' : Mem} {n ne t w n' ne' t' w' : Nat} {S0 S1 S0' S1' : List Int32} (h : Rel M1 M2 n ne t w S0 S1) (k1 : ∀ c, c ∈ pcL → (c = 0 ∨ c = 2 ∨ c = 7 ∨ c = 9 ∨ (18 ≤ c ∧ c ≤ 24) ∨ (38 ≤ c ∧ c ≤ 67) ∨ c = 74 ∨ c = 77) → M1' c = M1 c) (k2 : ∀ c, c ≠ 84 → M2' c = M2 c) (hV : RVl M1' M2' n' ne' t' w' S0' S1') : Rel M1' M2' n' ne' t' w' S0' S1' :=
  ⟨hV, (h.2.1.keepR (by rw [k2 83 (by decide)]) (k2 86 (by decide))).keepC (by rw [k1 0 (by decide) (by decide)]) (fun c hc h0 h1 h9 => by
    by_cases q : c = 0 ∨ c = 2 ∨ c = 7 ∨ c = 9 ∨ (18 ≤ c ∧ c ≤ 24) ∨ (38 ≤ c ∧ c ≤ 67) ∨ c = 74 ∨ c = 77
    · exact Or.inl (k1 c hc q)
    · refine Or.inr ?_
      have : ∀ c, c ∈ pcL → c ≠ 0 → c ≠ 1 → c ≠ 9 → ¬ (c = 0 ∨ c = 2 ∨ c = 7 ∨ c = 9 ∨ (18 ≤ c ∧ c ≤ 24) ∨ (38 ≤ c ∧ c ≤ 67) ∨ c = 74 ∨ c = 77) → ((c ≠ 2 ∧ c < 18) ∨ (30 ≤ c ∧ c < 38) ∨ c = 60 ∨ (62 ≤ c ∧ c < 74)) := by decide
      exact this c hc h0 h1 h9 q), fun i a b => by rw [k1 9 (by decide) (by decide), k2 87 (by decide)]; exact h.2.2.1 i a b, (h.2.2.2.1.keepR (k2 98 (by decide)) (k2 99 (by decide)) (k2 100 (by decide))).keepC (k1 62 (by decide) (by decide)) (k1 63 (by decide) (by decide)) (fun s hs => k1 _ (pc_s hs) (by omega)), (h.2.2.2.2.keepR (by rw [k2 83 (by decide)]) (k2 97 (by decide))).keepC (by rw [k1 7 (by decide) (by decide)]) (k1 60 (by decide) (by decide))⟩
/-- class and reference answer alike and stay alike -/
def SameQ (r1 r2 : Option Value) (M1 M2 : Mem) : Prop := ∃ x : Int32, r1 = some (.int x) ∧ r2 = some (.int x) ∧ RelE M1 M2
def Same (g : GG) (d1 d2 : Nat) (y1 y2 : XM) (ls1 ls2 : List (Option Value)) : Prop := ∀ M1 M2, RelE M1 M2 → V cS g d1 y1 0 ls1 [] M1 (fun r1 M1' => V rS g d2 y2 0 ls2 [] M2 (fun r2 M2' => SameQ r1 r2 M1' M2'))
theorem Rel.e {M1 M2 : Mem} {n ne t w : Nat} {S0 S1 : List Int32} (h : Rel M1 M2 n ne t w S0 S1) : RelE M1 M2 := ⟨n, ne, t, w, S0, S1, h⟩
theorem Rel.er {M1 M2 : Mem} {n ne t w : Nat} {S0 S1 : List Int32} (h : Rel M1 M2 n ne t w S0 S1) {k : Nat} (h1 : 1 ≤ k) (h5 : k ≤ 5) {x : Int32} : SameQ (some (.int x)) (some (.int x)) (put M1 9 k (M1 9 k + 1)) (put M2 87 k (M2 87 k + 1)) := ⟨x, rfl, rfl, (h.err k h1 h5).e⟩


