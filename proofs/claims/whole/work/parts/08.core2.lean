/-! ===== rows at indices that are numbers; Math; cells by symbol ===== -/
abbrev cS : Nat × Nat := (0, 83)
abbrev rS : Nat × Nat := (83, 19)
def b2i (p : Prop) [Decidable p] : Int32 := if p then 1 else 0
theorem b2i_zo (p : Prop) [Decidable p] : b2i p = 0 ∨ b2i p = 1 := by
  unfold b2i
  split
  · exact Or.inr rfl
  · exact Or.inl rfl
theorem b2i_t {p : Prop} [Decidable p] (h : p) : b2i p = 1 := if_pos h
theorem b2i_f {p : Prop} [Decidable p] (h : ¬ p) : b2i p = 0 := if_neg h
theorem b2i_0 {p : Prop} [Decidable p] : b2i p = 0 ↔ ¬ p := by
  unfold b2i
  by_cases h : p
  · rw [if_pos h]; exact ⟨fun e => absurd e (by decide), fun e => absurd h e⟩
  · rw [if_neg h]; exact ⟨fun _ => h, fun _ => rfl⟩
section VN
variable {sd : Nat × Nat} {g : GG} {d : Nat} {y : XM} {pc : Nat} {ls : List (Option Value)} {st : List Value} {M : Mem} {Q : Option Value → Mem → Prop}
theorem V.ialdN {a n b i : Nat} (hd : decode y.2.1 pc = .ok (.iaload, 1)) (ha : lay a = .inr (0, n, b)) (hs : inS sd a) (hi : i < n) (hn : n < 2147483648) (k : V sd g d y (pc + 1) ls (.int (M a i) :: st) M Q) : V sd g d y pc ls (.int (nI i) :: .ref a :: st) M Q :=
  V.iald hd ha hs (vp_in_nI hi (by omega)) (by rw [nI_clamp (by omega)]; exact k)
theorem V.zaldN {a n b i : Nat} (hd : decode y.2.1 pc = .ok (.baload, 1)) (ha : lay a = .inr (1, n, b)) (hs : inS sd a) (hi : i < n) (hn : n < 2147483648) (k : V sd g d y (pc + 1) ls (.int (M a i) :: st) M Q) : V sd g d y pc ls (.int (nI i) :: .ref a :: st) M Q :=
  V.zald hd ha hs (vp_in_nI hi (by omega)) (by rw [nI_clamp (by omega)]; exact k)
theorem V.iastN {a n b i : Nat} {x : Int32} (hd : decode y.2.1 pc = .ok (.iastore, 1)) (ha : lay a = .inr (0, n, b)) (hs : inS sd a) (hi : i < n) (hn : n < 2147483648) (k : V sd g d y (pc + 1) ls st (Jvm.Pilot.@@N@@.put M a i x) Q) : V sd g d y pc ls (.int x :: .int (nI i) :: .ref a :: st) M Q :=
  V.iast hd ha hs (vp_in_nI hi (by omega)) (by rw [nI_clamp (by omega)]; exact k)
theorem V.zastN {a n b i : Nat} {x : Int32} (hd : decode y.2.1 pc = .ok (.bastore, 1)) (ha : lay a = .inr (1, n, b)) (hs : inS sd a) (hi : i < n) (hn : n < 2147483648) (hx : x = 0 ∨ x = 1) (k : V sd g d y (pc + 1) ls st (Jvm.Pilot.@@N@@.put M a i x) Q) : V sd g d y pc ls (.int x :: .int (nI i) :: .ref a :: st) M Q :=
  V.zast hd ha hs (vp_in_nI hi (by omega)) hx (by rw [nI_clamp (by omega)]; exact k)
theorem V.aaldBN {a n b i : Nat} (hd : decode y.2.1 pc = .ok (.aaload, 1)) (ha : lay a = .inr (2, n, b)) (hs : inS sd a) (hi : i < n) (hn : n < 2147483648) (k : V sd g d y (pc + 1) ls (.ref (b + i) :: st) M Q) : V sd g d y pc ls (.int (nI i) :: .ref a :: st) M Q :=
  V.aaldB hd ha hs (vp_in_nI hi (by omega)) (by rw [nI_clamp (by omega)]; exact k)
theorem V.aaldIN {a n b i : Nat} (hd : decode y.2.1 pc = .ok (.aaload, 1)) (ha : lay a = .inr (3, n, b)) (hs : inS sd a) (hi : i < n) (hn : n < 2147483648) (k : V sd g d y (pc + 1) ls (.ref (b + i) :: st) M Q) : V sd g d y pc ls (.int (nI i) :: .ref a :: st) M Q :=
  V.aaldI hd ha hs (vp_in_nI hi (by omega)) (by rw [nI_clamp (by omega)]; exact k)
theorem V.mabs {own : String} {idx : Nat} {x : Int32} (hd : decode y.2.1 pc = .ok (.invokestatic idx, 3)) (ho : y.1.cls = own) (hw : Cond.methodLink own idx Lib.Math.abs.name ∈ lwG) (hst : stS st ≤ 8) (k : V sd g (d + 1) y (pc + 3) ls (.int (if 0 ≤ x then x else 0 - x) :: st) M Q) : V sd g (d + 1) y pc ls (.int x :: st) M Q := by
  subst ho
  intro p e s m ar be me c H lo lC h
  have ht := h.2.2.2.2.2.2.1
  exact va_mabs h.1 h.2.1 (by rw [h.2.2.2.1, h.lc.1]) h.2.2.2.2.1 (ht _ (wsG_in hw)) (ht _ (wsG_in mt_abs)) (ht _ (wsG_in iniRJ9)) (ht _ (wsG_in mc_abs)) (Nat.succ_le_succ (Nat.zero_le _)) (by rw [stS_cv]; show stS st + 13 ≤ 60 * (d + 1); omega) (Nat.le_refl _) (Nat.le_refl _) hd (k p e s m ar be me c H lo lC h)
theorem V.mmax {own : String} {idx : Nat} {x y0 : Int32} (hd : decode y.2.1 pc = .ok (.invokestatic idx, 3)) (ho : y.1.cls = own) (hw : Cond.methodLink own idx Lib.Math.max.name ∈ lwG) (hst : stS st ≤ 8) (k : V sd g (d + 1) y (pc + 3) ls (.int (if x < y0 then y0 else x) :: st) M Q) : V sd g (d + 1) y pc ls (.int y0 :: .int x :: st) M Q := by
  subst ho
  intro p e s m ar be me c H lo lC h
  have ht := h.2.2.2.2.2.2.1
  exact va_mmax h.1 h.2.1 (by rw [h.2.2.2.1, h.lc.1]) h.2.2.2.2.1 (ht _ (wsG_in hw)) (ht _ (wsG_in mt_max)) (ht _ (wsG_in iniRJ9)) (ht _ (wsG_in mc_max)) (Nat.succ_le_succ (Nat.zero_le _)) (by rw [stS_cv]; show stS st + 13 ≤ 60 * (d + 1); omega) (Nat.le_refl _) (Nat.le_refl _) hd (k p e s m ar be me c H lo lC h)
theorem V.mmin {own : String} {idx : Nat} {x y0 : Int32} (hd : decode y.2.1 pc = .ok (.invokestatic idx, 3)) (ho : y.1.cls = own) (hw : Cond.methodLink own idx Lib.Math.min.name ∈ lwG) (hst : stS st ≤ 8) (k : V sd g (d + 1) y (pc + 3) ls (.int (if y0 < x then y0 else x) :: st) M Q) : V sd g (d + 1) y pc ls (.int y0 :: .int x :: st) M Q := by
  subst ho
  intro p e s m ar be me c H lo lC h
  have ht := h.2.2.2.2.2.2.1
  exact va_mmin h.1 h.2.1 (by rw [h.2.2.2.1, h.lc.1]) h.2.2.2.2.1 (ht _ (wsG_in hw)) (ht _ (wsG_in mt_min)) (ht _ (wsG_in iniRJ9)) (ht _ (wsG_in mc_min)) (Nat.succ_le_succ (Nat.zero_le _)) (by rw [stS_cv]; show stS st + 13 ≤ 60 * (d + 1); omega) (Nat.le_refl _) (Nat.le_refl _) hd (k p e s m ar be me c H lo lC h)
theorem V.top {x x' : Int32} (h : x = x') (k : V sd g d y pc ls (.int x' :: st) M Q) : V sd g d y pc ls (.int x :: st) M Q := h ▸ k
theorem V.top1 {v : Value} {x x' : Int32} (h : x = x') (k : V sd g d y pc ls (v :: .int x' :: st) M Q) : V sd g d y pc ls (v :: .int x :: st) M Q := h ▸ k
theorem V.top2 {v w : Value} {x x' : Int32} (h : x = x') (k : V sd g d y pc ls (v :: w :: .int x' :: st) M Q) : V sd g d y pc ls (v :: w :: .int x :: st) M Q := h ▸ k
theorem V.lseq {ls' : List (Option Value)} (h : ls = ls') (k : V sd g d y pc ls' st M Q) : V sd g d y pc ls st M Q := h ▸ k
theorem V.mem {M' : Mem} (h : M = M') (k : V sd g d y pc ls st M' Q) : V sd g d y pc ls st M Q := h ▸ k
end VN
theorem fkB30 {k j : Nat} (h : k < 8) (hj : j < 7) : fk (30 + k) 0 j = some 0 := by
  have : ∀ k, k < 8 → ∀ j, j < 7 → fk (30 + k) 0 j = some 0 := by decide +kernel
  exact this k h j hj
theorem fkB38 {k j : Nat} (h : k < 8) (hj : j < 7) : fk (38 + k) 0 j = some 0 := by
  have : ∀ k, k < 8 → ∀ j, j < 7 → fk (38 + k) 0 j = some 0 := by decide +kernel
  exact this k h j hj
theorem layO30 {k : Nat} (h : k < 8) : lay (30 + k) = .inl (0, [0, 0, 0, 0, 0, 0, 0]) := by
  have : ∀ k, k < 8 → lay (30 + k) = .inl (0, [0, 0, 0, 0, 0, 0, 0]) := by decide +kernel
  exact this k h
theorem layO38 {k : Nat} (h : k < 8) : lay (38 + k) = .inl (0, [0, 0, 0, 0, 0, 0, 0]) := by
  have : ∀ k, k < 8 → lay (38 + k) = .inl (0, [0, 0, 0, 0, 0, 0, 0]) := by decide +kernel
  exact this k h
theorem layA46 {k : Nat} (h : k < 8) : lay (46 + k) = .inr (0, 10, 0) := by
  have : ∀ k, k < 8 → lay (46 + k) = .inr (0, 10, 0) := by decide +kernel
  exact this k h
theorem layA64 {k : Nat} (h : k < 4) : lay (64 + k) = .inr (0, 40, 0) := by
  have : ∀ k, k < 4 → lay (64 + k) = .inr (0, 40, 0) := by decide +kernel
  exact this k h
theorem inB30 {k : Nat} (h : k < 8) : inS cS (30 + k) := ⟨Nat.zero_le _, by show 30 + k < 0 + 83; omega⟩
theorem inB38 {k : Nat} (h : k < 8) : inS cS (38 + k) := ⟨Nat.zero_le _, by show 38 + k < 0 + 83; omega⟩
theorem inB46 {k : Nat} (h : k < 8) : inS cS (46 + k) := ⟨Nat.zero_le _, by show 46 + k < 0 + 83; omega⟩
theorem inB64 {k : Nat} (h : k < 4) : inS cS (64 + k) := ⟨Nat.zero_le _, by show 64 + k < 0 + 83; omega⟩
theorem put_s {M : Mem} {a j : Nat} {x : Int32} : put M a j x a j = x := if_pos ⟨rfl, rfl⟩
theorem put_n {M : Mem} {a j b i : Nat} {x : Int32} (h : ¬ (b = a ∧ i = j)) : put M a j x b i = M b i := if_neg h
