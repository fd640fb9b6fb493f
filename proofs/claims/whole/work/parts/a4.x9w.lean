/-! ===== OneBreath's constructor: the world by its numbers ===== -/
def adX (q : Nat) (q5 : Nat) (f9 : Nat → Nat) (q16 : Nat) (f20 : Nat → Nat) (q27 : Nat) (f31 : Nat → Nat) (q38 : Nat) (f46 : Nat → Nat) (r46 : Nat → Nat) (q53 : Nat) (f65 : Nat → Nat) (q72 : Nat) (f84 : Nat → Nat) (q91 : Nat) (f95 : Nat → Nat) (q102 : Nat) (f106 : Nat → Nat) (r106 : Nat → Nat) (q115 : Nat) (k : Nat) : Nat := [q, q5, q16, q27, q38, q53, q72, q91, q102, q115, f9 0, f9 1, f9 2, f9 3, f9 4, f9 8, f9 12, f9 13, f20 0, f20 1, f20 2, f20 3, f20 4, f20 8, f20 12, f20 13, f31 0, f31 4, f46 0, f46 1, f9 14, f9 15, f9 16, f9 17, f9 18, f9 19, f9 20, f9 21, f20 14, f20 15, f20 16, f20 17, f20 18, f20 19, f20 20, f20 21, r46 0, r46 1, r46 2, r46 3, r46 4, r46 5, r46 6, r46 7, f46 2, f65 0, f65 1, f84 0, f84 1, f84 2, f95 0, f106 0, f106 1, f106 2, r106 0, r106 1, r106 2, r106 3, f9 5, f9 6, f9 7, f9 9, f9 10, f9 11, f20 5, f20 6, f20 7, f20 9, f20 10, f20 11, f31 1, f31 2, f31 3].getD k 0
def ad9 (g : GG) (q : Nat) (q5 : Nat) (f9 : Nat → Nat) (q16 : Nat) (f20 : Nat → Nat) (q27 : Nat) (f31 : Nat → Nat) (q38 : Nat) (f46 : Nat → Nat) (r46 : Nat → Nat) (q53 : Nat) (f65 : Nat → Nat) (q72 : Nat) (f84 : Nat → Nat) (q91 : Nat) (f95 : Nat → Nat) (q102 : Nat) (f106 : Nat → Nat) (r106 : Nat → Nat) (q115 : Nat) (k : Nat) : Nat := if k < 83 then adX q q5 f9 q16 f20 q27 f31 q38 f46 r46 q53 f65 q72 f84 q91 f95 q102 f106 r106 q115 k else g.2.2.1 k
abbrev g9 (g : GG) (q : Nat) (q5 : Nat) (f9 : Nat → Nat) (q16 : Nat) (f20 : Nat → Nat) (q27 : Nat) (f31 : Nat → Nat) (q38 : Nat) (f46 : Nat → Nat) (r46 : Nat → Nat) (q53 : Nat) (f65 : Nat → Nat) (q72 : Nat) (f84 : Nat → Nat) (q91 : Nat) (f95 : Nat → Nat) (q102 : Nat) (f106 : Nat → Nat) (r106 : Nat → Nat) (q115 : Nat) : GG := (g.1, g.2.1, ad9 g q q5 f9 q16 f20 q27 f31 q38 f46 r46 q53 f65 q72 f84 q91 f95 q102 f106 r106 q115, g.2.2.2)
def ws9 (g : GG) (q : Nat) (q5 : Nat) (f9 : Nat → Nat) (q16 : Nat) (f20 : Nat → Nat) (q27 : Nat) (f31 : Nat → Nat) (q38 : Nat) (f46 : Nat → Nat) (r46 : Nat → Nat) (q53 : Nat) (f65 : Nat → Nat) (q72 : Nat) (f84 : Nat → Nat) (q91 : Nat) (f95 : Nat → Nat) (q102 : Nat) (f106 : Nat → Nat) (r106 : Nat → Nat) (q115 : Nat) : va_W := ((((((((([(q, .inr (9, [.ref q5, .ref q16, .ref q27, .ref q38, .ref q53, .ref q72, .ref q91, .ref q102, .ref q115, .int 0]))] ++ bX7 g q5 f9) ++ bX7 g q16 f20) ++ bX3 g q27 f31) ++ bX1 g q38 f46 r46 q5) ++ bX5 g q53 f65 q5 q38) ++ bX6 g q72 f84 q5 q38) ++ bX8 g q91 f95) ++ bX4 g q102 f106 r106) ++ [(q115, ar0 g 6)])
def pm9 : List Nat := [0, 1, 24, 47, 53, 65, 68, 72, 74, 82, 2, 3, 4, 5, 6, 10, 14, 15, 25, 26, 27, 28, 29, 33, 37, 38, 48, 52, 54, 63, 16, 17, 18, 19, 20, 21, 22, 23, 39, 40, 41, 42, 43, 44, 45, 46, 55, 56, 57, 58, 59, 60, 61, 62, 64, 66, 67, 69, 70, 71, 73, 75, 80, 81, 76, 77, 78, 79, 7, 8, 9, 11, 12, 13, 30, 31, 32, 34, 35, 36, 49, 50, 51]
theorem arrV_ext {c : ClassId} {n : Nat} {f f' : Nat → Value} (h : ∀ j, j < n → f j = f' j) : arrV c n f = arrV c n f' := by
  unfold arrV
  congr 1
  exact congrArg Array.ofFn (funext fun j => h j.val j.isLt)
theorem at_q {D : va_G} {cl : List vw_C} {a n : Nat} {c : ClassId} {f f' : Nat → Option Nat} {H : Heap} (h : ∀ j, j < n → f j = f' j) (hA : va_at D cl (a, .inl (c, n, .inr (.inr (.inr (.inr f))))) H) : va_at D cl (a, .inl (c, n, .inr (.inr (.inr (.inr f'))))) H := by
  have e : vp_cell c (n, .inr (.inr (.inr (.inr f)))) = vp_cell c (n, .inr (.inr (.inr (.inr f')))) := by
    rw [vp_cell_q, vp_cell_q]
    exact arrV_ext (fun j hj => by rw [h j hj])
  show H[a]? = some (vp_cell c (n, .inr (.inr (.inr (.inr f')))))
  rw [← e]
  exact hA
set_option maxHeartbeats 4000000 in
set_option maxRecDepth 100000 in
theorem ws9_at {g : GG} (q : Nat) (q5 : Nat) (f9 : Nat → Nat) (q16 : Nat) (f20 : Nat → Nat) (q27 : Nat) (f31 : Nat → Nat) (q38 : Nat) (f46 : Nat → Nat) (r46 : Nat → Nat) (q53 : Nat) (f65 : Nat → Nat) (q72 : Nat) (f84 : Nat → Nat) (q91 : Nat) (f95 : Nat → Nat) (q102 : Nat) (f106 : Nat → Nat) (r106 : Nat → Nat) (q115 : Nat) {k : Nat} (hk : k < 83) : ∃ e, (ws9 g q q5 f9 q16 f20 q27 f31 q38 f46 r46 q53 f65 q72 f84 q91 f95 q102 f106 r106 q115)[pm9.getD k 0]? = some (ad9 g q q5 f9 q16 f20 q27 f31 q38 f46 r46 q53 f65 q72 f84 q91 f95 q102 f106 r106 q115 k, e) ∧ ∀ H : Heap, va_at g.2.1 vwCl (ad9 g q q5 f9 q16 f20 q27 f31 q38 f46 r46 q53 f65 q72 f84 q91 f95 q102 f106 r106 q115 k, e) H → va_at g.2.1 vwCl (ad9 g q q5 f9 q16 f20 q27 f31 q38 f46 r46 q53 f65 q72 f84 q91 f95 q102 f106 r106 q115 k, cel (g9 g q q5 f9 q16 f20 q27 f31 q38 f46 r46 q53 f65 q72 f84 q91 f95 q102 f106 r106 q115) M00 k) H := by
  match k, hk with
  | 0, _ => exact ⟨_, rfl, fun H h => h⟩
  | 1, _ => exact ⟨_, rfl, fun H h => h⟩
  | 2, _ => exact ⟨_, rfl, fun H h => h⟩
  | 3, _ => exact ⟨_, rfl, fun H h => h⟩
  | 4, _ => exact ⟨_, rfl, fun H h => h⟩
  | 5, _ => exact ⟨_, rfl, fun H h => h⟩
  | 6, _ => exact ⟨_, rfl, fun H h => h⟩
  | 7, _ => exact ⟨_, rfl, fun H h => h⟩
  | 8, _ => exact ⟨_, rfl, fun H h => h⟩
  | 9, _ => exact ⟨_, rfl, fun H h => h⟩
  | 10, _ => exact ⟨_, rfl, fun H h => h⟩
  | 11, _ => exact ⟨_, rfl, fun H h => at_q (n := 8) (fun j hj => by rcases (show j = 0 ∨ j = 1 ∨ j = 2 ∨ j = 3 ∨ j = 4 ∨ j = 5 ∨ j = 6 ∨ j = 7 by omega) with rfl | rfl | rfl | rfl | rfl | rfl | rfl | rfl <;> rfl) h⟩
  | 12, _ => exact ⟨_, rfl, fun H h => h⟩
  | 13, _ => exact ⟨_, rfl, fun H h => h⟩
  | 14, _ => exact ⟨_, rfl, fun H h => h⟩
  | 15, _ => exact ⟨_, rfl, fun H h => h⟩
  | 16, _ => exact ⟨_, rfl, fun H h => h⟩
  | 17, _ => exact ⟨_, rfl, fun H h => h⟩
  | 18, _ => exact ⟨_, rfl, fun H h => h⟩
  | 19, _ => exact ⟨_, rfl, fun H h => at_q (n := 8) (fun j hj => by rcases (show j = 0 ∨ j = 1 ∨ j = 2 ∨ j = 3 ∨ j = 4 ∨ j = 5 ∨ j = 6 ∨ j = 7 by omega) with rfl | rfl | rfl | rfl | rfl | rfl | rfl | rfl <;> rfl) h⟩
  | 20, _ => exact ⟨_, rfl, fun H h => h⟩
  | 21, _ => exact ⟨_, rfl, fun H h => h⟩
  | 22, _ => exact ⟨_, rfl, fun H h => h⟩
  | 23, _ => exact ⟨_, rfl, fun H h => h⟩
  | 24, _ => exact ⟨_, rfl, fun H h => h⟩
  | 25, _ => exact ⟨_, rfl, fun H h => h⟩
  | 26, _ => exact ⟨_, rfl, fun H h => h⟩
  | 27, _ => exact ⟨_, rfl, fun H h => h⟩
  | 28, _ => exact ⟨_, rfl, fun H h => at_q (n := 8) (fun j hj => by rcases (show j = 0 ∨ j = 1 ∨ j = 2 ∨ j = 3 ∨ j = 4 ∨ j = 5 ∨ j = 6 ∨ j = 7 by omega) with rfl | rfl | rfl | rfl | rfl | rfl | rfl | rfl <;> rfl) h⟩
  | 29, _ => exact ⟨_, rfl, fun H h => h⟩
  | 30, _ => exact ⟨_, rfl, fun H h => h⟩
  | 31, _ => exact ⟨_, rfl, fun H h => h⟩
  | 32, _ => exact ⟨_, rfl, fun H h => h⟩
  | 33, _ => exact ⟨_, rfl, fun H h => h⟩
  | 34, _ => exact ⟨_, rfl, fun H h => h⟩
  | 35, _ => exact ⟨_, rfl, fun H h => h⟩
  | 36, _ => exact ⟨_, rfl, fun H h => h⟩
  | 37, _ => exact ⟨_, rfl, fun H h => h⟩
  | 38, _ => exact ⟨_, rfl, fun H h => h⟩
  | 39, _ => exact ⟨_, rfl, fun H h => h⟩
  | 40, _ => exact ⟨_, rfl, fun H h => h⟩
  | 41, _ => exact ⟨_, rfl, fun H h => h⟩
  | 42, _ => exact ⟨_, rfl, fun H h => h⟩
  | 43, _ => exact ⟨_, rfl, fun H h => h⟩
  | 44, _ => exact ⟨_, rfl, fun H h => h⟩
  | 45, _ => exact ⟨_, rfl, fun H h => h⟩
  | 46, _ => exact ⟨_, rfl, fun H h => h⟩
  | 47, _ => exact ⟨_, rfl, fun H h => h⟩
  | 48, _ => exact ⟨_, rfl, fun H h => h⟩
  | 49, _ => exact ⟨_, rfl, fun H h => h⟩
  | 50, _ => exact ⟨_, rfl, fun H h => h⟩
  | 51, _ => exact ⟨_, rfl, fun H h => h⟩
  | 52, _ => exact ⟨_, rfl, fun H h => h⟩
  | 53, _ => exact ⟨_, rfl, fun H h => h⟩
  | 54, _ => exact ⟨_, rfl, fun H h => h⟩
  | 55, _ => exact ⟨_, rfl, fun H h => h⟩
  | 56, _ => exact ⟨_, rfl, fun H h => h⟩
  | 57, _ => exact ⟨_, rfl, fun H h => h⟩
  | 58, _ => exact ⟨_, rfl, fun H h => h⟩
  | 59, _ => exact ⟨_, rfl, fun H h => h⟩
  | 60, _ => exact ⟨_, rfl, fun H h => h⟩
  | 61, _ => exact ⟨_, rfl, fun H h => at_q (n := 4) (fun j hj => by rcases (show j = 0 ∨ j = 1 ∨ j = 2 ∨ j = 3 by omega) with rfl | rfl | rfl | rfl <;> rfl) h⟩
  | 62, _ => exact ⟨_, rfl, fun H h => h⟩
  | 63, _ => exact ⟨_, rfl, fun H h => h⟩
  | 64, _ => exact ⟨_, rfl, fun H h => h⟩
  | 65, _ => exact ⟨_, rfl, fun H h => h⟩
  | 66, _ => exact ⟨_, rfl, fun H h => h⟩
  | 67, _ => exact ⟨_, rfl, fun H h => h⟩
  | 68, _ => exact ⟨_, rfl, fun H h => h⟩
  | 69, _ => exact ⟨_, rfl, fun H h => h⟩
  | 70, _ => exact ⟨_, rfl, fun H h => h⟩
  | 71, _ => exact ⟨_, rfl, fun H h => h⟩
  | 72, _ => exact ⟨_, rfl, fun H h => h⟩
  | 73, _ => exact ⟨_, rfl, fun H h => h⟩
  | 74, _ => exact ⟨_, rfl, fun H h => h⟩
  | 75, _ => exact ⟨_, rfl, fun H h => h⟩
  | 76, _ => exact ⟨_, rfl, fun H h => h⟩
  | 77, _ => exact ⟨_, rfl, fun H h => h⟩
  | 78, _ => exact ⟨_, rfl, fun H h => h⟩
  | 79, _ => exact ⟨_, rfl, fun H h => h⟩
  | 80, _ => exact ⟨_, rfl, fun H h => h⟩
  | 81, _ => exact ⟨_, rfl, fun H h => h⟩
  | 82, _ => exact ⟨_, rfl, fun H h => h⟩
  | n + 83, h => exact absurd h (by omega)
theorem pm9_inj : ∀ i, i < 83 → ∀ j, j < 83 → pm9.getD i 0 = pm9.getD j 0 → i = j := by decide +kernel

