/-! ===== sums of clashes ===== -/
theorem absI_neg (x : Int32) : absI (-x) = absI x := by
  have h1 := x.toInt_lt
  have h2 := x.le_toInt
  have hn : (-x).toInt = if x.toInt = -2147483648 then -2147483648 else -x.toInt := by
    rw [Int32.toInt_neg]
    by_cases c : x.toInt = -2147483648
    · rw [if_pos c, c]; decide
    · rw [if_neg c]; exact Int.bmod_eq_of_le (by omega) (by omega)
  unfold absI
  by_cases c : 0 ≤ x
  · have c' := Int32.le_iff_toInt_le.mp c
    rw [show (0 : Int32).toInt = 0 from by decide] at c'
    rw [if_pos c]
    by_cases c0 : x = 0
    · subst c0; decide
    · have : x.toInt ≠ 0 := fun z => c0 (Int32.toInt_inj.mp (z.trans (by decide)))
      rw [if_neg (fun z => by
        have z' := Int32.le_iff_toInt_le.mp z
        rw [hn, if_neg (by omega), show (0 : Int32).toInt = 0 from by decide] at z'
        omega), Int32.zero_sub, Int32.neg_neg]
  · have c' := Int32.lt_iff_toInt_lt.mp (Int32.not_le.mp c)
    rw [show (0 : Int32).toInt = 0 from by decide] at c'
    rw [if_neg c, Int32.zero_sub]
    by_cases c2 : 0 ≤ -x
    · rw [if_pos c2, Int32.zero_sub]
    · rw [if_neg c2, Int32.zero_sub, Int32.neg_neg]
      have z' := Int32.lt_iff_toInt_lt.mp (Int32.not_le.mp c2)
      rw [hn, show (0 : Int32).toInt = 0 from by decide] at z'
      by_cases c3 : x.toInt = -2147483648
      · exact Int32.toInt_inj.mp (by rw [hn, if_pos c3, c3])
      · rw [if_neg c3] at z'
        omega
theorem i32_sw (a b c d : Int32) : a + b - c - d = -(c + d - a - b) := by
  simp only [Int32.sub_eq_add_neg, Int32.neg_add, Int32.neg_neg]
  ac_rfl
theorem cl2_sym {hp : Nat → Nat → Bool} {wy : Nat → Nat → Int32} {br : Int32} {off : Nat → Int32} {a b e : Nat} : cl2 hp wy br off a b e = cl2 hp wy br off b a e := by
  unfold cl2 clP
  rw [i32_sw, absI_neg]
  cases hp a e <;> cases hp b e <;> rfl
def sm (f : Nat → Nat) : Nat → Nat
  | 0 => 0
  | n + 1 => sm f n + f n
theorem sm_ext {f g : Nat → Nat} : ∀ n, (∀ i, i < n → f i = g i) → sm f n = sm g n
  | 0, _ => rfl
  | n + 1, h => by rw [sm, sm, sm_ext n (fun i hi => h i (by omega)), h n (by omega)]
theorem sI_sm {f : Nat → Nat} : ∀ n, sI (fun b => nI (f b)) n = nI (sm f n)
  | 0 => rfl
  | n + 1 => by rw [sI, sI_sm n, sm]; exact nI_add _ _
theorem sm_le {f : Nat → Nat} {c : Nat} : ∀ n, (∀ i, i < n → f i ≤ c) → sm f n ≤ n * c
  | 0, _ => by simp [sm]
  | n + 1, h => by
    have := sm_le n (fun i hi => h i (by omega))
    have := h n (by omega)
    rw [sm, Nat.succ_mul]
    omega
theorem sm_add {f g : Nat → Nat} : ∀ n, sm (fun i => f i + g i) n = sm f n + sm g n
  | 0 => rfl
  | n + 1 => by rw [sm, sm, sm, sm_add n]; omega
/-- the double sum of an alike table is twice the sum of its half -/
theorem sm_dbl {c : Nat → Nat → Nat} (hs : ∀ a b, c a b = c b a) : ∀ n, sm (fun a => sm (fun b => if b = a then 0 else c a b) n) n = 2 * sm (fun b => sm (fun a => c a b) b) n
  | 0 => rfl
  | n + 1 => by
    have e1 : sm (fun a => sm (fun b => if b = a then 0 else c a b) (n + 1)) n = sm (fun a => sm (fun b => if b = a then 0 else c a b) n) n + sm (fun a => c a n) n := by
      rw [← sm_add]
      refine sm_ext n (fun a ha => ?_)
      show sm _ (n + 1) = _
      rw [sm, if_neg (by omega)]
    have e2 : sm (fun b => if b = n then 0 else c n b) (n + 1) = sm (fun a => c a n) n := by
      rw [sm, if_pos rfl, Nat.add_zero]
      refine sm_ext n (fun b hb => ?_)
      show (if b = n then 0 else c n b) = _
      rw [if_neg (by omega), hs]
    show sm (fun a => sm (fun b => if b = a then 0 else c a b) (n + 1)) n + sm (fun b => if b = n then 0 else c n b) (n + 1) = 2 * (sm (fun b => sm (fun a => c a b) b) n + sm (fun a => c a n) n)
    rw [e1, e2, sm_dbl hs n]
    omega
section RF
variable {hp : Nat → Nat → Bool} {wy : Nat → Nat → Int32} {br : Int32} {off : Nat → Int32} {n ne : Nat}
/-- how many clashes there are -/
def csT (hp : Nat → Nat → Bool) (wy : Nat → Nat → Int32) (br : Int32) (off : Nat → Int32) (n ne : Nat) : Nat := sm (fun b => sm (fun a => cB (cl2 hp wy br off a b) ne) b) n
theorem cc_sm {a : Nat} : ccF hp wy br off n ne a = nI (sm (fun b => if b = a then 0 else cB (cl2 hp wy br off a b) ne) n) := by
  unfold ccF
  rw [← sI_sm]
  refine sI_ext n (fun b _ => ?_)
  by_cases c : b = a
  · rw [if_pos c, if_pos c]; rfl
  · rw [if_neg c, if_neg c]
theorem csT_le (h8 : n ≤ 8) (h10 : ne ≤ 10) : csT hp wy br off n ne ≤ 640 := by
  have h1 : ∀ b, b < n → sm (fun a => cB (cl2 hp wy br off a b) ne) b ≤ 80 := fun b hb => by
    have := sm_le (f := fun a => cB (cl2 hp wy br off a b) ne) (c := 10) b (fun i _ => Nat.le_trans (cB_le _ _) h10)
    omega
  have := sm_le n h1
  unfold csT
  omega
theorem ca_T (h8 : n ≤ 8) (h10 : ne ≤ 10) : sI (fun a => ccF hp wy br off n ne a) n / 2 = nI (csT hp wy br off n ne) := by
  have e : sI (fun a => ccF hp wy br off n ne a) n = nI (2 * csT hp wy br off n ne) := by
    rw [sI_ext n (fun a _ => cc_sm), sI_sm]
    exact congrArg nI (sm_dbl (c := fun a b => cB (cl2 hp wy br off a b) ne) (fun a b => cB_cong (fun e _ => cl2_sym)) n)
  have hT := csT_le (hp := hp) (wy := wy) (br := br) (off := off) h8 h10
  rw [e]
  generalize csT hp wy br off n ne = T at hT
  have : ∀ T, T ≤ 640 → nI (2 * T) / 2 = nI T := by decide +kernel
  exact this T hT
end RF


