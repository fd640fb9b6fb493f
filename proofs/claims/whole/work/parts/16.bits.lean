/-! ===== bits (fa_and, fa_or: rows of the kit's NUMBERS) ===== -/
theorem fa_and (a b : Nat) : nI a &&& nI b = nI (a &&& b) := by
  apply Int32.toBitVec_inj.1
  show BitVec.ofNat 32 a &&& BitVec.ofNat 32 b = BitVec.ofNat 32 (a &&& b)
  apply BitVec.eq_of_getLsbD_eq
  intro i hi
  simp [hi]
theorem fa_or (a b : Nat) : nI a ||| nI b = nI (a ||| b) := by
  apply Int32.toBitVec_inj.1
  show BitVec.ofNat 32 a ||| BitVec.ofNat 32 b = BitVec.ofNat 32 (a ||| b)
  apply BitVec.eq_of_getLsbD_eq
  intro i hi
  simp [hi]
def nB (p : Nat → Bool) : Nat → Nat
  | 0 => 0
  | n + 1 => if p n = true then nB p n ||| 2 ^ n else nB p n
/-- the bits k < n with p k -/
def bI (p : Nat → Bool) (n : Nat) : Int32 := nI (nB p n)
theorem nB_tb (p : Nat → Bool) (k : Nat) : ∀ n, (nB p n).testBit k = (decide (k < n) && p k)
  | 0 => by simp [nB]
  | n + 1 => by
    unfold nB
    by_cases h : p n = true
    · rw [if_pos h, Nat.testBit_or, nB_tb p k n, Nat.testBit_two_pow]
      by_cases e : n = k
      · subst e; simp [h]
      · by_cases l : k < n
        · simp [l, e, show k < n + 1 by omega]
        · simp [l, e, show ¬ k < n + 1 by omega]
    · rw [if_neg h, nB_tb p k n]
      by_cases e : n = k
      · subst e; simp [Bool.not_eq_true] at h; simp [h]
      · by_cases l : k < n
        · simp [l, show k < n + 1 by omega]
        · simp [l, show ¬ k < n + 1 by omega]
theorem nB_lt (p : Nat → Bool) : ∀ n, nB p n < 2 ^ n
  | 0 => by simp [nB]
  | n + 1 => by
    have ih := nB_lt p n
    have h2 : (2 : Nat) ^ n < 2 ^ (n + 1) := by rw [Nat.pow_succ]; have := Nat.two_pow_pos n; omega
    unfold nB
    split
    · exact Nat.or_lt_two_pow (by omega) h2
    · omega
theorem nB_cong {p q : Nat → Bool} : ∀ {n : Nat}, (∀ k, k < n → p k = q k) → nB p n = nB q n
  | 0, _ => rfl
  | n + 1, h => by unfold nB; rw [h n (by omega), nB_cong (fun k hk => h k (by omega))]
theorem bI_cong {p q : Nat → Bool} {n : Nat} (h : ∀ k, k < n → p k = q k) : bI p n = bI q n := by unfold bI; rw [nB_cong h]
theorem pow_le31 {n m : Nat} (h : n ≤ m) : 2 ^ n ≤ 2 ^ m := Nat.pow_le_pow_right (by decide) h
theorem nB_lt31 (p : Nat → Bool) {n : Nat} (h : n ≤ 30) : nB p n < 2 ^ 31 := Nat.lt_of_lt_of_le (nB_lt p n) (pow_le31 (by omega))
theorem sh1 : ∀ n, n < 31 → (1 : Int32) <<< (nI n &&& 31) = nI (2 ^ n) := by decide +kernel
theorem sm1 : ∀ n, n < 32 → ((nI n &&& 31).toBitVec.smod 32).toNat = n := by decide +kernel
theorem bI_0 (p : Nat → Bool) : bI p 0 = 0 := rfl
theorem bI_t {p : Nat → Bool} {n : Nat} (hn : n < 31) (h : p n = true) : bI p (n + 1) = bI p n ||| ((1 : Int32) <<< (nI n &&& 31)) := by
  rw [sh1 n hn]
  unfold bI
  rw [fa_or, nB, if_pos h]
theorem bI_f {p : Nat → Bool} {n : Nat} (h : ¬ p n = true) : bI p (n + 1) = bI p n := by
  unfold bI
  rw [nB, if_neg h]
theorem bI_bit {p : Nat → Bool} {n k : Nat} (hn : n ≤ 30) (hk : k < 31) : (bI p n >>> (nI k &&& 31)) &&& 1 = 0 ↔ ¬ (k < n ∧ p k = true) := by
  have e : (bI p n >>> (nI k &&& 31)) &&& 1 = nI (nB p n / 2 ^ k % 2) := by
    unfold bI
    rw [pk_shrN (nB_lt31 p hn) _ k (sm1 k (by omega))]
    show nI _ &&& nI 1 = _
    rw [fa_and, Nat.and_one_is_mod]
  rw [e]
  have t := nB_tb p k n
  rw [Nat.testBit_eq_decide_div_mod_eq] at t
  have lt : nB p n / 2 ^ k % 2 < 2 := Nat.mod_lt _ (by decide)
  constructor
  · intro h ⟨h1, h2⟩
    have h0 : nB p n / 2 ^ k % 2 = 0 := (nI_eq (b := 0) (by omega) (by omega)).mp h
    simp [h1, h2, h0] at t
  · intro h
    have h0 : nB p n / 2 ^ k % 2 = 0 := by
      rcases (show nB p n / 2 ^ k % 2 = 0 ∨ nB p n / 2 ^ k % 2 = 1 by omega) with z | z
      · exact z
      · exfalso
        rw [z] at t
        simp at t
        exact h ⟨t.1, t.2⟩
    rw [h0]
    rfl
theorem bI_both {p : Nat → Bool} {n a b : Nat} (hn : n ≤ 30) (ha : a < n) (hb : b < n) : bI p n &&& (((1 : Int32) <<< (nI a &&& 31)) ||| ((1 : Int32) <<< (nI b &&& 31))) = (((1 : Int32) <<< (nI a &&& 31)) ||| ((1 : Int32) <<< (nI b &&& 31))) ↔ (p a = true ∧ p b = true) := by
  rw [sh1 a (by omega), sh1 b (by omega), fa_or]
  unfold bI
  rw [fa_and]
  have l1 : (2 : Nat) ^ a ||| 2 ^ b < 2 ^ 31 := Nat.or_lt_two_pow (Nat.pow_lt_pow_right (by decide) (by omega)) (Nat.pow_lt_pow_right (by decide) (by omega))
  have l2 : nB p n &&& (2 ^ a ||| 2 ^ b) < 2 ^ 31 := Nat.lt_of_le_of_lt Nat.and_le_right l1
  rw [nI_eq l2 l1]
  constructor
  · intro h
    refine ⟨?_, ?_⟩
    · have : (nB p n &&& (2 ^ a ||| 2 ^ b)).testBit a = (2 ^ a ||| 2 ^ b).testBit a := by rw [h]
      simp [Nat.testBit_and, Nat.testBit_or, nB_tb, Nat.testBit_two_pow, ha] at this
      exact this
    · have : (nB p n &&& (2 ^ a ||| 2 ^ b)).testBit b = (2 ^ a ||| 2 ^ b).testBit b := by rw [h]
      simp [Nat.testBit_and, Nat.testBit_or, nB_tb, Nat.testBit_two_pow, hb] at this
      exact this
  · intro ⟨h1, h2⟩
    apply Nat.eq_of_testBit_eq
    intro i
    rw [Nat.testBit_and, Nat.testBit_or, nB_tb, Nat.testBit_two_pow, Nat.testBit_two_pow]
    by_cases e1 : a = i
    · subst e1; simp [ha, h1]
    · by_cases e2 : b = i
      · subst e2; simp [hb, h2]
      · simp [e1, e2]
theorem bI_zero {p : Nat → Bool} {n : Nat} (hn : n ≤ 30) : bI p n = 0 ↔ ∀ k, k < n → p k = false := by
  have l := nB_lt31 p hn
  constructor
  · intro h k hk
    have h0 : nB p n = 0 := (nI_eq (b := 0) l (by omega)).mp h
    have t := nB_tb p k n
    rw [h0] at t
    simp [hk] at t
    exact t
  · intro h
    have h0 : nB p n = 0 := by
      apply Nat.eq_of_testBit_eq
      intro i
      rw [nB_tb]
      by_cases hi : i < n
      · simp [h i hi]
      · simp [hi]
    unfold bI
    rw [h0]
    rfl
/-- how many k < n with p k -/
def cB (p : Nat → Bool) : Nat → Nat
  | 0 => 0
  | n + 1 => cB p n + (if p n = true then 1 else 0)
theorem cB_cong {p q : Nat → Bool} : ∀ {n : Nat}, (∀ k, k < n → p k = q k) → cB p n = cB q n
  | 0, _ => rfl
  | n + 1, h => by unfold cB; rw [h n (by omega), cB_cong (fun k hk => h k (by omega))]
theorem cB_le (p : Nat → Bool) : ∀ n, cB p n ≤ n
  | 0 => Nat.le_refl _
  | n + 1 => by
    have := cB_le p n
    unfold cB
    split <;> omega
theorem cB_zero {p : Nat → Bool} : ∀ {n : Nat}, cB p n = 0 ↔ ∀ k, k < n → p k = false
  | 0 => ⟨fun _ k hk => absurd hk (Nat.not_lt_zero k), fun _ => rfl⟩
  | n + 1 => by
    have ih := @cB_zero p n
    unfold cB
    constructor
    · intro h k hk
      by_cases e : k = n
      · subst e
        cases hp : p k with
        | false => rfl
        | true => simp [hp] at h
      · exact ih.mp (by omega) k (by omega)
    · intro h
      rw [ih.mpr (fun k hk => h k (by omega)), h n (by omega)]
      rfl
theorem cB_more {p : Nat → Bool} {n : Nat} (h : ∀ k, n ≤ k → p k = false) : ∀ m, n ≤ m → cB p m = cB p n := by
  intro m
  induction m with
  | zero => intro hm; rw [show n = 0 by omega]
  | succ m ih =>
    intro hm
    by_cases e : n = m + 1
    · rw [e]
    · rw [cB, ih (by omega), h m (by omega)]; rfl
def u2 (x y : Int32) : Int32 := (Int32.toUInt32 x >>> (Int32.toUInt32 y &&& Int32.toUInt32 31)).toInt32
def bcF (x : Int32) : Int32 :=
  let a := x - (u2 x 1 &&& 1431655765)
  let b := (a &&& 858993459) + (u2 a 2 &&& 858993459)
  let c := (b + u2 b 4) &&& 252645135
  let e := c + u2 c 8
  let f := e + u2 e 16
  f &&& 63
theorem bcF_nI : ∀ m, m < 1024 → bcF (nI m) = nI (cB (fun k => m.testBit k) 10) := by decide +kernel
theorem bcF_bI {p : Nat → Bool} {n : Nat} (hn : n ≤ 10) : bcF (bI p n) = nI (cB p n) := by
  unfold bI
  rw [bcF_nI _ (Nat.lt_of_lt_of_le (nB_lt p n) (pow_le31 (m := 10) hn))]
  congr 1
  rw [cB_cong (q := fun k => decide (k < n) && p k) (fun k _ => nB_tb p k n), cB_more (n := n) (fun k hk => by simp [show ¬ k < n by omega]) 10 hn]
  exact cB_cong (fun k hk => by simp [hk])
/-- the first k < n with p k, or n -/
def fst (p : Nat → Bool) : Nat → Nat
  | 0 => 0
  | n + 1 => if fst p n < n then fst p n else if p n = true then n else n + 1
theorem lowF : ∀ m, m < 1024 → m ≠ 0 → bcF ((nI m &&& -(nI m)) - 1) = nI (fst (fun k => m.testBit k) 10) := by decide +kernel

set_option maxHeartbeats 4000000 in
set_option maxRecDepth 100000 in
theorem c_bitCount {g : GG} {d : Nat} {M : Mem} {Q : Option Value → Mem → Prop} {x : Int32}  (hQ : Q (some (.int (bcF x))) (M)) : V cS g d mJ6_bitCount_0f7a4 0 [some (.int x)] [] M Q := by
  refine V.iload_n dJ6_bitCount_0f7a4_0 rfl (i := 0) rfl ?_
  refine V.iload_n dJ6_bitCount_0f7a4_1 rfl (i := 0) rfl ?_
  refine V.iconst dJ6_bitCount_0f7a4_2 (v := 1) (by decide) ?_
  refine V.iushr dJ6_bitCount_0f7a4_3 ?_
  refine V.ldcw dJ6_bitCount_0f7a4_4 rfl ctRJ6_265 ?_
  refine V.iand dJ6_bitCount_0f7a4_7 ?_
  refine V.isub dJ6_bitCount_0f7a4_8 ?_
  refine V.istore_n dJ6_bitCount_0f7a4_9 rfl (i := 0) (by decide) (fun _ _ => Or.inr rfl) rfl ?_
  refine V.iload_n dJ6_bitCount_0f7a4_10 rfl (i := 0) rfl ?_
  refine V.ldcw dJ6_bitCount_0f7a4_11 rfl ctRJ6_266 ?_
  refine V.iand dJ6_bitCount_0f7a4_14 ?_
  refine V.iload_n dJ6_bitCount_0f7a4_15 rfl (i := 0) rfl ?_
  refine V.iconst dJ6_bitCount_0f7a4_16 (v := 2) (by decide) ?_
  refine V.iushr dJ6_bitCount_0f7a4_17 ?_
  refine V.ldcw dJ6_bitCount_0f7a4_18 rfl ctRJ6_266 ?_
  refine V.iand dJ6_bitCount_0f7a4_21 ?_
  refine V.iadd dJ6_bitCount_0f7a4_22 ?_
  refine V.istore_n dJ6_bitCount_0f7a4_23 rfl (i := 0) (by decide) (fun _ _ => Or.inr rfl) rfl ?_
  refine V.iload_n dJ6_bitCount_0f7a4_24 rfl (i := 0) rfl ?_
  refine V.iload_n dJ6_bitCount_0f7a4_25 rfl (i := 0) rfl ?_
  refine V.iconst dJ6_bitCount_0f7a4_26 (v := 4) (by decide) ?_
  refine V.iushr dJ6_bitCount_0f7a4_27 ?_
  refine V.iadd dJ6_bitCount_0f7a4_28 ?_
  refine V.ldcw dJ6_bitCount_0f7a4_29 rfl ctRJ6_267 ?_
  refine V.iand dJ6_bitCount_0f7a4_32 ?_
  refine V.istore_n dJ6_bitCount_0f7a4_33 rfl (i := 0) (by decide) (fun _ _ => Or.inr rfl) rfl ?_
  refine V.iload_n dJ6_bitCount_0f7a4_34 rfl (i := 0) rfl ?_
  refine V.iload_n dJ6_bitCount_0f7a4_35 rfl (i := 0) rfl ?_
  refine V.bipush dJ6_bitCount_0f7a4_36 (v := 8) (by decide) ?_
  refine V.iushr dJ6_bitCount_0f7a4_38 ?_
  refine V.iadd dJ6_bitCount_0f7a4_39 ?_
  refine V.istore_n dJ6_bitCount_0f7a4_40 rfl (i := 0) (by decide) (fun _ _ => Or.inr rfl) rfl ?_
  refine V.iload_n dJ6_bitCount_0f7a4_41 rfl (i := 0) rfl ?_
  refine V.iload_n dJ6_bitCount_0f7a4_42 rfl (i := 0) rfl ?_
  refine V.bipush dJ6_bitCount_0f7a4_43 (v := 16) (by decide) ?_
  refine V.iushr dJ6_bitCount_0f7a4_45 ?_
  refine V.iadd dJ6_bitCount_0f7a4_46 ?_
  refine V.istore_n dJ6_bitCount_0f7a4_47 rfl (i := 0) (by decide) (fun _ _ => Or.inr rfl) rfl ?_
  refine V.iload_n dJ6_bitCount_0f7a4_48 rfl (i := 0) rfl ?_
  refine V.bipush dJ6_bitCount_0f7a4_49 (v := 63) (by decide) ?_
  refine V.iand dJ6_bitCount_0f7a4_51 ?_
  exact V.ret dJ6_bitCount_0f7a4_52 rfl (Qi hQ rfl)

