/-! ===== the reference: silence, winds ===== -/
def rkR (M : Mem) (n : Nat) (s : Int32) : Int32 := sI (fun b => if (s >>> (nI b &&& 31)) &&& 1 = 0 then 0 else M 84 (108 + 7 * b + 5)) n
theorem and1_mul (x r : Int32) : (x &&& 1) * r = if x &&& 1 = 0 then 0 else r := by
  obtain ⟨j, hj, e⟩ := pk_andE x (m := 1) 1 (by decide)
  have hj2 : j = 0 ∨ j = 1 := by omega
  rw [e]
  rcases hj2 with rfl | rfl
  · rw [if_pos (by decide)]; exact Int32.zero_mul
  · rw [if_neg (by decide)]; exact Int32.one_mul r
theorem cB_an {p : Nat → Bool} {n : Nat} (hn : n < 1000) : 0 < nI (cB p n) ↔ anB p n = true := by
  have hl := cB_le p n
  rw [anB_iff]
  constructor
  · intro h
    refine Classical.byContradiction fun z => ?_
    rw [cB_zero.mpr (fun k hk => Bool.eq_false_iff.mpr (fun q => z ⟨k, hk, q⟩))] at h
    exact absurd h (by decide)
  · rintro ⟨k, h1, h2⟩
    refine nI_lt (a := 0) ?_ (by omega)
    refine Nat.pos_of_ne_zero fun z => ?_
    rw [cB_zero.mp z k h1] at h2
    cases h2
def csO (R : Nat → Int32) (k : Nat) : Option Nat → Bool
  | none => true
  | some b => decide (R k < R b)
def csU (R : Nat → Int32) (S : Nat → Bool) : Nat → Option Nat
  | 0 => none
  | k + 1 => if S k = true ∧ csO R k (csU R S k) = true then some k else csU R S k
def bsI : Option Nat → Int32
  | none => -1
  | some b => nI b
theorem csU_lt (R : Nat → Int32) (S : Nat → Bool) : ∀ k b, csU R S k = some b → b < k
  | 0, b, h => by cases h
  | k + 1, b, h => by
    unfold csU at h
    split at h
    · injection h with h; omega
    · have := csU_lt R S k b h; omega

set_option maxHeartbeats 4000000 in
set_option maxRecDepth 100000 in
theorem l_rk {g : GG} {d : Nat} {M : Mem} {Q : Option Value → Mem → Prop} {n : Nat} {s : Int32} (hn : M 84 103 = nI n) (h8 : n ≤ 8) (hQ : Q (some (.int (rkR M n s))) M) : ∀ (k b : Nat), b + k = n → V rS g (d + 1) mX10_ranks 4 [some (.ref 83), some (.int s), some (.int (sI (fun b => if (s >>> (nI b &&& 31)) &&& 1 = 0 then 0 else M 84 (108 + 7 * b + 5)) b)), some (.int (nI b))] [] M Q := by
  intro k
  induction k with
  | zero =>
    intro b hk
    obtain rfl : b = n := by omega
    refine V.iload_n dX10_ranks_4 rfl (i := 3) rfl ?_
    refine V.aload_n dX10_ranks_5 rfl (i := 0) rfl ?_
    refine V.getR dX10_ranks_6 rfl flRX10_7 rfl ⟨by decide, by decide⟩ ?_
    refine V.bipush dX10_ranks_9 (v := 103) (by decide) ?_
    refine V.top (x' := nI 103) (by decide) ?_
    refine V.ialdN dX10_ranks_11 rfl ⟨by decide, by decide⟩ (by first | assumption | decide | omega) (by decide) ?_
    refine V.top (x' := (nI b)) (hn) ?_
    refine V.ic_ge (tgt := 36) dX10_ranks_12 (by decide) (fun c12 => ?_) (fun q => absurd ((Int32.le_refl _)) q)
    refine V.iload_n dX10_ranks_36 rfl (i := 2) rfl ?_
    exact V.ret dX10_ranks_37 rfl (hQ)
  | succ k ih =>
    intro b hk
    refine V.iload_n dX10_ranks_4 rfl (i := 3) rfl ?_
    refine V.aload_n dX10_ranks_5 rfl (i := 0) rfl ?_
    refine V.getR dX10_ranks_6 rfl flRX10_7 rfl ⟨by decide, by decide⟩ ?_
    refine V.bipush dX10_ranks_9 (v := 103) (by decide) ?_
    refine V.top (x' := nI 103) (by decide) ?_
    refine V.ialdN dX10_ranks_11 rfl ⟨by decide, by decide⟩ (by first | assumption | decide | omega) (by decide) ?_
    refine V.top (x' := (nI n)) (hn) ?_
    refine V.ic_ge (tgt := 36) dX10_ranks_12 (by decide) (fun q => absurd q ((nI_ge (a := b) (b := n) (by omega) (by omega)))) (fun c12 => ?_)
    refine V.iload_n dX10_ranks_15 rfl (i := 2) rfl ?_
    refine V.iload_n dX10_ranks_16 rfl (i := 1) rfl ?_
    refine V.iload_n dX10_ranks_17 rfl (i := 3) rfl ?_
    refine V.ishr dX10_ranks_18 ?_
    refine V.iconst dX10_ranks_19 (v := 1) (by decide) ?_
    refine V.iand dX10_ranks_20 ?_
    refine V.aload_n dX10_ranks_21 rfl (i := 0) rfl ?_
    refine V.iload_n dX10_ranks_22 rfl (i := 3) rfl ?_
    refine V.iconst dX10_ranks_23 (v := 5) (by decide) ?_
    refine V.invv (z := mX10_of) (As := [_, _]) dX10_ranks_24 rfl mlRX10_175 okX10_of npX10_of rfl rfl rfl ⟨by decide, by decide⟩ (Nat.le_of_ble_eq_true rfl) rfl (Nat.le_of_ble_eq_true rfl) (c_of  (by first | assumption | decide | omega) (by first | assumption | decide | omega) ?_)
    show V rS g (d + 1) mX10_ranks 27 [some (.ref 83), some (.int s), some (.int (sI (fun b => if (s >>> (nI b &&& 31)) &&& 1 = 0 then 0 else M 84 (108 + 7 * b + 5)) b)), some (.int (nI b))] [.int (M 84 (108 + 7 * b + 5)), .int ((s >>> ((nI b) &&& 31)) &&& (1 : Int32)), .int (sI (fun b => if (s >>> (nI b &&& 31)) &&& 1 = 0 then 0 else M 84 (108 + 7 * b + 5)) b)] (M) Q
    refine V.imul dX10_ranks_27 ?_
    refine V.top (x' := ((fun b => if (s >>> (nI b &&& 31)) &&& 1 = 0 then 0 else M 84 (108 + 7 * b + 5)) b)) ((and1_mul _ _)) ?_
    refine V.iadd dX10_ranks_28 ?_
    refine V.istore_n dX10_ranks_29 rfl (i := 2) (by decide) (fun _ h => by cases h; exact Or.inl rfl) rfl ?_
    refine V.iinc dX10_ranks_30 rfl (v := (nI (b + 1))) (nI_1 _) (by decide) (fun _ h => by cases h; exact Or.inl rfl) rfl ?_
    refine V.goto dX10_ranks_33 (tgt := 4) (by decide) ?_
    exact ih (b + 1) (by omega)
set_option maxHeartbeats 4000000 in
set_option maxRecDepth 100000 in
theorem c_rk {g : GG} {d : Nat} {M : Mem} {Q : Option Value → Mem → Prop} {n : Nat} {s : Int32} (hn : M 84 103 = nI n) (h8 : n ≤ 8) (hQ : Q (some (.int (rkR M n s))) M) : V rS g (d + 1) mX10_ranks 0 [some (.ref 83), some (.int s), none, none] [] M Q := by
  refine V.iconst dX10_ranks_0 (v := 0) (by decide) ?_
  refine V.istore_n dX10_ranks_1 rfl (i := 2) (by decide) (fun _ h => by cases h; exact Or.inl rfl) rfl ?_
  refine V.iconst dX10_ranks_2 (v := 0) (by decide) ?_
  refine V.istore_n dX10_ranks_3 rfl (i := 3) (by decide) (fun _ h => by cases h; exact Or.inl rfl) rfl ?_
  exact l_rk hn h8 hQ n 0 (by omega)
set_option maxHeartbeats 4000000 in
set_option maxRecDepth 100000 in
theorem l_stl {g : GG} {d : Nat} {M : Mem} {Q : Option Value → Mem → Prop} {n : Nat} {s : Int32} (hn : M 84 103 = nI n) (h8 : n ≤ 8) (hQ : Q (some (.int (b2i ((!anB (stB (M 95) s) n) = true)))) M) : ∀ (k b : Nat), b + k = n → anB (stB (M 95) s) b = false → V rS g d mX10_isStill 2 [some (.ref 83), some (.int s), some (.int (nI b))] [] M Q := by
  intro k
  induction k with
  | zero =>
    intro b hk hf
    obtain rfl : b = n := by omega
    rw [hf] at hQ
    refine V.iload_n dX10_isStill_2 rfl (i := 2) rfl ?_
    refine V.aload_n dX10_isStill_3 rfl (i := 0) rfl ?_
    refine V.getR dX10_isStill_4 rfl flRX10_7 rfl ⟨by decide, by decide⟩ ?_
    refine V.bipush dX10_isStill_7 (v := 103) (by decide) ?_
    refine V.top (x' := nI 103) (by decide) ?_
    refine V.ialdN dX10_isStill_9 rfl ⟨by decide, by decide⟩ (by first | assumption | decide | omega) (by decide) ?_
    refine V.top (x' := (nI b)) (hn) ?_
    refine V.ic_ge (tgt := 42) dX10_isStill_10 (by decide) (fun c10 => ?_) (fun q => absurd ((Int32.le_refl _)) q)
    refine V.iconst dX10_isStill_42 (v := 1) (by decide) ?_
    exact V.zret dX10_isStill_43 rfl (by first | exact Or.inl rfl | exact Or.inr rfl | assumption | exact b2i_zo _ | (repeat' split) <;> first | exact Or.inl rfl | exact Or.inr rfl | assumption | exact b2i_zo _) (hQ)
  | succ k ih =>
    intro b hk hf
    have hb8 : b < 8 := by omega
    by_cases hst : stB (M 95) s b = true
    · have ha : anB (stB (M 95) s) n = true := anB_iff.mpr ⟨b, by omega, hst⟩
      rw [ha] at hQ
      have h2 := hst
      unfold stB at h2
      rw [Bool.and_eq_true] at h2
      refine V.iload_n dX10_isStill_2 rfl (i := 2) rfl ?_
      refine V.aload_n dX10_isStill_3 rfl (i := 0) rfl ?_
      refine V.getR dX10_isStill_4 rfl flRX10_7 rfl ⟨by decide, by decide⟩ ?_
      refine V.bipush dX10_isStill_7 (v := 103) (by decide) ?_
      refine V.top (x' := nI 103) (by decide) ?_
      refine V.ialdN dX10_isStill_9 rfl ⟨by decide, by decide⟩ (by first | assumption | decide | omega) (by decide) ?_
      refine V.top (x' := (nI n)) (hn) ?_
      refine V.ic_ge (tgt := 42) dX10_isStill_10 (by decide) (fun q => absurd q ((nI_ge (a := b) (b := n) (by omega) (by omega)))) (fun c10 => ?_)
      refine V.iload_n dX10_isStill_13 rfl (i := 1) rfl ?_
      refine V.iload_n dX10_isStill_14 rfl (i := 2) rfl ?_
      refine V.ishr dX10_isStill_15 ?_
      refine V.iconst dX10_isStill_16 (v := 1) (by decide) ?_
      refine V.iand dX10_isStill_17 ?_
      refine V.if_ne (tgt := 36) dX10_isStill_18 (by decide) (fun q => absurd ((of_decide_eq_true h2.1)) q) (fun c18 => ?_)
      refine V.aload_n dX10_isStill_21 rfl (i := 0) rfl ?_
      refine V.getR dX10_isStill_22 rfl flRX10_44 rfl ⟨by decide, by decide⟩ ?_
      refine V.iload_n dX10_isStill_25 rfl (i := 2) rfl ?_
      refine V.ialdN dX10_isStill_26 rfl ⟨by decide, by decide⟩ (by first | assumption | decide | omega) (by decide) ?_
      refine V.iload_n dX10_isStill_27 rfl (i := 1) rfl ?_
      refine V.iconst dX10_isStill_28 (v := (-1)) (by decide) ?_
      refine V.ixor dX10_isStill_29 ?_
      refine V.iand dX10_isStill_30 ?_
      refine V.if_eq (tgt := 36) dX10_isStill_31 (by decide) (fun q => absurd q ((fun z => absurd h2.2 (by rw [decide_eq_true z]; decide)))) (fun c31 => ?_)
      refine V.iconst dX10_isStill_34 (v := 0) (by decide) ?_
      exact V.zret dX10_isStill_35 rfl (by first | exact Or.inl rfl | exact Or.inr rfl | assumption | exact b2i_zo _ | (repeat' split) <;> first | exact Or.inl rfl | exact Or.inr rfl | assumption | exact b2i_zo _) (hQ)
    · have hf2 : anB (stB (M 95) s) (b + 1) = false := by rw [anB, hf, Bool.eq_false_iff.mpr hst]; rfl
      by_cases h1 : (s >>> (nI b &&& 31)) &&& 1 = 0
      · have h3 : M 95 b &&& (s ^^^ (-1)) = 0 := Classical.byContradiction fun z => hst (by unfold stB; rw [decide_eq_true h1, decide_eq_false z]; rfl)
        refine V.iload_n dX10_isStill_2 rfl (i := 2) rfl ?_
        refine V.aload_n dX10_isStill_3 rfl (i := 0) rfl ?_
        refine V.getR dX10_isStill_4 rfl flRX10_7 rfl ⟨by decide, by decide⟩ ?_
        refine V.bipush dX10_isStill_7 (v := 103) (by decide) ?_
        refine V.top (x' := nI 103) (by decide) ?_
        refine V.ialdN dX10_isStill_9 rfl ⟨by decide, by decide⟩ (by first | assumption | decide | omega) (by decide) ?_
        refine V.top (x' := (nI n)) (hn) ?_
        refine V.ic_ge (tgt := 42) dX10_isStill_10 (by decide) (fun q => absurd q ((nI_ge (a := b) (b := n) (by omega) (by omega)))) (fun c10 => ?_)
        refine V.iload_n dX10_isStill_13 rfl (i := 1) rfl ?_
        refine V.iload_n dX10_isStill_14 rfl (i := 2) rfl ?_
        refine V.ishr dX10_isStill_15 ?_
        refine V.iconst dX10_isStill_16 (v := 1) (by decide) ?_
        refine V.iand dX10_isStill_17 ?_
        refine V.if_ne (tgt := 36) dX10_isStill_18 (by decide) (fun q => absurd (h1) q) (fun c18 => ?_)
        refine V.aload_n dX10_isStill_21 rfl (i := 0) rfl ?_
        refine V.getR dX10_isStill_22 rfl flRX10_44 rfl ⟨by decide, by decide⟩ ?_
        refine V.iload_n dX10_isStill_25 rfl (i := 2) rfl ?_
        refine V.ialdN dX10_isStill_26 rfl ⟨by decide, by decide⟩ (by first | assumption | decide | omega) (by decide) ?_
        refine V.iload_n dX10_isStill_27 rfl (i := 1) rfl ?_
        refine V.iconst dX10_isStill_28 (v := (-1)) (by decide) ?_
        refine V.ixor dX10_isStill_29 ?_
        refine V.iand dX10_isStill_30 ?_
        refine V.if_eq (tgt := 36) dX10_isStill_31 (by decide) (fun c31 => ?_) (fun q => absurd (h3) q)
        refine V.iinc dX10_isStill_36 rfl (v := (nI (b + 1))) (nI_1 _) (by decide) (fun _ h => by cases h; exact Or.inl rfl) rfl ?_
        refine V.goto dX10_isStill_39 (tgt := 2) (by decide) ?_
        exact ih (b + 1) (by omega) hf2
      · skip
        refine V.iload_n dX10_isStill_2 rfl (i := 2) rfl ?_
        refine V.aload_n dX10_isStill_3 rfl (i := 0) rfl ?_
        refine V.getR dX10_isStill_4 rfl flRX10_7 rfl ⟨by decide, by decide⟩ ?_
        refine V.bipush dX10_isStill_7 (v := 103) (by decide) ?_
        refine V.top (x' := nI 103) (by decide) ?_
        refine V.ialdN dX10_isStill_9 rfl ⟨by decide, by decide⟩ (by first | assumption | decide | omega) (by decide) ?_
        refine V.top (x' := (nI n)) (hn) ?_
        refine V.ic_ge (tgt := 42) dX10_isStill_10 (by decide) (fun q => absurd q ((nI_ge (a := b) (b := n) (by omega) (by omega)))) (fun c10 => ?_)
        refine V.iload_n dX10_isStill_13 rfl (i := 1) rfl ?_
        refine V.iload_n dX10_isStill_14 rfl (i := 2) rfl ?_
        refine V.ishr dX10_isStill_15 ?_
        refine V.iconst dX10_isStill_16 (v := 1) (by decide) ?_
        refine V.iand dX10_isStill_17 ?_
        refine V.if_ne (tgt := 36) dX10_isStill_18 (by decide) (fun c18 => ?_) (fun q => absurd q (h1))
        refine V.iinc dX10_isStill_36 rfl (v := (nI (b + 1))) (nI_1 _) (by decide) (fun _ h => by cases h; exact Or.inl rfl) rfl ?_
        refine V.goto dX10_isStill_39 (tgt := 2) (by decide) ?_
        exact ih (b + 1) (by omega) hf2
set_option maxHeartbeats 4000000 in
set_option maxRecDepth 100000 in
theorem c_stl {g : GG} {d : Nat} {M : Mem} {Q : Option Value → Mem → Prop} {n : Nat} {s : Int32} (hn : M 84 103 = nI n) (h8 : n ≤ 8) (hQ : Q (some (.int (b2i ((!anB (stB (M 95) s) n) = true)))) M) : V rS g d mX10_isStill 0 [some (.ref 83), some (.int s), none] [] M Q := by
  refine V.iconst dX10_isStill_0 (v := 0) (by decide) ?_
  refine V.istore_n dX10_isStill_1 rfl (i := 2) (by decide) (fun _ h => by cases h; exact Or.inl rfl) rfl ?_
  exact l_stl hn h8 hQ n 0 (by omega) rfl
set_option maxHeartbeats 4000000 in
set_option maxRecDepth 100000 in
theorem l_ag1 {g : GG} {d : Nat} {Q : Option Value → Mem → Prop} {hp : Nat → Nat → Bool} {wy : Nat → Nat → Int32} {n ne : Nat} {M0 : Mem} {h w : Int32} (hH : HdR M0 hp wy n ne) (hn : M0 84 103 = nI n) (h8 : n ≤ 8) (hne : M0 84 104 = nI ne) (h10 : ne ≤ 10) {a : Nat} (ha : a < n) (hc : ∀ M', eqx [95] M0 M' → M' 95 a = bI (enP hp wy (M0 84 101) (offR M0) ne a) n → (∀ x, x ≠ a → M' 95 x = M0 95 x) → V rS g (d + 3) mX10_silence 103 [some (.ref 83), some (.int h), some (.int w), some (.int (nI a)), none] [] M' Q) : ∀ (k b : Nat) (M : Mem), b + k = n → eqx [95] M0 M → M 95 a = bI (enP hp wy (M0 84 101) (offR M0) ne a) b → (∀ x, x ≠ a → M 95 x = M0 95 x) → V rS g (d + 3) mX10_silence 51 [some (.ref 83), some (.int h), some (.int w), some (.int (nI a)), some (.int (nI b))] [] M Q := by
  intro k
  induction k with
  | zero =>
    intro b M hk he h1 h2
    obtain rfl : b = n := by omega
    refine V.iload dX10_silence_51 rfl ?_
    refine V.aload_n dX10_silence_53 rfl (i := 0) rfl ?_
    refine V.getR dX10_silence_54 rfl flRX10_7 rfl ⟨by decide, by decide⟩ ?_
    refine V.bipush dX10_silence_57 (v := 103) (by decide) ?_
    refine V.top (x' := nI 103) (by decide) ?_
    refine V.ialdN dX10_silence_59 rfl ⟨by decide, by decide⟩ (by first | assumption | decide | omega) (by decide) ?_
    refine V.top (x' := (nI b)) ((by rw [he 84 (by decide)]; exact hn)) ?_
    refine V.ic_ge (tgt := 103) dX10_silence_60 (by decide) (fun c60 => ?_) (fun q => absurd ((Int32.le_refl _)) q)
    exact V.fg (ls' := [some (.ref 83), some (.int h), some (.int w), some (.int (nI a)), none]) ⟨rfl, rfl, rfl, rfl, trivial⟩ (hc M he h1 h2)
  | succ k ih =>
    intro b M hk he h1 h2
    have ha8 : a < 8 := by omega
    have e84 : M 84 = M0 84 := he 84 (by decide)
    have hX : ∀ x, x < n → HdX M hp wy ne x := fun x hx e hee => by rw [he 90 (by decide), he 89 (by decide)]; exact hH x e hx hee
    by_cases hab : a = b
    · have e1 : bI (enP hp wy (M0 84 101) (offR M0) ne a) b ||| 0 = bI (enP hp wy (M0 84 101) (offR M0) ne a) (b + 1) := by rw [Int32.or_zero, bI_f (p := (enP hp wy (M0 84 101) (offR M0) ne a)) (by unfold enP; rw [decide_eq_true hab.symm]; exact Bool.false_ne_true)]
      refine V.iload dX10_silence_51 rfl ?_
      refine V.aload_n dX10_silence_53 rfl (i := 0) rfl ?_
      refine V.getR dX10_silence_54 rfl flRX10_7 rfl ⟨by decide, by decide⟩ ?_
      refine V.bipush dX10_silence_57 (v := 103) (by decide) ?_
      refine V.top (x' := nI 103) (by decide) ?_
      refine V.ialdN dX10_silence_59 rfl ⟨by decide, by decide⟩ (by first | assumption | decide | omega) (by decide) ?_
      refine V.top (x' := (nI n)) ((by rw [e84]; exact hn)) ?_
      refine V.ic_ge (tgt := 103) dX10_silence_60 (by decide) (fun q => absurd q ((nI_ge (a := b) (b := n) (by omega) (by omega)))) (fun c60 => ?_)
      refine V.aload_n dX10_silence_63 rfl (i := 0) rfl ?_
      refine V.getR dX10_silence_64 rfl flRX10_44 rfl ⟨by decide, by decide⟩ ?_
      refine V.iload_n dX10_silence_67 rfl (i := 3) rfl ?_
      refine V.dup2 dX10_silence_68 rfl rfl ?_
      refine V.ialdN dX10_silence_69 rfl ⟨by decide, by decide⟩ (by first | assumption | decide | omega) (by decide) ?_
      refine V.top (x' := (bI (enP hp wy (M0 84 101) (offR M0) ne a) b)) (h1) ?_
      refine V.iload_n dX10_silence_70 rfl (i := 3) rfl ?_
      refine V.iload dX10_silence_71 rfl ?_
      refine V.ic_eq (tgt := 94) dX10_silence_73 (by decide) (fun c73 => ?_) (fun q => absurd ((by rw [hab])) q)
      refine V.iconst dX10_silence_94 (v := 0) (by decide) ?_
      refine V.ior dX10_silence_95 ?_
      refine V.top (x' := (bI (enP hp wy (M0 84 101) (offR M0) ne a) (b + 1))) (e1) ?_
      refine V.iastN dX10_silence_96 rfl ⟨by decide, by decide⟩ (by first | assumption | decide | omega) (by decide) ?_
      refine V.iinc dX10_silence_97 rfl (v := (nI (b + 1))) (nI_1 _) (by decide) (fun _ h => by cases h; exact Or.inl rfl) rfl ?_
      refine V.goto dX10_silence_100 (tgt := 51) (by decide) ?_
      exact ih (b + 1) _ (by omega) (he.put (by decide)) put_s (fun x hx => by rw [put_n (fun z => hx z.2)]; exact h2 x hx)
    · have hnab : ¬ nI a = nI b := fun z => hab ((nI_eq (by omega) (by omega)).mp z)
      by_cases hcl : anB (cl2 hp wy (M0 84 101) (offR M0) a b) ne = true
      · have e1 : bI (enP hp wy (M0 84 101) (offR M0) ne a) b ||| ((1 : Int32) <<< ((nI b) &&& 31)) = bI (enP hp wy (M0 84 101) (offR M0) ne a) (b + 1) := by rw [bI_t (p := (enP hp wy (M0 84 101) (offR M0) ne a)) (by omega) (by unfold enP; rw [hcl, decide_eq_false (fun z => hab z.symm)]; rfl)]
        refine V.iload dX10_silence_51 rfl ?_
        refine V.aload_n dX10_silence_53 rfl (i := 0) rfl ?_
        refine V.getR dX10_silence_54 rfl flRX10_7 rfl ⟨by decide, by decide⟩ ?_
        refine V.bipush dX10_silence_57 (v := 103) (by decide) ?_
        refine V.top (x' := nI 103) (by decide) ?_
        refine V.ialdN dX10_silence_59 rfl ⟨by decide, by decide⟩ (by first | assumption | decide | omega) (by decide) ?_
        refine V.top (x' := (nI n)) ((by rw [e84]; exact hn)) ?_
        refine V.ic_ge (tgt := 103) dX10_silence_60 (by decide) (fun q => absurd q ((nI_ge (a := b) (b := n) (by omega) (by omega)))) (fun c60 => ?_)
        refine V.aload_n dX10_silence_63 rfl (i := 0) rfl ?_
        refine V.getR dX10_silence_64 rfl flRX10_44 rfl ⟨by decide, by decide⟩ ?_
        refine V.iload_n dX10_silence_67 rfl (i := 3) rfl ?_
        refine V.dup2 dX10_silence_68 rfl rfl ?_
        refine V.ialdN dX10_silence_69 rfl ⟨by decide, by decide⟩ (by first | assumption | decide | omega) (by decide) ?_
        refine V.top (x' := (bI (enP hp wy (M0 84 101) (offR M0) ne a) b)) (h1) ?_
        refine V.iload_n dX10_silence_70 rfl (i := 3) rfl ?_
        refine V.iload dX10_silence_71 rfl ?_
        refine V.ic_eq (tgt := 94) dX10_silence_73 (by decide) (fun q => absurd q (hnab)) (fun c73 => ?_)
        refine V.aload_n dX10_silence_76 rfl (i := 0) rfl ?_
        refine V.iload_n dX10_silence_77 rfl (i := 3) rfl ?_
        refine V.iload dX10_silence_78 rfl ?_
        refine V.iconst dX10_silence_80 (v := 0) (by decide) ?_
        refine V.invv (z := mX10_clashesOf) (As := [_, _, _]) dX10_silence_81 rfl mlRX10_235 okX10_clashesOf npX10_clashesOf rfl rfl rfl ⟨by decide, by decide⟩ (Nat.le_of_ble_eq_true rfl) rfl (Nat.le_of_ble_eq_true rfl) (c_clsOf (d := d) (hX a ha) (hX b (by omega)) (by omega) (by omega) h10 (by rw [e84]; exact hne) ?_)
        show V rS g (d + 3) mX10_silence 84 [some (.ref 83), some (.int h), some (.int w), some (.int (nI a)), some (.int (nI b))] [.int (nI (cB (clP hp wy (M 84 101) a (M 84 (108 + 7 * a + 4) + 0) b (M 84 (108 + 7 * b + 4))) ne)), .int (bI (enP hp wy (M0 84 101) (offR M0) ne a) b), .int (nI a), .ref 95] M Q
        refine V.top (x' := (nI (cB (cl2 hp wy (M0 84 101) (offR M0) a b) ne))) ((by rw [e84]; unfold cl2; rw [Int32.add_zero])) ?_
        refine V.if_le (tgt := 94) dX10_silence_84 (by decide) (fun q => absurd q ((Int32.not_le.mpr ((cB_an (by omega)).mpr hcl)))) (fun c84 => ?_)
        refine V.iconst dX10_silence_87 (v := 1) (by decide) ?_
        refine V.iload dX10_silence_88 rfl ?_
        refine V.ishl dX10_silence_90 ?_
        refine V.goto dX10_silence_91 (tgt := 95) (by decide) ?_
        refine V.ior dX10_silence_95 ?_
        refine V.top (x' := (bI (enP hp wy (M0 84 101) (offR M0) ne a) (b + 1))) (e1) ?_
        refine V.iastN dX10_silence_96 rfl ⟨by decide, by decide⟩ (by first | assumption | decide | omega) (by decide) ?_
        refine V.iinc dX10_silence_97 rfl (v := (nI (b + 1))) (nI_1 _) (by decide) (fun _ h => by cases h; exact Or.inl rfl) rfl ?_
        refine V.goto dX10_silence_100 (tgt := 51) (by decide) ?_
        exact ih (b + 1) _ (by omega) (he.put (by decide)) put_s (fun x hx => by rw [put_n (fun z => hx z.2)]; exact h2 x hx)
      · have e1 : bI (enP hp wy (M0 84 101) (offR M0) ne a) b ||| 0 = bI (enP hp wy (M0 84 101) (offR M0) ne a) (b + 1) := by rw [Int32.or_zero, bI_f (p := (enP hp wy (M0 84 101) (offR M0) ne a)) (by unfold enP; rw [Bool.eq_false_iff.mpr hcl, Bool.and_false]; decide)]
        refine V.iload dX10_silence_51 rfl ?_
        refine V.aload_n dX10_silence_53 rfl (i := 0) rfl ?_
        refine V.getR dX10_silence_54 rfl flRX10_7 rfl ⟨by decide, by decide⟩ ?_
        refine V.bipush dX10_silence_57 (v := 103) (by decide) ?_
        refine V.top (x' := nI 103) (by decide) ?_
        refine V.ialdN dX10_silence_59 rfl ⟨by decide, by decide⟩ (by first | assumption | decide | omega) (by decide) ?_
        refine V.top (x' := (nI n)) ((by rw [e84]; exact hn)) ?_
        refine V.ic_ge (tgt := 103) dX10_silence_60 (by decide) (fun q => absurd q ((nI_ge (a := b) (b := n) (by omega) (by omega)))) (fun c60 => ?_)
        refine V.aload_n dX10_silence_63 rfl (i := 0) rfl ?_
        refine V.getR dX10_silence_64 rfl flRX10_44 rfl ⟨by decide, by decide⟩ ?_
        refine V.iload_n dX10_silence_67 rfl (i := 3) rfl ?_
        refine V.dup2 dX10_silence_68 rfl rfl ?_
        refine V.ialdN dX10_silence_69 rfl ⟨by decide, by decide⟩ (by first | assumption | decide | omega) (by decide) ?_
        refine V.top (x' := (bI (enP hp wy (M0 84 101) (offR M0) ne a) b)) (h1) ?_
        refine V.iload_n dX10_silence_70 rfl (i := 3) rfl ?_
        refine V.iload dX10_silence_71 rfl ?_
        refine V.ic_eq (tgt := 94) dX10_silence_73 (by decide) (fun q => absurd q (hnab)) (fun c73 => ?_)
        refine V.aload_n dX10_silence_76 rfl (i := 0) rfl ?_
        refine V.iload_n dX10_silence_77 rfl (i := 3) rfl ?_
        refine V.iload dX10_silence_78 rfl ?_
        refine V.iconst dX10_silence_80 (v := 0) (by decide) ?_
        refine V.invv (z := mX10_clashesOf) (As := [_, _, _]) dX10_silence_81 rfl mlRX10_235 okX10_clashesOf npX10_clashesOf rfl rfl rfl ⟨by decide, by decide⟩ (Nat.le_of_ble_eq_true rfl) rfl (Nat.le_of_ble_eq_true rfl) (c_clsOf (d := d) (hX a ha) (hX b (by omega)) (by omega) (by omega) h10 (by rw [e84]; exact hne) ?_)
        show V rS g (d + 3) mX10_silence 84 [some (.ref 83), some (.int h), some (.int w), some (.int (nI a)), some (.int (nI b))] [.int (nI (cB (clP hp wy (M 84 101) a (M 84 (108 + 7 * a + 4) + 0) b (M 84 (108 + 7 * b + 4))) ne)), .int (bI (enP hp wy (M0 84 101) (offR M0) ne a) b), .int (nI a), .ref 95] M Q
        refine V.top (x' := (nI (cB (cl2 hp wy (M0 84 101) (offR M0) a b) ne))) ((by rw [e84]; unfold cl2; rw [Int32.add_zero])) ?_
        refine V.if_le (tgt := 94) dX10_silence_84 (by decide) (fun c84 => ?_) (fun q => absurd ((Int32.not_lt.mp (fun z => hcl ((cB_an (by omega)).mp z)))) q)
        refine V.iconst dX10_silence_94 (v := 0) (by decide) ?_
        refine V.ior dX10_silence_95 ?_
        refine V.top (x' := (bI (enP hp wy (M0 84 101) (offR M0) ne a) (b + 1))) (e1) ?_
        refine V.iastN dX10_silence_96 rfl ⟨by decide, by decide⟩ (by first | assumption | decide | omega) (by decide) ?_
        refine V.iinc dX10_silence_97 rfl (v := (nI (b + 1))) (nI_1 _) (by decide) (fun _ h => by cases h; exact Or.inl rfl) rfl ?_
        refine V.goto dX10_silence_100 (tgt := 51) (by decide) ?_
        exact ih (b + 1) _ (by omega) (he.put (by decide)) put_s (fun x hx => by rw [put_n (fun z => hx z.2)]; exact h2 x hx)
set_option maxHeartbeats 4000000 in
set_option maxRecDepth 100000 in
theorem l_ag {g : GG} {d : Nat} {Q : Option Value → Mem → Prop} {hp : Nat → Nat → Bool} {wy : Nat → Nat → Int32} {n ne : Nat} {M0 : Mem} {h w : Int32} (hH : HdR M0 hp wy n ne) (hn : M0 84 103 = nI n) (h8 : n ≤ 8) (hne : M0 84 104 = nI ne) (h10 : ne ≤ 10) (hc : ∀ M', eqx [95] M0 M' → (∀ a, a < n → M' 95 a = bI (enP hp wy (M0 84 101) (offR M0) ne a) n) → V rS g (d + 3) mX10_silence 109 [some (.ref 83), some (.int h), some (.int w), none, none] [] M' Q) : ∀ (k a : Nat) (M : Mem) (l4 : Option Value), a + k = n → eqx [95] M0 M → (∀ x, x < a → M 95 x = bI (enP hp wy (M0 84 101) (offR M0) ne x) n) → V rS g (d + 3) mX10_silence 30 [some (.ref 83), some (.int h), some (.int w), some (.int (nI a)), l4] [] M Q := by
  intro k
  induction k with
  | zero =>
    intro a M l4 hk he h1
    obtain rfl : a = n := by omega
    refine V.fg (ls' := [some (.ref 83), some (.int h), some (.int w), some (.int (nI a)), none]) ⟨rfl, rfl, rfl, rfl, trivial⟩ ?_
    refine V.iload_n dX10_silence_30 rfl (i := 3) rfl ?_
    refine V.aload_n dX10_silence_31 rfl (i := 0) rfl ?_
    refine V.getR dX10_silence_32 rfl flRX10_7 rfl ⟨by decide, by decide⟩ ?_
    refine V.bipush dX10_silence_35 (v := 103) (by decide) ?_
    refine V.top (x' := nI 103) (by decide) ?_
    refine V.ialdN dX10_silence_37 rfl ⟨by decide, by decide⟩ (by first | assumption | decide | omega) (by decide) ?_
    refine V.top (x' := (nI a)) ((by rw [he 84 (by decide)]; exact hn)) ?_
    refine V.ic_ge (tgt := 109) dX10_silence_38 (by decide) (fun c38 => ?_) (fun q => absurd ((Int32.le_refl _)) q)
    exact V.fg (ls' := [some (.ref 83), some (.int h), some (.int w), none, none]) ⟨rfl, rfl, rfl, trivial⟩ (hc M he h1)
  | succ k ih =>
    intro a M l4 hk he h1
    have ha8 : a < 8 := by omega
    have e84 : M 84 = M0 84 := he 84 (by decide)
    refine V.fg (ls' := [some (.ref 83), some (.int h), some (.int w), some (.int (nI a)), none]) ⟨rfl, rfl, rfl, rfl, trivial⟩ ?_
    have hHM : HdR (put M 95 a 0) hp wy n ne := fun b e hb hee => by rw [put_cell (by decide), put_cell (by decide), he 90 (by decide), he 89 (by decide)]; exact hH b e hb hee
    refine V.iload_n dX10_silence_30 rfl (i := 3) rfl ?_
    refine V.aload_n dX10_silence_31 rfl (i := 0) rfl ?_
    refine V.getR dX10_silence_32 rfl flRX10_7 rfl ⟨by decide, by decide⟩ ?_
    refine V.bipush dX10_silence_35 (v := 103) (by decide) ?_
    refine V.top (x' := nI 103) (by decide) ?_
    refine V.ialdN dX10_silence_37 rfl ⟨by decide, by decide⟩ (by first | assumption | decide | omega) (by decide) ?_
    refine V.top (x' := (nI n)) ((by rw [e84]; exact hn)) ?_
    refine V.ic_ge (tgt := 109) dX10_silence_38 (by decide) (fun q => absurd q ((nI_ge (a := a) (b := n) (by omega) (by omega)))) (fun c38 => ?_)
    refine V.aload_n dX10_silence_41 rfl (i := 0) rfl ?_
    refine V.getR dX10_silence_42 rfl flRX10_44 rfl ⟨by decide, by decide⟩ ?_
    refine V.iload_n dX10_silence_45 rfl (i := 3) rfl ?_
    refine V.iconst dX10_silence_46 (v := 0) (by decide) ?_
    refine V.iastN dX10_silence_47 rfl ⟨by decide, by decide⟩ (by first | assumption | decide | omega) (by decide) ?_
    refine V.iconst dX10_silence_48 (v := 0) (by decide) ?_
    refine V.istore dX10_silence_49 (i := 4) (by decide) (fun _ h => by cases h; exact Or.inl rfl) rfl ?_
    refine l_ag1 hHM (by rw [put_cell (by decide), e84]; exact hn) h8 (by rw [put_cell (by decide), e84]; exact hne) h10 (show a < n by omega) (fun M' he' h3 h4 => ?_) n 0 _ (by omega) eqx.rf (by rw [put_s, bI_0]) (fun _ _ => rfl)
    have e84' : offR (put M 95 a 0) = offR M0 := by unfold offR; rw [put_cell (by decide), e84]
    rw [e84', put_cell (by decide), e84] at h3
    refine V.iinc dX10_silence_103 rfl (v := (nI (a + 1))) (nI_1 _) (by decide) (fun _ h => by cases h; exact Or.inl rfl) rfl ?_
    refine V.goto dX10_silence_106 (tgt := 30) (by decide) ?_
    exact ih (a + 1) M' _ (by omega) ((he.put (by decide)).tr he') (fun x hx => by by_cases hq : x = a; subst hq; exact h3; rw [h4 x hq, put_n (fun z => hq z.2)]; exact h1 x (by omega))
theorem sh8 : ∀ n, n ≤ 8 → (1 : Int32) <<< (nI n &&& 31) = nI (2 ^ n) := by decide +kernel
theorem bsI_lt {o : Option Nat} (h : ∀ b, o = some b → b < 1000) : (bsI o < 0 ↔ o = none) := by
  cases o with
  | none => exact ⟨fun _ => rfl, fun _ => by decide⟩
  | some b => exact ⟨fun z => absurd z (nI_pos (by have := h b rfl; omega)), fun z => by cases z⟩

set_option maxHeartbeats 4000000 in
set_option maxRecDepth 100000 in
theorem l_scan {g : GG} {d : Nat} {M : Mem} {Q : Option Value → Mem → Prop} {n : Nat} {h w : Int32} (hn : M 84 103 = nI n) (h8 : n ≤ 8) (hQ : Q (some (.int (if w = 0 then bsI (csU (fun s => rkR M n (nI s)) (fun s => !anB (stB (M 95) (nI s)) n) (2 ^ n)) else rkR M n (bsI (csU (fun s => rkR M n (nI s)) (fun s => !anB (stB (M 95) (nI s)) n) (2 ^ n)))))) M) : ∀ (k s : Nat), s + k = 2 ^ n → V rS g (d + 2) mX10_silence 114 [some (.ref 83), some (.int h), some (.int w), some (.int (bsI (csU (fun s => rkR M n (nI s)) (fun s => !anB (stB (M 95) (nI s)) n) s))), some (.int (nI s))] [] M Q := by
  have h256 := p28 n h8
  intro k
  induction k with
  | zero =>
    intro s hk
    obtain rfl : s = 2 ^ n := by omega
    refine V.iload dX10_silence_114 rfl ?_
    refine V.iconst dX10_silence_116 (v := 1) (by decide) ?_
    refine V.aload_n dX10_silence_117 rfl (i := 0) rfl ?_
    refine V.getR dX10_silence_118 rfl flRX10_7 rfl ⟨by decide, by decide⟩ ?_
    refine V.bipush dX10_silence_121 (v := 103) (by decide) ?_
    refine V.top (x' := nI 103) (by decide) ?_
    refine V.ialdN dX10_silence_123 rfl ⟨by decide, by decide⟩ (by first | assumption | decide | omega) (by decide) ?_
    refine V.top (x' := (nI n)) (hn) ?_
    refine V.ishl dX10_silence_124 ?_
    refine V.top (x' := (nI (2 ^ n))) ((sh8 n h8)) ?_
    refine V.ic_ge (tgt := 168) dX10_silence_125 (by decide) (fun c125 => ?_) (fun q => absurd ((Int32.le_refl _)) q)
    refine V.iload_n dX10_silence_168 rfl (i := 2) rfl ?_
    refine V.if_ne (tgt := 176) dX10_silence_169 (by decide) (fun c169 => ?_) (fun c169 => ?_)
    · refine V.aload_n dX10_silence_176 rfl (i := 0) rfl ?_
      refine V.iload_n dX10_silence_177 rfl (i := 3) rfl ?_
      refine V.invv (z := mX10_ranks) (As := [_]) dX10_silence_178 rfl mlRX10_270 okX10_ranks npX10_ranks rfl rfl rfl ⟨by decide, by decide⟩ (Nat.le_of_ble_eq_true rfl) rfl (Nat.le_of_ble_eq_true rfl) (c_rk hn h8 ?_)
      show V rS g (d + 2) mX10_silence 181 [some (.ref 83), some (.int h), some (.int w), some (.int (bsI (csU (fun s => rkR M n (nI s)) (fun s => !anB (stB (M 95) (nI s)) n) (2 ^ n)))), some (.int (nI (2 ^ n)))] [.int (rkR M n (bsI (csU (fun s => rkR M n (nI s)) (fun s => !anB (stB (M 95) (nI s)) n) (2 ^ n))))] M Q
      exact V.ret dX10_silence_181 rfl (Qi hQ (by first | rw [if_pos c169] | rw [if_neg c169]))
    · refine V.iload_n dX10_silence_172 rfl (i := 3) rfl ?_
      refine V.goto dX10_silence_173 (tgt := 181) (by decide) ?_
      exact V.ret dX10_silence_181 rfl (Qi hQ (by first | rw [if_pos c169] | rw [if_neg c169]))
  | succ k ih =>
    intro s hk
    have hlt := csU_lt (fun s => rkR M n (nI s)) (fun s => !anB (stB (M 95) (nI s)) n) s
    have hbn := bsI_lt (o := (csU (fun s => rkR M n (nI s)) (fun s => !anB (stB (M 95) (nI s)) n) s)) (fun b hb => by have := hlt b hb; omega)
    by_cases hst : (fun s => !anB (stB (M 95) (nI s)) n) s = true
    · rcases ho : (csU (fun s => rkR M n (nI s)) (fun s => !anB (stB (M 95) (nI s)) n) s) with _ | b
      · have e1 : nI s = bsI (csU (fun s => rkR M n (nI s)) (fun s => !anB (stB (M 95) (nI s)) n) (s + 1)) := by rw [csU, ho, if_pos ⟨hst, rfl⟩]; rfl
        refine V.iload dX10_silence_114 rfl ?_
        refine V.iconst dX10_silence_116 (v := 1) (by decide) ?_
        refine V.aload_n dX10_silence_117 rfl (i := 0) rfl ?_
        refine V.getR dX10_silence_118 rfl flRX10_7 rfl ⟨by decide, by decide⟩ ?_
        refine V.bipush dX10_silence_121 (v := 103) (by decide) ?_
        refine V.top (x' := nI 103) (by decide) ?_
        refine V.ialdN dX10_silence_123 rfl ⟨by decide, by decide⟩ (by first | assumption | decide | omega) (by decide) ?_
        refine V.top (x' := (nI n)) (hn) ?_
        refine V.ishl dX10_silence_124 ?_
        refine V.top (x' := (nI (2 ^ n))) ((sh8 n h8)) ?_
        refine V.ic_ge (tgt := 168) dX10_silence_125 (by decide) (fun q => absurd q ((nI_ge (a := s) (b := 2 ^ n) (by omega) (by omega)))) (fun c125 => ?_)
        refine V.aload_n dX10_silence_128 rfl (i := 0) rfl ?_
        refine V.iload dX10_silence_129 rfl ?_
        refine V.invv (z := mX10_isStill) (As := [_]) dX10_silence_131 rfl mlRX10_267 okX10_isStill npX10_isStill rfl rfl rfl ⟨by decide, by decide⟩ (Nat.le_of_ble_eq_true rfl) rfl (Nat.le_of_ble_eq_true rfl) (c_stl hn h8 ?_)
        show V rS g (d + 2) mX10_silence 134 [some (.ref 83), some (.int h), some (.int w), some (.int (bsI none)), some (.int (nI s))] [.int (b2i ((!anB (stB (M 95) (nI s)) n) = true))] M Q
        refine V.if_eq (tgt := 160) dX10_silence_134 (by decide) (fun q => absurd q ((fun z => b2i_0.mp z hst))) (fun c134 => ?_)
        refine V.iload_n dX10_silence_137 rfl (i := 3) rfl ?_
        refine V.if_lt (tgt := 155) dX10_silence_138 (by decide) (fun c138 => ?_) (fun q => absurd ((by decide)) q)
        refine V.iload dX10_silence_155 rfl ?_
        refine V.goto dX10_silence_157 (tgt := 161) (by decide) ?_
        refine V.top (x' := (bsI (csU (fun s => rkR M n (nI s)) (fun s => !anB (stB (M 95) (nI s)) n) (s + 1)))) (e1) ?_
        refine V.istore_n dX10_silence_161 rfl (i := 3) (by decide) (fun _ h => by cases h; exact Or.inl rfl) rfl ?_
        refine V.iinc dX10_silence_162 rfl (v := (nI (s + 1))) (nI_1 _) (by decide) (fun _ h => by cases h; exact Or.inl rfl) rfl ?_
        refine V.goto dX10_silence_165 (tgt := 114) (by decide) ?_
        exact ih (s + 1) (by omega)
      · have hb := hlt b ho
        by_cases hr : rkR M n (nI s) < rkR M n (nI b)
        · have e1 : nI s = bsI (csU (fun s => rkR M n (nI s)) (fun s => !anB (stB (M 95) (nI s)) n) (s + 1)) := by rw [csU, ho, if_pos ⟨hst, decide_eq_true hr⟩]; rfl
          refine V.iload dX10_silence_114 rfl ?_
          refine V.iconst dX10_silence_116 (v := 1) (by decide) ?_
          refine V.aload_n dX10_silence_117 rfl (i := 0) rfl ?_
          refine V.getR dX10_silence_118 rfl flRX10_7 rfl ⟨by decide, by decide⟩ ?_
          refine V.bipush dX10_silence_121 (v := 103) (by decide) ?_
          refine V.top (x' := nI 103) (by decide) ?_
          refine V.ialdN dX10_silence_123 rfl ⟨by decide, by decide⟩ (by first | assumption | decide | omega) (by decide) ?_
          refine V.top (x' := (nI n)) (hn) ?_
          refine V.ishl dX10_silence_124 ?_
          refine V.top (x' := (nI (2 ^ n))) ((sh8 n h8)) ?_
          refine V.ic_ge (tgt := 168) dX10_silence_125 (by decide) (fun q => absurd q ((nI_ge (a := s) (b := 2 ^ n) (by omega) (by omega)))) (fun c125 => ?_)
          refine V.aload_n dX10_silence_128 rfl (i := 0) rfl ?_
          refine V.iload dX10_silence_129 rfl ?_
          refine V.invv (z := mX10_isStill) (As := [_]) dX10_silence_131 rfl mlRX10_267 okX10_isStill npX10_isStill rfl rfl rfl ⟨by decide, by decide⟩ (Nat.le_of_ble_eq_true rfl) rfl (Nat.le_of_ble_eq_true rfl) (c_stl hn h8 ?_)
          show V rS g (d + 2) mX10_silence 134 [some (.ref 83), some (.int h), some (.int w), some (.int (nI b)), some (.int (nI s))] [.int (b2i ((!anB (stB (M 95) (nI s)) n) = true))] M Q
          refine V.if_eq (tgt := 160) dX10_silence_134 (by decide) (fun q => absurd q ((fun z => b2i_0.mp z hst))) (fun c134 => ?_)
          refine V.iload_n dX10_silence_137 rfl (i := 3) rfl ?_
          refine V.if_lt (tgt := 155) dX10_silence_138 (by decide) (fun q => absurd q ((nI_pos (by omega)))) (fun c138 => ?_)
          refine V.aload_n dX10_silence_141 rfl (i := 0) rfl ?_
          refine V.iload dX10_silence_142 rfl ?_
          refine V.invv (z := mX10_ranks) (As := [_]) dX10_silence_144 rfl mlRX10_270 okX10_ranks npX10_ranks rfl rfl rfl ⟨by decide, by decide⟩ (Nat.le_of_ble_eq_true rfl) rfl (Nat.le_of_ble_eq_true rfl) (c_rk hn h8 ?_)
          show V rS g (d + 2) mX10_silence 147 [some (.ref 83), some (.int h), some (.int w), some (.int (nI b)), some (.int (nI s))] [.int (rkR M n (nI s))] M Q
          refine V.aload_n dX10_silence_147 rfl (i := 0) rfl ?_
          refine V.iload_n dX10_silence_148 rfl (i := 3) rfl ?_
          refine V.invv (z := mX10_ranks) (As := [_]) dX10_silence_149 rfl mlRX10_270 okX10_ranks npX10_ranks rfl rfl rfl ⟨by decide, by decide⟩ (Nat.le_of_ble_eq_true rfl) rfl (Nat.le_of_ble_eq_true rfl) (c_rk hn h8 ?_)
          show V rS g (d + 2) mX10_silence 152 [some (.ref 83), some (.int h), some (.int w), some (.int (nI b)), some (.int (nI s))] [.int (rkR M n (nI b)), .int (rkR M n (nI s))] M Q
          refine V.ic_ge (tgt := 160) dX10_silence_152 (by decide) (fun q => absurd q ((Int32.not_le.mpr hr))) (fun c152 => ?_)
          refine V.iload dX10_silence_155 rfl ?_
          refine V.goto dX10_silence_157 (tgt := 161) (by decide) ?_
          refine V.top (x' := (bsI (csU (fun s => rkR M n (nI s)) (fun s => !anB (stB (M 95) (nI s)) n) (s + 1)))) (e1) ?_
          refine V.istore_n dX10_silence_161 rfl (i := 3) (by decide) (fun _ h => by cases h; exact Or.inl rfl) rfl ?_
          refine V.iinc dX10_silence_162 rfl (v := (nI (s + 1))) (nI_1 _) (by decide) (fun _ h => by cases h; exact Or.inl rfl) rfl ?_
          refine V.goto dX10_silence_165 (tgt := 114) (by decide) ?_
          exact ih (s + 1) (by omega)
        · have e1 : nI b = bsI (csU (fun s => rkR M n (nI s)) (fun s => !anB (stB (M 95) (nI s)) n) (s + 1)) := by rw [csU, ho, if_neg (fun z => hr (of_decide_eq_true z.2))]; rfl
          refine V.iload dX10_silence_114 rfl ?_
          refine V.iconst dX10_silence_116 (v := 1) (by decide) ?_
          refine V.aload_n dX10_silence_117 rfl (i := 0) rfl ?_
          refine V.getR dX10_silence_118 rfl flRX10_7 rfl ⟨by decide, by decide⟩ ?_
          refine V.bipush dX10_silence_121 (v := 103) (by decide) ?_
          refine V.top (x' := nI 103) (by decide) ?_
          refine V.ialdN dX10_silence_123 rfl ⟨by decide, by decide⟩ (by first | assumption | decide | omega) (by decide) ?_
          refine V.top (x' := (nI n)) (hn) ?_
          refine V.ishl dX10_silence_124 ?_
          refine V.top (x' := (nI (2 ^ n))) ((sh8 n h8)) ?_
          refine V.ic_ge (tgt := 168) dX10_silence_125 (by decide) (fun q => absurd q ((nI_ge (a := s) (b := 2 ^ n) (by omega) (by omega)))) (fun c125 => ?_)
          refine V.aload_n dX10_silence_128 rfl (i := 0) rfl ?_
          refine V.iload dX10_silence_129 rfl ?_
          refine V.invv (z := mX10_isStill) (As := [_]) dX10_silence_131 rfl mlRX10_267 okX10_isStill npX10_isStill rfl rfl rfl ⟨by decide, by decide⟩ (Nat.le_of_ble_eq_true rfl) rfl (Nat.le_of_ble_eq_true rfl) (c_stl hn h8 ?_)
          show V rS g (d + 2) mX10_silence 134 [some (.ref 83), some (.int h), some (.int w), some (.int (nI b)), some (.int (nI s))] [.int (b2i ((!anB (stB (M 95) (nI s)) n) = true))] M Q
          refine V.if_eq (tgt := 160) dX10_silence_134 (by decide) (fun q => absurd q ((fun z => b2i_0.mp z hst))) (fun c134 => ?_)
          refine V.iload_n dX10_silence_137 rfl (i := 3) rfl ?_
          refine V.if_lt (tgt := 155) dX10_silence_138 (by decide) (fun q => absurd q ((nI_pos (by omega)))) (fun c138 => ?_)
          refine V.aload_n dX10_silence_141 rfl (i := 0) rfl ?_
          refine V.iload dX10_silence_142 rfl ?_
          refine V.invv (z := mX10_ranks) (As := [_]) dX10_silence_144 rfl mlRX10_270 okX10_ranks npX10_ranks rfl rfl rfl ⟨by decide, by decide⟩ (Nat.le_of_ble_eq_true rfl) rfl (Nat.le_of_ble_eq_true rfl) (c_rk hn h8 ?_)
          show V rS g (d + 2) mX10_silence 147 [some (.ref 83), some (.int h), some (.int w), some (.int (nI b)), some (.int (nI s))] [.int (rkR M n (nI s))] M Q
          refine V.aload_n dX10_silence_147 rfl (i := 0) rfl ?_
          refine V.iload_n dX10_silence_148 rfl (i := 3) rfl ?_
          refine V.invv (z := mX10_ranks) (As := [_]) dX10_silence_149 rfl mlRX10_270 okX10_ranks npX10_ranks rfl rfl rfl ⟨by decide, by decide⟩ (Nat.le_of_ble_eq_true rfl) rfl (Nat.le_of_ble_eq_true rfl) (c_rk hn h8 ?_)
          show V rS g (d + 2) mX10_silence 152 [some (.ref 83), some (.int h), some (.int w), some (.int (nI b)), some (.int (nI s))] [.int (rkR M n (nI b)), .int (rkR M n (nI s))] M Q
          refine V.ic_ge (tgt := 160) dX10_silence_152 (by decide) (fun c152 => ?_) (fun q => absurd ((Int32.not_lt.mp hr)) q)
          refine V.iload_n dX10_silence_160 rfl (i := 3) rfl ?_
          refine V.top (x' := (bsI (csU (fun s => rkR M n (nI s)) (fun s => !anB (stB (M 95) (nI s)) n) (s + 1)))) (e1) ?_
          refine V.istore_n dX10_silence_161 rfl (i := 3) (by decide) (fun _ h => by cases h; exact Or.inl rfl) rfl ?_
          refine V.iinc dX10_silence_162 rfl (v := (nI (s + 1))) (nI_1 _) (by decide) (fun _ h => by cases h; exact Or.inl rfl) rfl ?_
          refine V.goto dX10_silence_165 (tgt := 114) (by decide) ?_
          exact ih (s + 1) (by omega)
    · have e1 : bsI (csU (fun s => rkR M n (nI s)) (fun s => !anB (stB (M 95) (nI s)) n) s) = bsI (csU (fun s => rkR M n (nI s)) (fun s => !anB (stB (M 95) (nI s)) n) (s + 1)) := by rw [csU, if_neg (fun z => hst z.1)]
      refine V.iload dX10_silence_114 rfl ?_
      refine V.iconst dX10_silence_116 (v := 1) (by decide) ?_
      refine V.aload_n dX10_silence_117 rfl (i := 0) rfl ?_
      refine V.getR dX10_silence_118 rfl flRX10_7 rfl ⟨by decide, by decide⟩ ?_
      refine V.bipush dX10_silence_121 (v := 103) (by decide) ?_
      refine V.top (x' := nI 103) (by decide) ?_
      refine V.ialdN dX10_silence_123 rfl ⟨by decide, by decide⟩ (by first | assumption | decide | omega) (by decide) ?_
      refine V.top (x' := (nI n)) (hn) ?_
      refine V.ishl dX10_silence_124 ?_
      refine V.top (x' := (nI (2 ^ n))) ((sh8 n h8)) ?_
      refine V.ic_ge (tgt := 168) dX10_silence_125 (by decide) (fun q => absurd q ((nI_ge (a := s) (b := 2 ^ n) (by omega) (by omega)))) (fun c125 => ?_)
      refine V.aload_n dX10_silence_128 rfl (i := 0) rfl ?_
      refine V.iload dX10_silence_129 rfl ?_
      refine V.invv (z := mX10_isStill) (As := [_]) dX10_silence_131 rfl mlRX10_267 okX10_isStill npX10_isStill rfl rfl rfl ⟨by decide, by decide⟩ (Nat.le_of_ble_eq_true rfl) rfl (Nat.le_of_ble_eq_true rfl) (c_stl hn h8 ?_)
      show V rS g (d + 2) mX10_silence 134 [some (.ref 83), some (.int h), some (.int w), some (.int (bsI (csU (fun s => rkR M n (nI s)) (fun s => !anB (stB (M 95) (nI s)) n) s))), some (.int (nI s))] [.int (b2i ((!anB (stB (M 95) (nI s)) n) = true))] M Q
      refine V.if_eq (tgt := 160) dX10_silence_134 (by decide) (fun c134 => ?_) (fun q => absurd ((b2i_f hst)) q)
      refine V.iload_n dX10_silence_160 rfl (i := 3) rfl ?_
      refine V.top (x' := (bsI (csU (fun s => rkR M n (nI s)) (fun s => !anB (stB (M 95) (nI s)) n) (s + 1)))) (e1) ?_
      refine V.istore_n dX10_silence_161 rfl (i := 3) (by decide) (fun _ h => by cases h; exact Or.inl rfl) rfl ?_
      refine V.iinc dX10_silence_162 rfl (v := (nI (s + 1))) (nI_1 _) (by decide) (fun _ h => by cases h; exact Or.inl rfl) rfl ?_
      refine V.goto dX10_silence_165 (tgt := 114) (by decide) ?_
      exact ih (s + 1) (by omega)
theorem csU_cong {R R' : Nat → Int32} {S S' : Nat → Bool} : ∀ {k : Nat}, (∀ s, s < k → R s = R' s) → (∀ s, s < k → S s = S' s) → csU R S k = csU R' S' k
  | 0, _, _ => rfl
  | k + 1, h1, h2 => by
    have ih := csU_cong (k := k) (fun s hs => h1 s (by omega)) (fun s hs => h2 s (by omega))
    unfold csU
    rw [ih, h2 k (by omega)]
    rcases hb : csU R' S' k with _ | b
    · rfl
    · have := csU_lt R' S' k b hb
      have e : csO R k (some b) = csO R' k (some b) := by show decide (R k < R b) = decide (R' k < R' b); rw [h1 k (by omega), h1 b (by omega)]
      rw [e]

set_option maxHeartbeats 4000000 in
set_option maxRecDepth 100000 in
theorem c10_silence {g : GG} {d : Nat} {M : Mem} {Q : Option Value → Mem → Prop} {a w : Int32} {S : List Int32} {n ne : Nat} (hV : VR S M n ne) (hbad : ¬ ((0 ≤ a ∧ a ≤ 23) ∧ 0 ≤ w ∧ w ≤ 1) → Q (some (.int (-1000000001))) (put M 87 1 (M 87 1 + 1))) (hok : ((0 ≤ a ∧ a ≤ 23) ∧ 0 ≤ w ∧ w ≤ 1) → ∀ M', KpX M M' → Q (some (.int (if w = 0 then bsI (csU (fun s => rkR M n (nI s)) (fun s => !anB (stB (fun x => bI (enP (hpR S M a) (wyR M) (M 84 101) (offR M) ne x) n) (nI s)) n) (2 ^ n)) else rkR M n (bsI (csU (fun s => rkR M n (nI s)) (fun s => !anB (stB (fun x => bI (enP (hpR S M a) (wyR M) (M 84 101) (offR M) ne x) n) (nI s)) n) (2 ^ n)))))) M') : V rS g (d + 67) mX10_silence 0 [some (.ref 83), some (.int a), some (.int w), none, none] [] M Q := by
  have h8 := hV.2.1
  by_cases h : ((0 ≤ a ∧ a ≤ 23) ∧ 0 ≤ w ∧ w ≤ 1)
  · skip
    refine V.iload_n dX10_silence_0 rfl (i := 1) rfl ?_
    refine V.invs (z := mX10_isHour) (As := [_]) dX10_silence_1 rfl mlRX10_191 okX10_isHour npX10_isHour rfl (Nat.le_of_ble_eq_true rfl) rfl (Nat.le_of_ble_eq_true rfl) (c_hourR   ?_)
    show V rS g (d + 67) mX10_silence 4 [some (.ref 83), some (.int a), some (.int w), none, none] [.int (b2i (0 ≤ a ∧ a ≤ 23))] (M) Q
    refine V.if_eq (tgt := 17) dX10_silence_4 (by decide) (fun q => absurd q ((fun z => b2i_0.mp z h.1))) (fun c4 => ?_)
    refine V.iload_n dX10_silence_7 rfl (i := 2) rfl ?_
    refine V.i2l dX10_silence_8 ?_
    refine V.lconst dX10_silence_9 (v := 0) (by decide) ?_
    refine V.lconst dX10_silence_10 (v := 1) (by decide) ?_
    refine V.invs (z := mX10_in) (As := [_, _, _]) dX10_silence_11 rfl mlRX10_66 okX10_in npX10_in rfl (Nat.le_of_ble_eq_true rfl) rfl (Nat.le_of_ble_eq_true rfl) (c_in32 (v := w) (lo := (0 : Int32)) (hi := (1 : Int32)) (by first | rfl | decide) (by first | rfl | decide)   ?_)
    show V rS g (d + 67) mX10_silence 14 [some (.ref 83), some (.int a), some (.int w), none, none] [.int (b2i ((0 : Int32) ≤ w ∧ w ≤ (1 : Int32)))] (M) Q
    refine V.if_ne (tgt := 23) dX10_silence_14 (by decide) (fun c14 => ?_) (fun q => absurd q ((fun z => b2i_0.mp z h.2)))
    refine V.aload_n dX10_silence_23 rfl (i := 0) rfl ?_
    refine V.iload_n dX10_silence_24 rfl (i := 1) rfl ?_
    refine V.invv (z := mX10_hearsAll) (As := [_]) dX10_silence_25 rfl mlRX10_238 okX10_hearsAll npX10_hearsAll rfl rfl rfl ⟨by decide, by decide⟩ (Nat.le_of_ble_eq_true rfl) rfl (Nat.le_of_ble_eq_true rfl) (c_all hV (fun M1 hM1 hH1 => ?_))
    show V rS g (d + 67) mX10_silence 28 [some (.ref 83), some (.int a), some (.int w), none, none] [] M1 Q
    refine V.iconst dX10_silence_28 (v := 0) (by decide) ?_
    refine V.istore_n dX10_silence_29 rfl (i := 3) (by decide) (fun _ h => by cases h; exact Or.inl rfl) rfl ?_
    refine l_ag (d := d + 64) hH1 (hV.eq hM1.d).1 h8 (hV.eq hM1.d).2.2.1 hV.2.2.2.1 (fun M2 hM2 h95 => ?_) n 0 M1 _ (by omega) eqx.rf (fun x hx => absurd hx (Nat.not_lt_zero _))
    have hX : KpX M M2 := hM1.x.tr (hM2.x (by decide))
    have eo : offR M1 = offR M := by unfold offR; rw [hM1.d]
    rw [eo, hM1.d] at h95
    have hrk : ∀ s, rkR M2 n s = rkR M n s := fun s => by unfold rkR; rw [hX.d]
    have hcu : csU (fun s => rkR M2 n (nI s)) (fun s => !anB (stB (M2 95) (nI s)) n) (2 ^ n) = (csU (fun s => rkR M n (nI s)) (fun s => !anB (stB (fun x => bI (enP (hpR S M a) (wyR M) (M 84 101) (offR M) ne x) n) (nI s)) n) (2 ^ n)) := csU_cong (fun s _ => hrk _) (fun s _ => congrArg Bool.not (anB_cong (fun x hx => by unfold stB; rw [h95 x hx])))
    refine V.iconst dX10_silence_109 (v := (-1)) (by decide) ?_
    refine V.istore_n dX10_silence_110 rfl (i := 3) (by decide) (fun _ h => by cases h; exact Or.inl rfl) rfl ?_
    refine V.iconst dX10_silence_111 (v := 0) (by decide) ?_
    refine V.istore dX10_silence_112 (i := 4) (by decide) (fun _ h => by cases h; exact Or.inl rfl) rfl ?_
    exact l_scan (d := d + 65) (by rw [hX.d]; exact hV.1) h8 (by rw [hcu, hrk]; exact hok h M2 hX) (2 ^ n) 0 (by omega)
  · skip
    refine V.iload_n dX10_silence_0 rfl (i := 1) rfl ?_
    refine V.invs (z := mX10_isHour) (As := [_]) dX10_silence_1 rfl mlRX10_191 okX10_isHour npX10_isHour rfl (Nat.le_of_ble_eq_true rfl) rfl (Nat.le_of_ble_eq_true rfl) (c_hourR   ?_)
    show V rS g (d + 67) mX10_silence 4 [some (.ref 83), some (.int a), some (.int w), none, none] [.int (b2i (0 ≤ a ∧ a ≤ 23))] (M) Q
    refine V.if_eq (tgt := 17) dX10_silence_4 (by decide) (fun c4 => ?_) (fun c4 => ?_)
    · refine V.aload_n dX10_silence_17 rfl (i := 0) rfl ?_
      refine V.iconst dX10_silence_18 (v := 1) (by decide) ?_
      refine V.invv (z := mX10_finds) (As := [_]) dX10_silence_19 rfl mlRX10_131 okX10_finds npX10_finds rfl rfl rfl ⟨by decide, by decide⟩ (Nat.le_of_ble_eq_true rfl) rfl (Nat.le_of_ble_eq_true rfl) (c_fnd1   ?_)
      show V rS g (d + 67) mX10_silence 22 [some (.ref 83), some (.int a), some (.int w), none, none] [.int (-1000000001 : Int32)] (put (M) 87 1 ((M) 87 1 + 1)) Q
      exact V.ret dX10_silence_22 rfl (hbad h)
    · refine V.iload_n dX10_silence_7 rfl (i := 2) rfl ?_
      refine V.i2l dX10_silence_8 ?_
      refine V.lconst dX10_silence_9 (v := 0) (by decide) ?_
      refine V.lconst dX10_silence_10 (v := 1) (by decide) ?_
      refine V.invs (z := mX10_in) (As := [_, _, _]) dX10_silence_11 rfl mlRX10_66 okX10_in npX10_in rfl (Nat.le_of_ble_eq_true rfl) rfl (Nat.le_of_ble_eq_true rfl) (c_in32 (v := w) (lo := (0 : Int32)) (hi := (1 : Int32)) (by first | rfl | decide) (by first | rfl | decide)   ?_)
      show V rS g (d + 67) mX10_silence 14 [some (.ref 83), some (.int a), some (.int w), none, none] [.int (b2i ((0 : Int32) ≤ w ∧ w ≤ (1 : Int32)))] (M) Q
      refine V.if_ne (tgt := 23) dX10_silence_14 (by decide) (fun c14 => ?_) (fun c14 => ?_)
      · exact absurd ⟨(Classical.byContradiction fun z => c4 (b2i_f z)), (Classical.byContradiction fun z => c14 (b2i_f z))⟩ h
      · refine V.aload_n dX10_silence_17 rfl (i := 0) rfl ?_
        refine V.iconst dX10_silence_18 (v := 1) (by decide) ?_
        refine V.invv (z := mX10_finds) (As := [_]) dX10_silence_19 rfl mlRX10_131 okX10_finds npX10_finds rfl rfl rfl ⟨by decide, by decide⟩ (Nat.le_of_ble_eq_true rfl) rfl (Nat.le_of_ble_eq_true rfl) (c_fnd1   ?_)
        show V rS g (d + 67) mX10_silence 22 [some (.ref 83), some (.int a), some (.int w), none, none] [.int (-1000000001 : Int32)] (put (M) 87 1 ((M) 87 1 + 1)) Q
        exact V.ret dX10_silence_22 rfl (hbad h)

