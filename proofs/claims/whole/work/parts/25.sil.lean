/-! ===== Trials: silence ===== -/
/-- a bell that isn't in the set, with an enemy that isn't -/
def stB (E : Nat → Int32) (s : Int32) (b : Nat) : Bool := decide ((s >>> (nI b &&& 31)) &&& 1 = 0) && !decide (E b &&& (s ^^^ (-1)) = 0)
def enP (hp : Nat → Nat → Bool) (wy : Nat → Nat → Int32) (br : Int32) (off : Nat → Int32) (ne a b : Nat) : Bool := !decide (b = a) && anB (cl2 hp wy br off a b) ne
def csD (R : Nat → Int32) (S : Nat → Bool) : Nat → Nat → Nat
  | 0, b => b
  | k + 1, b => if R k ≤ R b ∧ S k = true then csD R S k k else csD R S k b
theorem all2 : ∀ n, n ≤ 8 → ((1 : Int32) <<< (nI n &&& 31)) - 1 = nI (2 ^ n - 1) := by decide +kernel
theorem p28 : ∀ n, n ≤ 8 → 2 ^ n ≤ 256 := by decide +kernel
theorem p2p : ∀ n : Nat, 0 < 2 ^ n := fun n => Nat.two_pow_pos n
theorem anB_fst {p : Nat → Bool} {n : Nat} : anB p n = true ↔ fst p n < n := by
  rw [anB_iff]
  constructor
  · rintro ⟨k, h1, h2⟩
    refine Classical.byContradiction fun z => ?_
    rw [fst_none z k h1] at h2
    cases h2
  · intro h
    exact ⟨_, h, fst_yes p n h⟩
/-- the ranks of a set -/
def rkF (M : Mem) (n : Nat) (s : Int32) : Int32 := sI (fun b => if (s >>> (nI b &&& 31)) &&& 1 = 0 then 0 else M (30 + b) 5) n

set_option maxHeartbeats 4000000 in
set_option maxRecDepth 100000 in
theorem l_sil {g : GG} {d : Nat} {M : Mem} {Q : Option Value → Mem → Prop} {s : Int32} {n : Nat} (hn : M 1 2 = nI n) (h8 : n ≤ 8) (hQ : Q (some (.int (b2i (¬ anB (stB (M 57) s) n = true)))) M) : ∀ (k i : Nat), i + k = n → anB (stB (M 57) s) i = false → V cS g d mX6_isSilenced 2 [some (.ref 6), some (.int s), some (.int (nI i))] [] M Q := by
  intro k
  induction k with
  | zero =>
    intro i hk hf
    obtain rfl : i = n := by omega
    refine V.iload_n dX6_isSilenced_2 rfl (i := 2) rfl ?_
    refine V.aload_n dX6_isSilenced_3 rfl (i := 0) rfl ?_
    refine V.getR dX6_isSilenced_4 rfl flRX6_21 rfl ⟨by decide, by decide⟩ ?_
    refine V.getI dX6_isSilenced_7 rfl flRX6_29 rfl ⟨by decide, by decide⟩ ?_
    refine V.top (x' := (nI i)) (hn) ?_
    refine V.ic_ge (tgt := 42) dX6_isSilenced_10 (by decide) (fun c10 => ?_) (fun q => absurd ((Int32.le_refl _)) q)
    refine V.iconst dX6_isSilenced_42 (v := 1) (by decide) ?_
    exact V.zret dX6_isSilenced_43 rfl (by first | exact Or.inl rfl | exact Or.inr rfl | assumption | exact b2i_zo _ | (repeat' split) <;> first | exact Or.inl rfl | exact Or.inr rfl | assumption | exact b2i_zo _) (Qi hQ (by rw [b2i_t (by rw [hf]; decide)]))
  | succ k ih =>
    intro i hk hf
    have hi8 : i < 8 := by omega
    have hno : ¬ stB (M 57) s i = true → anB (stB (M 57) s) (i + 1) = false := fun q => by rw [anB, hf, Bool.false_or]; simpa using q
    refine V.iload_n dX6_isSilenced_2 rfl (i := 2) rfl ?_
    refine V.aload_n dX6_isSilenced_3 rfl (i := 0) rfl ?_
    refine V.getR dX6_isSilenced_4 rfl flRX6_21 rfl ⟨by decide, by decide⟩ ?_
    refine V.getI dX6_isSilenced_7 rfl flRX6_29 rfl ⟨by decide, by decide⟩ ?_
    refine V.top (x' := (nI n)) (hn) ?_
    refine V.ic_ge (tgt := 42) dX6_isSilenced_10 (by decide) (fun q => absurd q ((nI_ge (a := i) (b := n) (by omega) (by omega)))) (fun c10 => ?_)
    refine V.iload_n dX6_isSilenced_13 rfl (i := 1) rfl ?_
    refine V.iload_n dX6_isSilenced_14 rfl (i := 2) rfl ?_
    refine V.ishr dX6_isSilenced_15 ?_
    refine V.iconst dX6_isSilenced_16 (v := 1) (by decide) ?_
    refine V.iand dX6_isSilenced_17 ?_
    refine V.if_ne (tgt := 36) dX6_isSilenced_18 (by decide) (fun c18 => ?_) (fun c18 => ?_)
    · refine V.iinc dX6_isSilenced_36 rfl (v := (nI (i + 1))) (nI_1 _) (by decide) (fun _ h => by cases h; exact Or.inl rfl) rfl ?_
      refine V.goto dX6_isSilenced_39 (tgt := 2) (by decide) ?_
      first | exact ih (i + 1) (by omega) (hno (by unfold stB; rw [decide_eq_false c18, Bool.false_and]; exact Bool.false_ne_true)) | exact ih (i + 1) (by omega) (hno (by unfold stB; rw [decide_eq_true c31, Bool.not_true, Bool.and_false]; exact Bool.false_ne_true))
    · refine V.aload_n dX6_isSilenced_21 rfl (i := 0) rfl ?_
      refine V.getR dX6_isSilenced_22 rfl flRX6_9 rfl ⟨by decide, by decide⟩ ?_
      refine V.iload_n dX6_isSilenced_25 rfl (i := 2) rfl ?_
      refine V.ialdN dX6_isSilenced_26 rfl ⟨by decide, by decide⟩ (by first | assumption | decide | omega) (by decide) ?_
      refine V.iload_n dX6_isSilenced_27 rfl (i := 1) rfl ?_
      refine V.iconst dX6_isSilenced_28 (v := (-1)) (by decide) ?_
      refine V.ixor dX6_isSilenced_29 ?_
      refine V.iand dX6_isSilenced_30 ?_
      refine V.if_eq (tgt := 36) dX6_isSilenced_31 (by decide) (fun c31 => ?_) (fun c31 => ?_)
      · refine V.iinc dX6_isSilenced_36 rfl (v := (nI (i + 1))) (nI_1 _) (by decide) (fun _ h => by cases h; exact Or.inl rfl) rfl ?_
        refine V.goto dX6_isSilenced_39 (tgt := 2) (by decide) ?_
        first | exact ih (i + 1) (by omega) (hno (by unfold stB; rw [decide_eq_false c18, Bool.false_and]; exact Bool.false_ne_true)) | exact ih (i + 1) (by omega) (hno (by unfold stB; rw [decide_eq_true c31, Bool.not_true, Bool.and_false]; exact Bool.false_ne_true))
      · refine V.iconst dX6_isSilenced_34 (v := 0) (by decide) ?_
        exact V.zret dX6_isSilenced_35 rfl (by first | exact Or.inl rfl | exact Or.inr rfl | assumption | exact b2i_zo _ | (repeat' split) <;> first | exact Or.inl rfl | exact Or.inr rfl | assumption | exact b2i_zo _) (Qi hQ (by rw [b2i_f (fun z => z (anB_iff.mpr ⟨i, by omega, by unfold stB; rw [decide_eq_true c18, decide_eq_false c31]; rfl⟩))]))
set_option maxHeartbeats 4000000 in
set_option maxRecDepth 100000 in
theorem c_isSil {g : GG} {d : Nat} {M : Mem} {Q : Option Value → Mem → Prop} {s : Int32} {n : Nat} (hn : M 1 2 = nI n) (h8 : n ≤ 8) (hQ : Q (some (.int (b2i (¬ anB (stB (M 57) s) n = true)))) (M)) : V cS g d mX6_isSilenced 0 [some (.ref 6), some (.int s), none] [] M Q := by
  refine V.iconst dX6_isSilenced_0 (v := 0) (by decide) ?_
  refine V.istore_n dX6_isSilenced_1 rfl (i := 2) (by decide) (fun _ h => by cases h; exact Or.inl rfl) rfl ?_
  exact l_sil hn h8 hQ n 0 (by omega) rfl
set_option maxHeartbeats 4000000 in
set_option maxRecDepth 100000 in
theorem l_en1 {g : GG} {d : Nat} {Q : Option Value → Mem → Prop} {M0 : Mem} {hp : Nat → Nat → Bool} {wy : Nat → Nat → Int32} {n ne : Nat} (hN : cnts M0 n ne) (hH : Hd M0 hp wy n ne) {a : Nat} (ha : a < n) (hc : ∀ M', eqx [57] M0 M' → (∀ x, x < a + 1 → M' 57 x = bI (enP hp wy (M0 1 6) (fun b => M0 (30 + b) 4) ne x) n) → V cS g (d + 3) mX6_cheapestSilence 68 [some (.ref 6), some (.int (nI a)), some (.int (nI n)), none, none] [] M' Q) : ∀ (k i : Nat) (M : Mem), i + k = n → eqx [57] M0 M → (∀ x, x < a → M 57 x = bI (enP hp wy (M0 1 6) (fun b => M0 (30 + b) 4) ne x) n) → M 57 a = bI (enP hp wy (M0 1 6) (fun b => M0 (30 + b) 4) ne a) i → V cS g (d + 3) mX6_cheapestSilence 22 [some (.ref 6), some (.int (nI a)), some (.int (nI i)), none, none] [] M Q := by
  intro k
  induction k with
  | zero =>
    intro i M hk he h1 h2
    have hz : M 1 2 = nI n := by rw [he 1 (by decide)]; exact hN.1
    have h8 := hN.2.1
    obtain rfl : i = n := by omega
    refine V.iload_n dX6_cheapestSilence_22 rfl (i := 2) rfl ?_
    refine V.aload_n dX6_cheapestSilence_23 rfl (i := 0) rfl ?_
    refine V.getR dX6_cheapestSilence_24 rfl flRX6_21 rfl ⟨by decide, by decide⟩ ?_
    refine V.getI dX6_cheapestSilence_27 rfl flRX6_29 rfl ⟨by decide, by decide⟩ ?_
    refine V.top (x' := (nI i)) (hz) ?_
    refine V.ic_ge (tgt := 68) dX6_cheapestSilence_30 (by decide) (fun c30 => ?_) (fun q => absurd ((Int32.le_refl _)) q)
    exact hc M he (fun x hx => by by_cases q : x = a; subst q; exact h2; exact h1 x (by omega))
  | succ k ih =>
    intro i M hk he h1 h2
    have hNM : cnts M n ne := hN.eq he (by decide)
    have h8 := hN.2.1
    have h10 := hN.2.2.2
    have hHM : Hd M hp wy n ne := hH.eq he h8 (by decide) (fun b hb => by simp; omega)
    have e1 : M 1 = M0 1 := he 1 (by decide)
    have e30 : ∀ x, x < 8 → M (30 + x) = M0 (30 + x) := fun x hx => he (30 + x) (by simp; omega)
    have hz : M 1 2 = nI n := hNM.1
    have ha8 : a < 8 := by omega
    have hcl : bI (cl2 hp wy (M 1 6) (fun b => M (30 + b) 4) a i) ne = bI (cl2 hp wy (M0 1 6) (fun b => M0 (30 + b) 4) a i) ne := by unfold cl2; dsimp only; rw [e1, e30 a (by omega), e30 i (by omega)]
    refine V.iload_n dX6_cheapestSilence_22 rfl (i := 2) rfl ?_
    refine V.aload_n dX6_cheapestSilence_23 rfl (i := 0) rfl ?_
    refine V.getR dX6_cheapestSilence_24 rfl flRX6_21 rfl ⟨by decide, by decide⟩ ?_
    refine V.getI dX6_cheapestSilence_27 rfl flRX6_29 rfl ⟨by decide, by decide⟩ ?_
    refine V.top (x' := (nI n)) (hz) ?_
    refine V.ic_ge (tgt := 68) dX6_cheapestSilence_30 (by decide) (fun q => absurd q ((nI_ge (a := i) (b := n) (by omega) (by omega)))) (fun c30 => ?_)
    refine V.iload_n dX6_cheapestSilence_33 rfl (i := 2) rfl ?_
    refine V.iload_n dX6_cheapestSilence_34 rfl (i := 1) rfl ?_
    refine V.ic_eq (tgt := 62) dX6_cheapestSilence_35 (by decide) (fun c35 => ?_) (fun c35 => ?_)
    · refine V.iinc dX6_cheapestSilence_62 rfl (v := (nI (i + 1))) (nI_1 _) (by decide) (fun _ h => by cases h; exact Or.inl rfl) rfl ?_
      refine V.goto dX6_cheapestSilence_65 (tgt := 22) (by decide) ?_
      first | exact ih (i + 1) M (by omega) he h1 (by rw [bI_f (p := (enP hp wy (M0 1 6) (fun b => M0 (30 + b) 4) ne a)) (by unfold enP; rw [decide_eq_true ((nI_eq (by omega) (by omega)).mp c35), Bool.not_true, Bool.false_and]; exact Bool.false_ne_true)]; exact h2) | exact ih (i + 1) M (by omega) he h1 (by rw [bI_f (p := (enP hp wy (M0 1 6) (fun b => M0 (30 + b) 4) ne a)) (by unfold enP; rw [Bool.and_eq_true]; exact fun q => (bI_fst h10).mp c47 (anB_fst.mp q.2))]; exact h2) | exact ih (i + 1) _ (by omega) (he.put (by decide)) (fun x hx => by rw [put_n (fun z => by omega)]; exact h1 x hx) (by rw [put_s, h2, bI_t (p := (enP hp wy (M0 1 6) (fun b => M0 (30 + b) 4) ne a)) (by omega) (by unfold enP; rw [Bool.and_eq_true, decide_eq_false (fun q => c35 (by rw [q]))]; exact ⟨rfl, anB_fst.mpr (Classical.byContradiction fun z => c47 ((bI_fst h10).mpr z))⟩)])
    · refine V.aload_n dX6_cheapestSilence_38 rfl (i := 0) rfl ?_
      refine V.getR dX6_cheapestSilence_39 rfl flRX6_25 rfl ⟨by decide, by decide⟩ ?_
      refine V.iload_n dX6_cheapestSilence_42 rfl (i := 1) rfl ?_
      refine V.iload_n dX6_cheapestSilence_43 rfl (i := 2) rfl ?_
      refine V.invv (z := mX1_earsOfClash_) (As := [_, _]) dX6_cheapestSilence_44 rfl mlRX6_35 okX1_earsOfClash_ npX1_earsOfClash_ rfl rfl rfl ⟨by decide, by decide⟩ (Nat.le_of_ble_eq_true rfl) rfl (Nat.le_of_ble_eq_true rfl) (c_eoc2 hNM hHM ha (by omega) ?_)
      show V cS g (d + 3) mX6_cheapestSilence 47 [some (.ref 6), some (.int (nI a)), some (.int (nI i)), none, none] [.int (bI (cl2 hp wy (M 1 6) (fun b => M (30 + b) 4) a i) ne)] M Q
      refine V.top (x' := (bI (cl2 hp wy (M0 1 6) (fun b => M0 (30 + b) 4) a i) ne)) (hcl) ?_
      refine V.if_eq (tgt := 62) dX6_cheapestSilence_47 (by decide) (fun c47 => ?_) (fun c47 => ?_)
      · refine V.iinc dX6_cheapestSilence_62 rfl (v := (nI (i + 1))) (nI_1 _) (by decide) (fun _ h => by cases h; exact Or.inl rfl) rfl ?_
        refine V.goto dX6_cheapestSilence_65 (tgt := 22) (by decide) ?_
        first | exact ih (i + 1) M (by omega) he h1 (by rw [bI_f (p := (enP hp wy (M0 1 6) (fun b => M0 (30 + b) 4) ne a)) (by unfold enP; rw [decide_eq_true ((nI_eq (by omega) (by omega)).mp c35), Bool.not_true, Bool.false_and]; exact Bool.false_ne_true)]; exact h2) | exact ih (i + 1) M (by omega) he h1 (by rw [bI_f (p := (enP hp wy (M0 1 6) (fun b => M0 (30 + b) 4) ne a)) (by unfold enP; rw [Bool.and_eq_true]; exact fun q => (bI_fst h10).mp c47 (anB_fst.mp q.2))]; exact h2) | exact ih (i + 1) _ (by omega) (he.put (by decide)) (fun x hx => by rw [put_n (fun z => by omega)]; exact h1 x hx) (by rw [put_s, h2, bI_t (p := (enP hp wy (M0 1 6) (fun b => M0 (30 + b) 4) ne a)) (by omega) (by unfold enP; rw [Bool.and_eq_true, decide_eq_false (fun q => c35 (by rw [q]))]; exact ⟨rfl, anB_fst.mpr (Classical.byContradiction fun z => c47 ((bI_fst h10).mpr z))⟩)])
      · refine V.aload_n dX6_cheapestSilence_50 rfl (i := 0) rfl ?_
        refine V.getR dX6_cheapestSilence_51 rfl flRX6_9 rfl ⟨by decide, by decide⟩ ?_
        refine V.iload_n dX6_cheapestSilence_54 rfl (i := 1) rfl ?_
        refine V.dup2 dX6_cheapestSilence_55 rfl rfl ?_
        refine V.ialdN dX6_cheapestSilence_56 rfl ⟨by decide, by decide⟩ (by first | assumption | decide | omega) (by decide) ?_
        refine V.iconst dX6_cheapestSilence_57 (v := 1) (by decide) ?_
        refine V.iload_n dX6_cheapestSilence_58 rfl (i := 2) rfl ?_
        refine V.ishl dX6_cheapestSilence_59 ?_
        refine V.ior dX6_cheapestSilence_60 ?_
        refine V.iastN dX6_cheapestSilence_61 rfl ⟨by decide, by decide⟩ (by first | assumption | decide | omega) (by decide) ?_
        refine V.iinc dX6_cheapestSilence_62 rfl (v := (nI (i + 1))) (nI_1 _) (by decide) (fun _ h => by cases h; exact Or.inl rfl) rfl ?_
        refine V.goto dX6_cheapestSilence_65 (tgt := 22) (by decide) ?_
        first | exact ih (i + 1) M (by omega) he h1 (by rw [bI_f (p := (enP hp wy (M0 1 6) (fun b => M0 (30 + b) 4) ne a)) (by unfold enP; rw [decide_eq_true ((nI_eq (by omega) (by omega)).mp c35), Bool.not_true, Bool.false_and]; exact Bool.false_ne_true)]; exact h2) | exact ih (i + 1) M (by omega) he h1 (by rw [bI_f (p := (enP hp wy (M0 1 6) (fun b => M0 (30 + b) 4) ne a)) (by unfold enP; rw [Bool.and_eq_true]; exact fun q => (bI_fst h10).mp c47 (anB_fst.mp q.2))]; exact h2) | exact ih (i + 1) _ (by omega) (he.put (by decide)) (fun x hx => by rw [put_n (fun z => by omega)]; exact h1 x hx) (by rw [put_s, h2, bI_t (p := (enP hp wy (M0 1 6) (fun b => M0 (30 + b) 4) ne a)) (by omega) (by unfold enP; rw [Bool.and_eq_true, decide_eq_false (fun q => c35 (by rw [q]))]; exact ⟨rfl, anB_fst.mpr (Classical.byContradiction fun z => c47 ((bI_fst h10).mpr z))⟩)])
set_option maxHeartbeats 4000000 in
set_option maxRecDepth 100000 in
theorem l_en {g : GG} {d : Nat} {Q : Option Value → Mem → Prop} {M0 : Mem} {hp : Nat → Nat → Bool} {wy : Nat → Nat → Int32} {n ne : Nat} (hN : cnts M0 n ne) (hH : Hd M0 hp wy n ne) (hc : ∀ M', eqx [57] M0 M' → (∀ x, x < n → M' 57 x = bI (enP hp wy (M0 1 6) (fun b => M0 (30 + b) 4) ne x) n) → V cS g (d + 3) mX6_cheapestSilence 74 [some (.ref 6), some (.int (nI n)), none, none, none] [] M' Q) : ∀ (k a : Nat) (M : Mem) (l2 : Option Value), a + k = n → eqx [57] M0 M → (∀ x, x < a → M 57 x = bI (enP hp wy (M0 1 6) (fun b => M0 (30 + b) 4) ne x) n) → V cS g (d + 3) mX6_cheapestSilence 2 [some (.ref 6), some (.int (nI a)), l2, none, none] [] M Q := by
  intro k
  induction k with
  | zero =>
    intro a M l2 hk he h1
    have hz : M 1 2 = nI n := by rw [he 1 (by decide)]; exact hN.1
    obtain rfl : a = n := by omega
    refine V.fg (ls' := [some (.ref 6), some (.int (nI a)), none, none, none]) ⟨rfl, rfl, trivial⟩ ?_
    refine V.iload_n dX6_cheapestSilence_2 rfl (i := 1) rfl ?_
    refine V.aload_n dX6_cheapestSilence_3 rfl (i := 0) rfl ?_
    refine V.getR dX6_cheapestSilence_4 rfl flRX6_21 rfl ⟨by decide, by decide⟩ ?_
    refine V.getI dX6_cheapestSilence_7 rfl flRX6_29 rfl ⟨by decide, by decide⟩ ?_
    refine V.top (x' := (nI a)) (hz) ?_
    refine V.ic_ge (tgt := 74) dX6_cheapestSilence_10 (by decide) (fun c10 => ?_) (fun q => absurd ((Int32.le_refl _)) q)
    exact hc M he h1
  | succ k ih =>
    intro a M l2 hk he h1
    have hNM : cnts M n ne := hN.eq he (by decide)
    have h8 := hN.2.1
    have h10 := hN.2.2.2
    have hHM : Hd M hp wy n ne := hH.eq he h8 (by decide) (fun b hb => by simp; omega)
    have e1 : M 1 = M0 1 := he 1 (by decide)
    have e30 : ∀ x, x < 8 → M (30 + x) = M0 (30 + x) := fun x hx => he (30 + x) (by simp; omega)
    have ha8 : a < 8 := by omega
    refine V.fg (ls' := [some (.ref 6), some (.int (nI a)), none, none, none]) ⟨rfl, rfl, trivial⟩ ?_
    refine V.iload_n dX6_cheapestSilence_2 rfl (i := 1) rfl ?_
    refine V.aload_n dX6_cheapestSilence_3 rfl (i := 0) rfl ?_
    refine V.getR dX6_cheapestSilence_4 rfl flRX6_21 rfl ⟨by decide, by decide⟩ ?_
    refine V.getI dX6_cheapestSilence_7 rfl flRX6_29 rfl ⟨by decide, by decide⟩ ?_
    refine V.top (x' := (nI n)) (hNM.1) ?_
    refine V.ic_ge (tgt := 74) dX6_cheapestSilence_10 (by decide) (fun q => absurd q ((nI_ge (a := a) (b := n) (by omega) (by omega)))) (fun c10 => ?_)
    refine V.aload_n dX6_cheapestSilence_13 rfl (i := 0) rfl ?_
    refine V.getR dX6_cheapestSilence_14 rfl flRX6_9 rfl ⟨by decide, by decide⟩ ?_
    refine V.iload_n dX6_cheapestSilence_17 rfl (i := 1) rfl ?_
    refine V.iconst dX6_cheapestSilence_18 (v := 0) (by decide) ?_
    refine V.iastN dX6_cheapestSilence_19 rfl ⟨by decide, by decide⟩ (by first | assumption | decide | omega) (by decide) ?_
    refine V.iconst dX6_cheapestSilence_20 (v := 0) (by decide) ?_
    refine V.istore_n dX6_cheapestSilence_21 rfl (i := 2) (by decide) (fun _ h => by cases h; exact Or.inl rfl) rfl ?_
    refine l_en1 hN hH (a := a) (by omega) (fun M' he' h1' => ?_) n 0 _ (by omega) (he.put (by decide)) (fun x hx => by rw [put_n (fun z => by omega)]; exact h1 x hx) (by rw [put_s, bI_0])
    refine V.iinc dX6_cheapestSilence_68 rfl (v := (nI (a + 1))) (nI_1 _) (by decide) (fun _ h => by cases h; exact Or.inl rfl) rfl ?_
    refine V.goto dX6_cheapestSilence_71 (tgt := 2) (by decide) ?_
    exact ih (a + 1) M' _ (by omega) he' h1'
set_option maxHeartbeats 4000000 in
set_option maxRecDepth 100000 in
theorem l_cs {g : GG} {d : Nat} {M : Mem} {Q : Option Value → Mem → Prop} {n : Nat} (hn : M 1 2 = nI n) (h8 : n ≤ 8) : ∀ (k b : Nat) (l4 : Option Value), k ≤ 256 → Q (some (.int (nI (csD (fun s => rkF M n (nI s)) (fun s => !anB (stB (M 57) (nI s)) n) k b)))) M → V cS g (d + 3) mX6_cheapestSilence 97 [some (.ref 6), some (.int (nI b)), some (.int (rkF M n (nI b))), some (.int (nI k - 1)), l4] [] M Q := by
  intro k
  induction k with
  | zero =>
    intro b l4 hk hQ
    refine V.fg (ls' := [some (.ref 6), some (.int (nI b)), some (.int (rkF M n (nI b))), some (.int (nI 0 - 1)), none]) ⟨rfl, rfl, rfl, rfl, trivial⟩ ?_
    refine V.iload_n dX6_cheapestSilence_97 rfl (i := 3) rfl ?_
    refine V.if_lt (tgt := 136) dX6_cheapestSilence_98 (by decide) (fun c98 => ?_) (fun q => absurd ((by decide)) q)
    refine V.iload_n dX6_cheapestSilence_136 rfl (i := 1) rfl ?_
    exact V.ret dX6_cheapestSilence_137 rfl (hQ)
  | succ k ih =>
    intro b l4 hk hQ
    refine V.lseq (ls' := [some (.ref 6), some (.int (nI b)), some (.int (rkF M n (nI b))), some (.int (nI k)), l4]) (by rw [nI_pred]) ?_
    refine V.fg (ls' := [some (.ref 6), some (.int (nI b)), some (.int (rkF M n (nI b))), some (.int (nI k)), none]) ⟨rfl, rfl, rfl, rfl, trivial⟩ ?_
    refine V.iload_n dX6_cheapestSilence_97 rfl (i := 3) rfl ?_
    refine V.if_lt (tgt := 136) dX6_cheapestSilence_98 (by decide) (fun q => absurd q ((nI_pos (by omega)))) (fun c98 => ?_)
    refine V.aload_n dX6_cheapestSilence_101 rfl (i := 0) rfl ?_
    refine V.getR dX6_cheapestSilence_102 rfl flRX6_21 rfl ⟨by decide, by decide⟩ ?_
    refine V.iload_n dX6_cheapestSilence_105 rfl (i := 3) rfl ?_
    refine V.invv (z := mX7_ranksOf) (As := [_]) dX6_cheapestSilence_106 rfl mlRX6_41 okX7_ranksOf npX7_ranksOf rfl rfl rfl ⟨by decide, by decide⟩ (Nat.le_of_ble_eq_true rfl) rfl (Nat.le_of_ble_eq_true rfl) (c_ranksOf hn h8 ?_)
    show V cS g (d + 3) mX6_cheapestSilence 109 [some (.ref 6), some (.int (nI b)), some (.int (rkF M n (nI b))), some (.int (nI k)), none] [.int (rkF M n (nI k))] M Q
    refine V.istore dX6_cheapestSilence_109 (i := 4) (by decide) (fun _ h => by cases h; exact Or.inl rfl) rfl ?_
    refine V.iload dX6_cheapestSilence_111 rfl ?_
    refine V.iload_n dX6_cheapestSilence_113 rfl (i := 2) rfl ?_
    refine V.ic_gt (tgt := 130) dX6_cheapestSilence_114 (by decide) (fun c114 => ?_) (fun c114 => ?_)
    · refine V.iinc dX6_cheapestSilence_130 rfl (v := (nI k - 1)) (by rw [Int32.sub_eq_add_neg]; rfl) (by decide) (fun _ h => by cases h; exact Or.inl rfl) rfl ?_
      refine V.goto dX6_cheapestSilence_133 (tgt := 97) (by decide) ?_
      first | exact ih k _ (by omega) (Qi hQ (by rw [csD, if_pos ⟨Int32.not_lt.mp c114, by have : ¬ anB (stB (M 57) (nI k)) n = true := Classical.byContradiction fun z => c122 (b2i_f z); simpa using this⟩])) | exact ih b _ (by omega) (Qi hQ (by rw [csD, if_neg (fun q => absurd q.1 (Int32.not_le.mpr c114))])) | exact ih b _ (by omega) (Qi hQ (by rw [csD, if_neg (fun q => b2i_0.mp c122 (fun z => by have q2 := q.2; simp [z] at q2))]))
    · refine V.aload_n dX6_cheapestSilence_117 rfl (i := 0) rfl ?_
      refine V.iload_n dX6_cheapestSilence_118 rfl (i := 3) rfl ?_
      refine V.invv (z := mX6_isSilenced) (As := [_]) dX6_cheapestSilence_119 rfl mlRX6_45 okX6_isSilenced npX6_isSilenced rfl rfl rfl ⟨by decide, by decide⟩ (Nat.le_of_ble_eq_true rfl) rfl (Nat.le_of_ble_eq_true rfl) (c_isSil hn h8 ?_)
      show V cS g (d + 3) mX6_cheapestSilence 122 [some (.ref 6), some (.int (nI b)), some (.int (rkF M n (nI b))), some (.int (nI k)), some (.int (rkF M n (nI k)))] [.int (b2i (¬ anB (stB (M 57) (nI k)) n = true))] M Q
      refine V.if_eq (tgt := 130) dX6_cheapestSilence_122 (by decide) (fun c122 => ?_) (fun c122 => ?_)
      · refine V.iinc dX6_cheapestSilence_130 rfl (v := (nI k - 1)) (by rw [Int32.sub_eq_add_neg]; rfl) (by decide) (fun _ h => by cases h; exact Or.inl rfl) rfl ?_
        refine V.goto dX6_cheapestSilence_133 (tgt := 97) (by decide) ?_
        first | exact ih k _ (by omega) (Qi hQ (by rw [csD, if_pos ⟨Int32.not_lt.mp c114, by have : ¬ anB (stB (M 57) (nI k)) n = true := Classical.byContradiction fun z => c122 (b2i_f z); simpa using this⟩])) | exact ih b _ (by omega) (Qi hQ (by rw [csD, if_neg (fun q => absurd q.1 (Int32.not_le.mpr c114))])) | exact ih b _ (by omega) (Qi hQ (by rw [csD, if_neg (fun q => b2i_0.mp c122 (fun z => by have q2 := q.2; simp [z] at q2))]))
      · refine V.iload_n dX6_cheapestSilence_125 rfl (i := 3) rfl ?_
        refine V.istore_n dX6_cheapestSilence_126 rfl (i := 1) (by decide) (fun _ h => by cases h; exact Or.inl rfl) rfl ?_
        refine V.iload dX6_cheapestSilence_127 rfl ?_
        refine V.istore_n dX6_cheapestSilence_129 rfl (i := 2) (by decide) (fun _ h => by cases h; exact Or.inl rfl) rfl ?_
        refine V.iinc dX6_cheapestSilence_130 rfl (v := (nI k - 1)) (by rw [Int32.sub_eq_add_neg]; rfl) (by decide) (fun _ h => by cases h; exact Or.inl rfl) rfl ?_
        refine V.goto dX6_cheapestSilence_133 (tgt := 97) (by decide) ?_
        first | exact ih k _ (by omega) (Qi hQ (by rw [csD, if_pos ⟨Int32.not_lt.mp c114, by have : ¬ anB (stB (M 57) (nI k)) n = true := Classical.byContradiction fun z => c122 (b2i_f z); simpa using this⟩])) | exact ih b _ (by omega) (Qi hQ (by rw [csD, if_neg (fun q => absurd q.1 (Int32.not_le.mpr c114))])) | exact ih b _ (by omega) (Qi hQ (by rw [csD, if_neg (fun q => b2i_0.mp c122 (fun z => by have q2 := q.2; simp [z] at q2))]))
set_option maxHeartbeats 4000000 in
set_option maxRecDepth 100000 in
theorem c_cs {g : GG} {d : Nat} {M : Mem} {Q : Option Value → Mem → Prop} {hp : Nat → Nat → Bool} {wy : Nat → Nat → Int32} {n ne : Nat} (hN : cnts M n ne) (hH : Hd M hp wy n ne) (hQ : ∀ M', eqx [57] M M' → Q (some (.int (nI (csD (fun s => rkF M n (nI s)) (fun s => !anB (stB (fun a => bI (enP hp wy (M 1 6) (fun b => M (30 + b) 4) ne a) n) (nI s)) n) (2 ^ n) (2 ^ n - 1))))) M') : V cS g (d + 3) mX6_cheapestSilence 0 [some (.ref 6), none, none, none, none] [] M Q := by
  have h8 := hN.2.1
  refine V.iconst dX6_cheapestSilence_0 (v := 0) (by decide) ?_
  refine V.istore_n dX6_cheapestSilence_1 rfl (i := 1) (by decide) (fun _ h => by cases h; exact Or.inl rfl) rfl ?_
  refine l_en hN hH (fun M1 he1 h1 => ?_) n 0 M _ (by omega) eqx.rf (fun x hx => absurd hx (Nat.not_lt_zero _))
  have hn1 : M1 1 2 = nI n := by rw [he1 1 (by decide)]; exact hN.1
  have hR : ∀ s, rkF M1 n s = rkF M n s := fun s => sI_cong (fun b hb => by rw [he1 (30 + b) (by simp; omega)])
  have hS : (fun s => !anB (stB (M1 57) (nI s)) n) = (fun s => !anB (stB (fun a => bI (enP hp wy (M 1 6) (fun b => M (30 + b) 4) ne a) n) (nI s)) n) := by
    funext s
    congr 1
    exact anB_cong (fun x hx => by unfold stB; rw [h1 x hx])
  have hRR : (fun s => rkF M1 n (nI s)) = (fun s => rkF M n (nI s)) := by funext s; exact hR _
  refine V.iconst dX6_cheapestSilence_74 (v := 1) (by decide) ?_
  refine V.aload_n dX6_cheapestSilence_75 rfl (i := 0) rfl ?_
  refine V.getR dX6_cheapestSilence_76 rfl flRX6_21 rfl ⟨by decide, by decide⟩ ?_
  refine V.getI dX6_cheapestSilence_79 rfl flRX6_29 rfl ⟨by decide, by decide⟩ ?_
  refine V.top (x' := (nI n)) (hn1) ?_
  refine V.ishl dX6_cheapestSilence_82 ?_
  refine V.iconst dX6_cheapestSilence_83 (v := 1) (by decide) ?_
  refine V.isub dX6_cheapestSilence_84 ?_
  refine V.top (x' := (nI (2 ^ n - 1))) ((all2 n h8)) ?_
  refine V.istore_n dX6_cheapestSilence_85 rfl (i := 1) (by decide) (fun _ h => by cases h; exact Or.inl rfl) rfl ?_
  refine V.aload_n dX6_cheapestSilence_86 rfl (i := 0) rfl ?_
  refine V.getR dX6_cheapestSilence_87 rfl flRX6_21 rfl ⟨by decide, by decide⟩ ?_
  refine V.iload_n dX6_cheapestSilence_90 rfl (i := 1) rfl ?_
  refine V.invv (z := mX7_ranksOf) (As := [_]) dX6_cheapestSilence_91 rfl mlRX6_41 okX7_ranksOf npX7_ranksOf rfl rfl rfl ⟨by decide, by decide⟩ (Nat.le_of_ble_eq_true rfl) rfl (Nat.le_of_ble_eq_true rfl) (c_ranksOf hn1 h8 ?_)
  show V cS g (d + 3) mX6_cheapestSilence 94 [some (.ref 6), some (.int (nI (2 ^ n - 1))), none, none, none] [.int (rkF M1 n (nI (2 ^ n - 1)))] M1 Q
  refine V.istore_n dX6_cheapestSilence_94 rfl (i := 2) (by decide) (fun _ h => by cases h; exact Or.inl rfl) rfl ?_
  refine V.iload_n dX6_cheapestSilence_95 rfl (i := 1) rfl ?_
  refine V.istore_n dX6_cheapestSilence_96 rfl (i := 3) (by decide) (fun _ h => by cases h; exact Or.inl rfl) rfl ?_
  exact V.lseq (ls' := [some (.ref 6), some (.int (nI (2 ^ n - 1))), some (.int (rkF M1 n (nI (2 ^ n - 1)))), some (.int (nI (2 ^ n) - 1)), none]) (by have hp := p2p n; rw [show nI (2 ^ n) - 1 = nI (2 ^ n - 1) from by have := nI_pred (2 ^ n - 1); rw [show 2 ^ n - 1 + 1 = 2 ^ n by omega] at this; exact this]; rfl) (l_cs hn1 h8 (2 ^ n) (2 ^ n - 1) none (p28 n h8) (Qi (hQ M1 he1) (by rw [hRR, hS])))

