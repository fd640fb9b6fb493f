/-! ===== clashes ===== -/
def cnts (M : Mem) (n ne : Nat) : Prop := M 1 2 = nI n ∧ n ≤ 8 ∧ M 1 4 = nI ne ∧ ne ≤ 10
theorem VB.cn {M : Mem} {n ne : Nat} (h : VB M n ne) : cnts M n ne := ⟨h.1, h.2.1, h.2.2.1, h.2.2.2.1⟩
theorem cnts.eq {S : List Nat} {M M' : Mem} {n ne : Nat} (h : cnts M n ne) (he : eqx S M M') (h1 : 1 ∉ S) : cnts M' n ne := by
  unfold cnts
  rw [he 1 h1]
  exact h
def absI (x : Int32) : Int32 := if 0 ≤ x then x else 0 - x
/-- do two clash at an ear, by these offsets -/
def clP (hp : Nat → Nat → Bool) (wy : Nat → Nat → Int32) (br : Int32) (a : Nat) (oa : Int32) (b : Nat) (ob : Int32) (e : Nat) : Bool := hp a e && (hp b e && decide (absI (oa + wy a e - ob - wy b e) ≤ br))
def cl2 (hp : Nat → Nat → Bool) (wy : Nat → Nat → Int32) (br : Int32) (off : Nat → Int32) (a b e : Nat) : Bool := clP hp wy br a (off a) b (off b) e
/-- in how many clashes one is -/
def ccF (hp : Nat → Nat → Bool) (wy : Nat → Nat → Int32) (br : Int32) (off : Nat → Int32) (n ne a : Nat) : Int32 := sI (fun b => if b = a then 0 else nI (cB (cl2 hp wy br off a b) ne)) n
theorem fst_le (p : Nat → Bool) : ∀ n, fst p n ≤ n
  | 0 => Nat.le_refl _
  | n + 1 => by
    have := fst_le p n
    unfold fst
    split
    · omega
    · split <;> omega
theorem fst_yes (p : Nat → Bool) : ∀ n, fst p n < n → p (fst p n) = true
  | 0, h => absurd h (Nat.not_lt_zero _)
  | n + 1, h => by
    unfold fst at h ⊢
    by_cases c : fst p n < n
    · rw [if_pos c]; exact fst_yes p n c
    · rw [if_neg c] at h ⊢
      by_cases c2 : p n = true
      · rw [if_pos c2]; exact c2
      · rw [if_neg c2] at h; omega
theorem fst_no (p : Nat → Bool) : ∀ n k, k < fst p n → p k = false
  | 0, k, h => absurd h (Nat.not_lt_zero _)
  | n + 1, k, h => by
    unfold fst at h
    by_cases c : fst p n < n
    · rw [if_pos c] at h; exact fst_no p n k h
    · have e : fst p n = n := by have := fst_le p n; omega
      rw [if_neg c] at h
      by_cases c2 : p n = true
      · rw [if_pos c2] at h; exact fst_no p n k (by omega)
      · rw [if_neg c2] at h
        by_cases c3 : k = n
        · subst c3; simpa using c2
        · exact fst_no p n k (by omega)
theorem fst_is {p : Nat → Bool} {n k : Nat} (hk : k < n) (hp : p k = true) (hno : ∀ j, j < k → p j = false) : fst p n = k := by
  rcases Nat.lt_trichotomy (fst p n) k with h | h | h
  · have h1 := fst_yes p n (by omega)
    rw [hno _ h] at h1
    cases h1
  · exact h
  · have h1 := fst_no p n k h
    rw [hp] at h1
    cases h1
theorem fst_none {p : Nat → Bool} {n : Nat} (h : ¬ fst p n < n) : ∀ k, k < n → p k = false := fun k hk => fst_no p n k (by have := fst_le p n; omega)
theorem fst_cong {p q : Nat → Bool} : ∀ {n : Nat}, (∀ k, k < n → p k = q k) → fst p n = fst q n
  | 0, _ => rfl
  | n + 1, h => by unfold fst; rw [h n (by omega), fst_cong (fun k hk => h k (by omega))]
theorem low_bI {p : Nat → Bool} {n : Nat} (hn : n ≤ 10) (h : fst p n < n) : bcF ((bI p n &&& -(bI p n)) - 1) = nI (fst p n) := by
  have hp := fst_yes p n h
  have hz : nB p n ≠ 0 := by
    intro z
    have t := nB_tb p (fst p n) n
    rw [z] at t
    simp [h, hp] at t
  have hf : fst (fun k => (nB p n).testBit k) 10 = fst p n := by
    refine fst_is (by omega) (by rw [nB_tb]; simp [h, hp]) (fun j hj => ?_)
    rw [nB_tb, fst_no p n j hj, Bool.and_false]
  exact (lowF (nB p n) (Nat.lt_of_lt_of_le (nB_lt p n) (pow_le31 (m := 10) hn)) hz).trans (congrArg nI hf)
theorem bI_fst {p : Nat → Bool} {n : Nat} (hn : n ≤ 10) : bI p n = 0 ↔ ¬ fst p n < n := by
  rw [bI_zero (by omega)]
  constructor
  · intro h c
    have := fst_yes p n c
    rw [h _ c] at this
    cases this
  · exact fst_none
def fcR (cl : Nat → Nat → Nat → Bool) (ne a : Nat) : Nat → Nat → Option Int32
  | 0, _ => none
  | k + 1, b => if fst (cl a b) ne < ne then some (nI (10000 * a + 100 * b + fst (cl a b) ne)) else fcR cl ne a k (b + 1)
def fcA (cl : Nat → Nat → Nat → Bool) (n ne : Nat) : Nat → Nat → Int32
  | 0, _ => -1
  | k + 1, a => match fcR cl ne a (n - (a + 1)) (a + 1) with
    | some v => v
    | none => fcA cl n ne k (a + 1)
/-- the first clash -/
def fcF (cl : Nat → Nat → Nat → Bool) (n ne : Nat) : Int32 := fcA cl n ne n 0
def gpF (hp : Nat → Nat → Bool) (wy : Nat → Nat → Int32) (br : Int32) (a b : Nat) : Nat → Int32
  | 0 => -1000000
  | e + 1 => if hp a e = true ∧ hp b e = true then (if gpF hp wy br a b e < br + 1 + wy a e - wy b e then br + 1 + wy a e - wy b e else gpF hp wy br a b e) else gpF hp wy br a b e
def anB (p : Nat → Bool) : Nat → Bool
  | 0 => false
  | n + 1 => anB p n || p n
theorem anB_iff {p : Nat → Bool} : ∀ {n : Nat}, anB p n = true ↔ ∃ k, k < n ∧ p k = true
  | 0 => ⟨fun h => (by cases h), fun ⟨k, hk, _⟩ => absurd hk (Nat.not_lt_zero k)⟩
  | n + 1 => by
    rw [anB, Bool.or_eq_true, anB_iff]
    constructor
    · rintro (⟨k, h1, h2⟩ | h)
      · exact ⟨k, by omega, h2⟩
      · exact ⟨n, by omega, h⟩
    · rintro ⟨k, h1, h2⟩
      by_cases e : k = n
      · subst e; exact Or.inr h2
      · exact Or.inl ⟨k, by omega, h2⟩
/-- is another bell heard there within a breath of a second -/
def nrP (hp : Nat → Nat → Bool) (wy : Nat → Nat → Int32) (br : Int32) (off : Nat → Int32) (e : Nat) (s bt : Int32) (b : Nat) : Bool := !decide (nI b = bt) && (hp b e && decide (absI (off b + wy b e - s) ≤ br))

set_option maxHeartbeats 4000000 in
set_option maxRecDepth 100000 in
theorem l_eoc {g : GG} {d : Nat} {M : Mem} {Q : Option Value → Mem → Prop} {a b : Nat} {oa ob : Int32} {hp : Nat → Nat → Bool} {wy : Nat → Nat → Int32} {n ne : Nat} (hN : cnts M n ne) (hH : Hd M hp wy n ne) (ha : a < n) (hb : b < n) (hQ : Q (some (.int (bI (clP hp wy (M 1 6) a oa b ob) ne))) M) : ∀ (k e : Nat) (l8 : Option Value), e + k = ne → V cS g (d + 1) mX1_earsOfClash 15 [some (.ref 4), some (.int (nI a)), some (.int oa), some (.int (nI b)), some (.int ob), some (.int (((1 : Int32) <<< ((nI a) &&& 31)) ||| ((1 : Int32) <<< ((nI b) &&& 31)))), some (.int (bI (clP hp wy (M 1 6) a oa b ob) e)), some (.int (nI e)), l8] [] M Q := by
  obtain ⟨hn, h8, hne, h10⟩ := hN
  intro k
  induction k with
  | zero =>
    intro e l8 hk
    obtain rfl : e = ne := by omega
    refine V.fg (ls' := [some (.ref 4), some (.int (nI a)), some (.int oa), some (.int (nI b)), some (.int ob), some (.int (((1 : Int32) <<< ((nI a) &&& 31)) ||| ((1 : Int32) <<< ((nI b) &&& 31)))), some (.int (bI (clP hp wy (M 1 6) a oa b ob) e)), some (.int (nI e)), none]) ⟨rfl, rfl, rfl, rfl, rfl, rfl, rfl, rfl, trivial⟩ ?_
    refine V.iload dX1_earsOfClash_15 rfl ?_
    refine V.aload_n dX1_earsOfClash_17 rfl (i := 0) rfl ?_
    refine V.getR dX1_earsOfClash_18 rfl flRX1_23 rfl ⟨by decide, by decide⟩ ?_
    refine V.getI dX1_earsOfClash_21 rfl flRX1_47 rfl ⟨by decide, by decide⟩ ?_
    refine V.top (x' := (nI e)) (hne) ?_
    refine V.ic_ge (tgt := 98) dX1_earsOfClash_24 (by decide) (fun c24 => ?_) (fun q => absurd ((Int32.le_refl _)) q)
    refine V.iload dX1_earsOfClash_98 rfl ?_
    exact V.ret dX1_earsOfClash_100 rfl (hQ)
  | succ k ih =>
    intro e l8 hk
    have hb8 : b < 8 := by omega
    have ha8 : a < 8 := by omega
    have he10 : e < 10 := by omega
    refine V.fg (ls' := [some (.ref 4), some (.int (nI a)), some (.int oa), some (.int (nI b)), some (.int ob), some (.int (((1 : Int32) <<< ((nI a) &&& 31)) ||| ((1 : Int32) <<< ((nI b) &&& 31)))), some (.int (bI (clP hp wy (M 1 6) a oa b ob) e)), some (.int (nI e)), none]) ⟨rfl, rfl, rfl, rfl, rfl, rfl, rfl, rfl, trivial⟩ ?_
    have hbt := bI_both (p := fun x => hp x e) (n := n) (a := a) (b := b) (by omega) ha hb
    refine V.iload dX1_earsOfClash_15 rfl ?_
    refine V.aload_n dX1_earsOfClash_17 rfl (i := 0) rfl ?_
    refine V.getR dX1_earsOfClash_18 rfl flRX1_23 rfl ⟨by decide, by decide⟩ ?_
    refine V.getI dX1_earsOfClash_21 rfl flRX1_47 rfl ⟨by decide, by decide⟩ ?_
    refine V.top (x' := (nI ne)) (hne) ?_
    refine V.ic_ge (tgt := 98) dX1_earsOfClash_24 (by decide) (fun q => absurd q ((nI_ge (a := e) (b := ne) (by omega) (by omega)))) (fun c24 => ?_)
    refine V.aload_n dX1_earsOfClash_27 rfl (i := 0) rfl ?_
    refine V.getR dX1_earsOfClash_28 rfl flRX1_16 rfl ⟨by decide, by decide⟩ ?_
    refine V.iload dX1_earsOfClash_31 rfl ?_
    refine V.ialdN dX1_earsOfClash_33 rfl ⟨by decide, by decide⟩ (by first | assumption | decide | omega) (by decide) ?_
    refine V.top (x' := (bI (fun x => hp x e) n)) ((hH.1 e (by omega))) ?_
    refine V.iload dX1_earsOfClash_34 rfl ?_
    refine V.iand dX1_earsOfClash_36 ?_
    refine V.iload dX1_earsOfClash_37 rfl ?_
    refine V.ic_ne (tgt := 92) dX1_earsOfClash_39 (by decide) (fun c39 => ?_) (fun c39 => ?_)
    · refine V.lseq (ls' := [some (.ref 4), some (.int (nI a)), some (.int oa), some (.int (nI b)), some (.int ob), some (.int (((1 : Int32) <<< ((nI a) &&& 31)) ||| ((1 : Int32) <<< ((nI b) &&& 31)))), some (.int (bI (clP hp wy (M 1 6) a oa b ob) (e + 1))), some (.int (nI e)), _]) (by first | (rw [bI_f (p := (clP hp wy (M 1 6) a oa b ob)) (by unfold clP; simp only [Bool.and_eq_true]; exact fun q => c39 (hbt.mpr ⟨q.1, q.2.1⟩))]; try rfl) | (rw [bI_f (p := (clP hp wy (M 1 6) a oa b ob)) (by unfold clP; simp only [Bool.and_eq_true]; exact fun q => absurd (of_decide_eq_true q.2.2) (Int32.not_le.mpr c80))]; try rfl) | (rw [bI_t (p := (clP hp wy (M 1 6) a oa b ob)) (by omega) (by unfold clP; simp only [Bool.and_eq_true]; exact ⟨(hbt.mp c39).1, (hbt.mp c39).2, decide_eq_true (Int32.not_lt.mp c80)⟩)]; try rfl)) ?_
      refine V.iinc dX1_earsOfClash_92 rfl (v := (nI (e + 1))) (nI_1 _) (by decide) (fun _ h => by cases h; exact Or.inl rfl) rfl ?_
      refine V.goto dX1_earsOfClash_95 (tgt := 15) (by decide) ?_
      exact ih (e + 1) _ (by omega)
    · refine V.iload_n dX1_earsOfClash_42 rfl (i := 2) rfl ?_
      refine V.aload_n dX1_earsOfClash_43 rfl (i := 0) rfl ?_
      refine V.getR dX1_earsOfClash_44 rfl flRX1_11 rfl ⟨by decide, by decide⟩ ?_
      refine V.iload_n dX1_earsOfClash_47 rfl (i := 1) rfl ?_
      refine V.aaldIN dX1_earsOfClash_48 rfl ⟨by decide, by decide⟩ (by first | assumption | decide | omega) (by decide) ?_
      refine V.iload dX1_earsOfClash_49 rfl ?_
      refine V.ialdN dX1_earsOfClash_51 (layA46 (by first | assumption | decide | omega)) (inB46 (by first | assumption | decide | omega)) (by first | assumption | decide | omega) (by decide) ?_
      refine V.top (x' := (wy a e)) ((hH.2 a e ha (by omega) (hbt.mp c39).1)) ?_
      refine V.iadd dX1_earsOfClash_52 ?_
      refine V.iload dX1_earsOfClash_53 rfl ?_
      refine V.isub dX1_earsOfClash_55 ?_
      refine V.aload_n dX1_earsOfClash_56 rfl (i := 0) rfl ?_
      refine V.getR dX1_earsOfClash_57 rfl flRX1_11 rfl ⟨by decide, by decide⟩ ?_
      refine V.iload_n dX1_earsOfClash_60 rfl (i := 3) rfl ?_
      refine V.aaldIN dX1_earsOfClash_61 rfl ⟨by decide, by decide⟩ (by first | assumption | decide | omega) (by decide) ?_
      refine V.iload dX1_earsOfClash_62 rfl ?_
      refine V.ialdN dX1_earsOfClash_64 (layA46 (by first | assumption | decide | omega)) (inB46 (by first | assumption | decide | omega)) (by first | assumption | decide | omega) (by decide) ?_
      refine V.top (x' := (wy b e)) ((hH.2 b e hb (by omega) (hbt.mp c39).2)) ?_
      refine V.isub dX1_earsOfClash_65 ?_
      refine V.istore dX1_earsOfClash_66 (i := 8) (by decide) (fun _ h => by cases h; exact Or.inl rfl) rfl ?_
      refine V.iload dX1_earsOfClash_68 rfl ?_
      refine V.mabs dX1_earsOfClash_70 rfl mlRX1_50 (Nat.le_of_ble_eq_true rfl) ?_
      refine V.aload_n dX1_earsOfClash_73 rfl (i := 0) rfl ?_
      refine V.getR dX1_earsOfClash_74 rfl flRX1_23 rfl ⟨by decide, by decide⟩ ?_
      refine V.getI dX1_earsOfClash_77 rfl flRX1_56 rfl ⟨by decide, by decide⟩ ?_
      refine V.ic_gt (tgt := 92) dX1_earsOfClash_80 (by decide) (fun c80 => ?_) (fun c80 => ?_)
      · refine V.lseq (ls' := [some (.ref 4), some (.int (nI a)), some (.int oa), some (.int (nI b)), some (.int ob), some (.int (((1 : Int32) <<< ((nI a) &&& 31)) ||| ((1 : Int32) <<< ((nI b) &&& 31)))), some (.int (bI (clP hp wy (M 1 6) a oa b ob) (e + 1))), some (.int (nI e)), _]) (by first | (rw [bI_f (p := (clP hp wy (M 1 6) a oa b ob)) (by unfold clP; simp only [Bool.and_eq_true]; exact fun q => c39 (hbt.mpr ⟨q.1, q.2.1⟩))]; try rfl) | (rw [bI_f (p := (clP hp wy (M 1 6) a oa b ob)) (by unfold clP; simp only [Bool.and_eq_true]; exact fun q => absurd (of_decide_eq_true q.2.2) (Int32.not_le.mpr c80))]; try rfl) | (rw [bI_t (p := (clP hp wy (M 1 6) a oa b ob)) (by omega) (by unfold clP; simp only [Bool.and_eq_true]; exact ⟨(hbt.mp c39).1, (hbt.mp c39).2, decide_eq_true (Int32.not_lt.mp c80)⟩)]; try rfl)) ?_
        refine V.iinc dX1_earsOfClash_92 rfl (v := (nI (e + 1))) (nI_1 _) (by decide) (fun _ h => by cases h; exact Or.inl rfl) rfl ?_
        refine V.goto dX1_earsOfClash_95 (tgt := 15) (by decide) ?_
        exact ih (e + 1) _ (by omega)
      · refine V.iload dX1_earsOfClash_83 rfl ?_
        refine V.iconst dX1_earsOfClash_85 (v := 1) (by decide) ?_
        refine V.iload dX1_earsOfClash_86 rfl ?_
        refine V.ishl dX1_earsOfClash_88 ?_
        refine V.ior dX1_earsOfClash_89 ?_
        refine V.istore dX1_earsOfClash_90 (i := 6) (by decide) (fun _ h => by cases h; exact Or.inl rfl) rfl ?_
        refine V.lseq (ls' := [some (.ref 4), some (.int (nI a)), some (.int oa), some (.int (nI b)), some (.int ob), some (.int (((1 : Int32) <<< ((nI a) &&& 31)) ||| ((1 : Int32) <<< ((nI b) &&& 31)))), some (.int (bI (clP hp wy (M 1 6) a oa b ob) (e + 1))), some (.int (nI e)), _]) (by first | (rw [bI_f (p := (clP hp wy (M 1 6) a oa b ob)) (by unfold clP; simp only [Bool.and_eq_true]; exact fun q => c39 (hbt.mpr ⟨q.1, q.2.1⟩))]; try rfl) | (rw [bI_f (p := (clP hp wy (M 1 6) a oa b ob)) (by unfold clP; simp only [Bool.and_eq_true]; exact fun q => absurd (of_decide_eq_true q.2.2) (Int32.not_le.mpr c80))]; try rfl) | (rw [bI_t (p := (clP hp wy (M 1 6) a oa b ob)) (by omega) (by unfold clP; simp only [Bool.and_eq_true]; exact ⟨(hbt.mp c39).1, (hbt.mp c39).2, decide_eq_true (Int32.not_lt.mp c80)⟩)]; try rfl)) ?_
        refine V.iinc dX1_earsOfClash_92 rfl (v := (nI (e + 1))) (nI_1 _) (by decide) (fun _ h => by cases h; exact Or.inl rfl) rfl ?_
        refine V.goto dX1_earsOfClash_95 (tgt := 15) (by decide) ?_
        exact ih (e + 1) _ (by omega)
set_option maxHeartbeats 4000000 in
set_option maxRecDepth 100000 in
theorem c_eoc4 {g : GG} {d : Nat} {M : Mem} {Q : Option Value → Mem → Prop} {a b : Nat} {oa ob : Int32} {hp : Nat → Nat → Bool} {wy : Nat → Nat → Int32} {n ne : Nat} (hN : cnts M n ne) (hH : Hd M hp wy n ne) (ha : a < n) (hb : b < n) (hQ : Q (some (.int (bI (clP hp wy (M 1 6) a oa b ob) ne))) (M)) : V cS g (d + 1) mX1_earsOfClash 0 [some (.ref 4), some (.int (nI a)), some (.int oa), some (.int (nI b)), some (.int ob), none, none, none, none] [] M Q := by
  refine V.iconst dX1_earsOfClash_0 (v := 1) (by decide) ?_
  refine V.iload_n dX1_earsOfClash_1 rfl (i := 1) rfl ?_
  refine V.ishl dX1_earsOfClash_2 ?_
  refine V.iconst dX1_earsOfClash_3 (v := 1) (by decide) ?_
  refine V.iload_n dX1_earsOfClash_4 rfl (i := 3) rfl ?_
  refine V.ishl dX1_earsOfClash_5 ?_
  refine V.ior dX1_earsOfClash_6 ?_
  refine V.istore dX1_earsOfClash_7 (i := 5) (by decide) (fun _ h => by cases h; exact Or.inl rfl) rfl ?_
  refine V.iconst dX1_earsOfClash_9 (v := 0) (by decide) ?_
  refine V.istore dX1_earsOfClash_10 (i := 6) (by decide) (fun _ h => by cases h; exact Or.inl rfl) rfl ?_
  refine V.iconst dX1_earsOfClash_12 (v := 0) (by decide) ?_
  refine V.istore dX1_earsOfClash_13 (i := 7) (by decide) (fun _ h => by cases h; exact Or.inl rfl) rfl ?_
  exact l_eoc hN hH ha hb hQ ne 0 _ (by omega)
set_option maxHeartbeats 4000000 in
set_option maxRecDepth 100000 in
theorem c_eoc2 {g : GG} {d : Nat} {M : Mem} {Q : Option Value → Mem → Prop} {a b : Nat} {hp : Nat → Nat → Bool} {wy : Nat → Nat → Int32} {n ne : Nat} (hN : cnts M n ne) (hH : Hd M hp wy n ne) (ha : a < n) (hb : b < n) (hQ : Q (some (.int (bI (cl2 hp wy (M 1 6) (fun b => M (30 + b) 4) a b) ne))) M) : V cS g (d + 2) mX1_earsOfClash_ 0 [some (.ref 4), some (.int (nI a)), some (.int (nI b))] [] M Q := by
  have h8 := hN.2.1
  have ha8 : a < 8 := by omega
  have hb8 : b < 8 := by omega
  refine V.aload_n dX1_earsOfClash__0 rfl (i := 0) rfl ?_
  refine V.iload_n dX1_earsOfClash__1 rfl (i := 1) rfl ?_
  refine V.aload_n dX1_earsOfClash__2 rfl (i := 0) rfl ?_
  refine V.getR dX1_earsOfClash__3 rfl flRX1_23 rfl ⟨by decide, by decide⟩ ?_
  refine V.getR dX1_earsOfClash__6 rfl flRX1_33 rfl ⟨by decide, by decide⟩ ?_
  refine V.iload_n dX1_earsOfClash__9 rfl (i := 1) rfl ?_
  refine V.aaldBN dX1_earsOfClash__10 rfl ⟨by decide, by decide⟩ (by first | assumption | decide | omega) (by decide) ?_
  refine V.getI dX1_earsOfClash__11 rfl flRX1_59 (fkB30 (by first | assumption | decide | omega) (by decide)) (inB30 (by first | assumption | decide | omega)) ?_
  refine V.iload_n dX1_earsOfClash__14 rfl (i := 2) rfl ?_
  refine V.aload_n dX1_earsOfClash__15 rfl (i := 0) rfl ?_
  refine V.getR dX1_earsOfClash__16 rfl flRX1_23 rfl ⟨by decide, by decide⟩ ?_
  refine V.getR dX1_earsOfClash__19 rfl flRX1_33 rfl ⟨by decide, by decide⟩ ?_
  refine V.iload_n dX1_earsOfClash__22 rfl (i := 2) rfl ?_
  refine V.aaldBN dX1_earsOfClash__23 rfl ⟨by decide, by decide⟩ (by first | assumption | decide | omega) (by decide) ?_
  refine V.getI dX1_earsOfClash__24 rfl flRX1_59 (fkB30 (by first | assumption | decide | omega) (by decide)) (inB30 (by first | assumption | decide | omega)) ?_
  refine V.invv (z := mX1_earsOfClash) (As := [_, _, _, _]) dX1_earsOfClash__27 rfl mlRX1_62 okX1_earsOfClash npX1_earsOfClash rfl rfl rfl ⟨by decide, by decide⟩ (Nat.le_of_ble_eq_true rfl) rfl (Nat.le_of_ble_eq_true rfl) (c_eoc4 hN hH ha hb ?_)
  show V cS g (d + 2) mX1_earsOfClash_ 30 [some (.ref 4), some (.int (nI a)), some (.int (nI b))] [.int (bI (cl2 hp wy (M 1 6) (fun b => M (30 + b) 4) a b) ne)] M Q
  exact V.ret dX1_earsOfClash__30 rfl (hQ)
set_option maxHeartbeats 4000000 in
set_option maxRecDepth 100000 in
theorem l_cco {g : GG} {d : Nat} {M : Mem} {Q : Option Value → Mem → Prop} {a : Nat} {hp : Nat → Nat → Bool} {wy : Nat → Nat → Int32} {n ne : Nat} (hN : cnts M n ne) (hH : Hd M hp wy n ne) (ha : a < n) (hQ : Q (some (.int (ccF hp wy (M 1 6) (fun b => M (30 + b) 4) n ne a))) M) : ∀ (k i : Nat), i + k = n → V cS g (d + 3) mX1_clashCountOf 4 [some (.ref 4), some (.int (nI a)), some (.int (sI (fun b => if b = a then 0 else nI (cB (cl2 hp wy (M 1 6) (fun b => M (30 + b) 4) a b) ne)) i)), some (.int (nI i))] [] M Q := by
  have hn := hN.1
  have h8 := hN.2.1
  have h10 := hN.2.2.2
  intro k
  induction k with
  | zero =>
    intro i hk
    obtain rfl : i = n := by omega
    refine V.iload_n dX1_clashCountOf_4 rfl (i := 3) rfl ?_
    refine V.aload_n dX1_clashCountOf_5 rfl (i := 0) rfl ?_
    refine V.getR dX1_clashCountOf_6 rfl flRX1_23 rfl ⟨by decide, by decide⟩ ?_
    refine V.getI dX1_clashCountOf_9 rfl flRX1_27 rfl ⟨by decide, by decide⟩ ?_
    refine V.top (x' := (nI i)) (hn) ?_
    refine V.ic_ge (tgt := 38) dX1_clashCountOf_12 (by decide) (fun c12 => ?_) (fun q => absurd ((Int32.le_refl _)) q)
    refine V.iload_n dX1_clashCountOf_38 rfl (i := 2) rfl ?_
    exact V.ret dX1_clashCountOf_39 rfl (hQ)
  | succ k ih =>
    intro i hk
    refine V.iload_n dX1_clashCountOf_4 rfl (i := 3) rfl ?_
    refine V.aload_n dX1_clashCountOf_5 rfl (i := 0) rfl ?_
    refine V.getR dX1_clashCountOf_6 rfl flRX1_23 rfl ⟨by decide, by decide⟩ ?_
    refine V.getI dX1_clashCountOf_9 rfl flRX1_27 rfl ⟨by decide, by decide⟩ ?_
    refine V.top (x' := (nI n)) (hn) ?_
    refine V.ic_ge (tgt := 38) dX1_clashCountOf_12 (by decide) (fun q => absurd q ((nI_ge (a := i) (b := n) (by omega) (by omega)))) (fun c12 => ?_)
    refine V.iload_n dX1_clashCountOf_15 rfl (i := 3) rfl ?_
    refine V.iload_n dX1_clashCountOf_16 rfl (i := 1) rfl ?_
    refine V.ic_eq (tgt := 32) dX1_clashCountOf_17 (by decide) (fun c17 => ?_) (fun c17 => ?_)
    · refine V.lseq (ls' := [some (.ref 4), some (.int (nI a)), some (.int (sI (fun b => if b = a then 0 else nI (cB (cl2 hp wy (M 1 6) (fun b => M (30 + b) 4) a b) ne)) (i + 1))), some (.int (nI i))]) (by first | (rw [sI, if_pos ((nI_eq (by omega) (by omega)).mp c17), Int32.add_zero]; try rfl) | (rw [sI, if_neg (fun q => c17 (by rw [q]))]; try rfl)) ?_
      refine V.iinc dX1_clashCountOf_32 rfl (v := (nI (i + 1))) (nI_1 _) (by decide) (fun _ h => by cases h; exact Or.inl rfl) rfl ?_
      refine V.goto dX1_clashCountOf_35 (tgt := 4) (by decide) ?_
      exact ih (i + 1) (by omega)
    · refine V.iload_n dX1_clashCountOf_20 rfl (i := 2) rfl ?_
      refine V.aload_n dX1_clashCountOf_21 rfl (i := 0) rfl ?_
      refine V.iload_n dX1_clashCountOf_22 rfl (i := 1) rfl ?_
      refine V.iload_n dX1_clashCountOf_23 rfl (i := 3) rfl ?_
      refine V.invv (z := mX1_earsOfClash_) (As := [_, _]) dX1_clashCountOf_24 rfl mlRX1_69 okX1_earsOfClash_ npX1_earsOfClash_ rfl rfl rfl ⟨by decide, by decide⟩ (Nat.le_of_ble_eq_true rfl) rfl (Nat.le_of_ble_eq_true rfl) (c_eoc2 hN hH ha (by omega) ?_)
      show V cS g (d + 3) mX1_clashCountOf 27 [some (.ref 4), some (.int (nI a)), some (.int (sI (fun b => if b = a then 0 else nI (cB (cl2 hp wy (M 1 6) (fun b => M (30 + b) 4) a b) ne)) i)), some (.int (nI i))] [.int (bI (cl2 hp wy (M 1 6) (fun b => M (30 + b) 4) a i) ne), .int (sI (fun b => if b = a then 0 else nI (cB (cl2 hp wy (M 1 6) (fun b => M (30 + b) 4) a b) ne)) i)] M Q
      refine V.invs (z := mJ6_bitCount_0f7a4) (As := [_]) dX1_clashCountOf_27 rfl mlRX1_72 okJ6_bitCount_0f7a4 npJ6_bitCount_0f7a4 rfl (Nat.le_of_ble_eq_true rfl) rfl (Nat.le_of_ble_eq_true rfl) (c_bitCount   ?_)
      show V cS g (d + 3) mX1_clashCountOf 30 [some (.ref 4), some (.int (nI a)), some (.int (sI (fun b => if b = a then 0 else nI (cB (cl2 hp wy (M 1 6) (fun b => M (30 + b) 4) a b) ne)) i)), some (.int (nI i))] [.int (bcF (bI (cl2 hp wy (M 1 6) (fun b => M (30 + b) 4) a i) ne)), .int (sI (fun b => if b = a then 0 else nI (cB (cl2 hp wy (M 1 6) (fun b => M (30 + b) 4) a b) ne)) i)] (M) Q
      refine V.top (x' := (nI (cB (cl2 hp wy (M 1 6) (fun b => M (30 + b) 4) a i) ne))) ((bcF_bI h10)) ?_
      refine V.iadd dX1_clashCountOf_30 ?_
      refine V.istore_n dX1_clashCountOf_31 rfl (i := 2) (by decide) (fun _ h => by cases h; exact Or.inl rfl) rfl ?_
      refine V.lseq (ls' := [some (.ref 4), some (.int (nI a)), some (.int (sI (fun b => if b = a then 0 else nI (cB (cl2 hp wy (M 1 6) (fun b => M (30 + b) 4) a b) ne)) (i + 1))), some (.int (nI i))]) (by first | (rw [sI, if_pos ((nI_eq (by omega) (by omega)).mp c17), Int32.add_zero]; try rfl) | (rw [sI, if_neg (fun q => c17 (by rw [q]))]; try rfl)) ?_
      refine V.iinc dX1_clashCountOf_32 rfl (v := (nI (i + 1))) (nI_1 _) (by decide) (fun _ h => by cases h; exact Or.inl rfl) rfl ?_
      refine V.goto dX1_clashCountOf_35 (tgt := 4) (by decide) ?_
      exact ih (i + 1) (by omega)
set_option maxHeartbeats 4000000 in
set_option maxRecDepth 100000 in
theorem c_cco {g : GG} {d : Nat} {M : Mem} {Q : Option Value → Mem → Prop} {a : Nat} {hp : Nat → Nat → Bool} {wy : Nat → Nat → Int32} {n ne : Nat} (hN : cnts M n ne) (hH : Hd M hp wy n ne) (ha : a < n) (hQ : Q (some (.int (ccF hp wy (M 1 6) (fun b => M (30 + b) 4) n ne a))) M) : V cS g (d + 3) mX1_clashCountOf 0 [some (.ref 4), some (.int (nI a)), none, none] [] M Q := by
  refine V.iconst dX1_clashCountOf_0 (v := 0) (by decide) ?_
  refine V.istore_n dX1_clashCountOf_1 rfl (i := 2) (by decide) (fun _ h => by cases h; exact Or.inl rfl) rfl ?_
  refine V.iconst dX1_clashCountOf_2 (v := 0) (by decide) ?_
  refine V.istore_n dX1_clashCountOf_3 rfl (i := 3) (by decide) (fun _ h => by cases h; exact Or.inl rfl) rfl ?_
  exact l_cco hN hH ha hQ n 0 (by omega)
set_option maxHeartbeats 4000000 in
set_option maxRecDepth 100000 in
theorem l_cc {g : GG} {d : Nat} {M : Mem} {Q : Option Value → Mem → Prop} {hp : Nat → Nat → Bool} {wy : Nat → Nat → Int32} {n ne : Nat} (hN : cnts M n ne) (hH : Hd M hp wy n ne) (hQ : Q (some (.int (sI (fun a => ccF hp wy (M 1 6) (fun b => M (30 + b) 4) n ne a) n / 2))) M) : ∀ (k i : Nat), i + k = n → V cS g (d + 4) mX1_clashCount 4 [some (.ref 4), some (.int (sI (fun a => ccF hp wy (M 1 6) (fun b => M (30 + b) 4) n ne a) i)), some (.int (nI i))] [] M Q := by
  have hn := hN.1
  have h8 := hN.2.1
  intro k
  induction k with
  | zero =>
    intro i hk
    obtain rfl : i = n := by omega
    refine V.iload_n dX1_clashCount_4 rfl (i := 2) rfl ?_
    refine V.aload_n dX1_clashCount_5 rfl (i := 0) rfl ?_
    refine V.getR dX1_clashCount_6 rfl flRX1_23 rfl ⟨by decide, by decide⟩ ?_
    refine V.getI dX1_clashCount_9 rfl flRX1_27 rfl ⟨by decide, by decide⟩ ?_
    refine V.top (x' := (nI i)) (hn) ?_
    refine V.ic_ge (tgt := 29) dX1_clashCount_12 (by decide) (fun c12 => ?_) (fun q => absurd ((Int32.le_refl _)) q)
    refine V.iload_n dX1_clashCount_29 rfl (i := 1) rfl ?_
    refine V.iconst dX1_clashCount_30 (v := 2) (by decide) ?_
    refine V.idiv dX1_clashCount_31 (by first | assumption | decide | omega) ?_
    exact V.ret dX1_clashCount_32 rfl (hQ)
  | succ k ih =>
    intro i hk
    refine V.iload_n dX1_clashCount_4 rfl (i := 2) rfl ?_
    refine V.aload_n dX1_clashCount_5 rfl (i := 0) rfl ?_
    refine V.getR dX1_clashCount_6 rfl flRX1_23 rfl ⟨by decide, by decide⟩ ?_
    refine V.getI dX1_clashCount_9 rfl flRX1_27 rfl ⟨by decide, by decide⟩ ?_
    refine V.top (x' := (nI n)) (hn) ?_
    refine V.ic_ge (tgt := 29) dX1_clashCount_12 (by decide) (fun q => absurd q ((nI_ge (a := i) (b := n) (by omega) (by omega)))) (fun c12 => ?_)
    refine V.iload_n dX1_clashCount_15 rfl (i := 1) rfl ?_
    refine V.aload_n dX1_clashCount_16 rfl (i := 0) rfl ?_
    refine V.iload_n dX1_clashCount_17 rfl (i := 2) rfl ?_
    refine V.invv (z := mX1_clashCountOf) (As := [_]) dX1_clashCount_18 rfl mlRX1_66 okX1_clashCountOf npX1_clashCountOf rfl rfl rfl ⟨by decide, by decide⟩ (Nat.le_of_ble_eq_true rfl) rfl (Nat.le_of_ble_eq_true rfl) (c_cco hN hH (by omega) ?_)
    show V cS g (d + 4) mX1_clashCount 21 [some (.ref 4), some (.int (sI (fun a => ccF hp wy (M 1 6) (fun b => M (30 + b) 4) n ne a) i)), some (.int (nI i))] [.int (ccF hp wy (M 1 6) (fun b => M (30 + b) 4) n ne i), .int (sI (fun a => ccF hp wy (M 1 6) (fun b => M (30 + b) 4) n ne a) i)] M Q
    refine V.iadd dX1_clashCount_21 ?_
    refine V.istore_n dX1_clashCount_22 rfl (i := 1) (by decide) (fun _ h => by cases h; exact Or.inl rfl) rfl ?_
    refine V.iinc dX1_clashCount_23 rfl (v := (nI (i + 1))) (nI_1 _) (by decide) (fun _ h => by cases h; exact Or.inl rfl) rfl ?_
    refine V.goto dX1_clashCount_26 (tgt := 4) (by decide) ?_
    exact ih (i + 1) (by omega)
set_option maxHeartbeats 4000000 in
set_option maxRecDepth 100000 in
theorem c_cc {g : GG} {d : Nat} {M : Mem} {Q : Option Value → Mem → Prop} {hp : Nat → Nat → Bool} {wy : Nat → Nat → Int32} {n ne : Nat} (hN : cnts M n ne) (hH : Hd M hp wy n ne) (hQ : Q (some (.int (sI (fun a => ccF hp wy (M 1 6) (fun b => M (30 + b) 4) n ne a) n / 2))) M) : V cS g (d + 4) mX1_clashCount 0 [some (.ref 4), none, none] [] M Q := by
  refine V.iconst dX1_clashCount_0 (v := 0) (by decide) ?_
  refine V.istore_n dX1_clashCount_1 rfl (i := 1) (by decide) (fun _ h => by cases h; exact Or.inl rfl) rfl ?_
  refine V.iconst dX1_clashCount_2 (v := 0) (by decide) ?_
  refine V.istore_n dX1_clashCount_3 rfl (i := 2) (by decide) (fun _ h => by cases h; exact Or.inl rfl) rfl ?_
  exact l_cc hN hH hQ n 0 (by omega)
set_option maxHeartbeats 4000000 in
set_option maxRecDepth 100000 in
theorem l_fcR {g : GG} {d : Nat} {M : Mem} {Q : Option Value → Mem → Prop} {a : Nat} {hp : Nat → Nat → Bool} {wy : Nat → Nat → Int32} {n ne : Nat} (hN : cnts M n ne) (hH : Hd M hp wy n ne) (ha : a < n) : ∀ (k b : Nat) (l3 l4 : Option Value), b + k = n → (∀ v, fcR (cl2 hp wy (M 1 6) (fun b => M (30 + b) 4)) ne a k b = some v → Q (some (.int v)) M) → (∀ m3 m4, fcR (cl2 hp wy (M 1 6) (fun b => M (30 + b) 4)) ne a k b = none → V cS g (d + 3) mX1_firstClash 70 [some (.ref 4), some (.int (nI a)), some (.int (nI n)), m3, m4] [] M Q) → V cS g (d + 3) mX1_firstClash 17 [some (.ref 4), some (.int (nI a)), some (.int (nI b)), l3, l4] [] M Q := by
  have hn := hN.1
  have h8 := hN.2.1
  have h10 := hN.2.2.2
  intro k
  induction k with
  | zero =>
    intro b l3 l4 hk hs hc
    obtain rfl : b = n := by omega
    refine V.fg (ls' := [some (.ref 4), some (.int (nI a)), some (.int (nI b)), none, none]) ⟨rfl, rfl, rfl, trivial⟩ ?_
    refine V.iload_n dX1_firstClash_17 rfl (i := 2) rfl ?_
    refine V.aload_n dX1_firstClash_18 rfl (i := 0) rfl ?_
    refine V.getR dX1_firstClash_19 rfl flRX1_23 rfl ⟨by decide, by decide⟩ ?_
    refine V.getI dX1_firstClash_22 rfl flRX1_27 rfl ⟨by decide, by decide⟩ ?_
    refine V.top (x' := (nI b)) (hn) ?_
    refine V.ic_ge (tgt := 70) dX1_firstClash_25 (by decide) (fun c25 => ?_) (fun q => absurd ((Int32.le_refl _)) q)
    exact hc _ _ rfl
  | succ k ih =>
    intro b l3 l4 hk hs hc
    refine V.fg (ls' := [some (.ref 4), some (.int (nI a)), some (.int (nI b)), none, none]) ⟨rfl, rfl, rfl, trivial⟩ ?_
    by_cases hf : fst ((cl2 hp wy (M 1 6) (fun b => M (30 + b) 4)) a b) ne < ne
    · skip
      refine V.iload_n dX1_firstClash_17 rfl (i := 2) rfl ?_
      refine V.aload_n dX1_firstClash_18 rfl (i := 0) rfl ?_
      refine V.getR dX1_firstClash_19 rfl flRX1_23 rfl ⟨by decide, by decide⟩ ?_
      refine V.getI dX1_firstClash_22 rfl flRX1_27 rfl ⟨by decide, by decide⟩ ?_
      refine V.top (x' := (nI n)) (hn) ?_
      refine V.ic_ge (tgt := 70) dX1_firstClash_25 (by decide) (fun q => absurd q ((nI_ge (a := b) (b := n) (by omega) (by omega)))) (fun c25 => ?_)
      refine V.aload_n dX1_firstClash_28 rfl (i := 0) rfl ?_
      refine V.iload_n dX1_firstClash_29 rfl (i := 1) rfl ?_
      refine V.iload_n dX1_firstClash_30 rfl (i := 2) rfl ?_
      refine V.invv (z := mX1_earsOfClash_) (As := [_, _]) dX1_firstClash_31 rfl mlRX1_69 okX1_earsOfClash_ npX1_earsOfClash_ rfl rfl rfl ⟨by decide, by decide⟩ (Nat.le_of_ble_eq_true rfl) rfl (Nat.le_of_ble_eq_true rfl) (c_eoc2 hN hH ha (by omega) ?_)
      show V cS g (d + 3) mX1_firstClash 34 [some (.ref 4), some (.int (nI a)), some (.int (nI b)), none, none] [.int (bI ((cl2 hp wy (M 1 6) (fun b => M (30 + b) 4)) a b) ne)] M Q
      refine V.istore_n dX1_firstClash_34 rfl (i := 3) (by decide) (fun _ h => by cases h; exact Or.inl rfl) rfl ?_
      refine V.iload_n dX1_firstClash_35 rfl (i := 3) rfl ?_
      refine V.if_eq (tgt := 64) dX1_firstClash_36 (by decide) (fun q => absurd q ((fun q => (bI_fst h10).mp q hf))) (fun c36 => ?_)
      refine V.iload_n dX1_firstClash_39 rfl (i := 3) rfl ?_
      refine V.iload_n dX1_firstClash_40 rfl (i := 3) rfl ?_
      refine V.ineg dX1_firstClash_41 ?_
      refine V.iand dX1_firstClash_42 ?_
      refine V.iconst dX1_firstClash_43 (v := 1) (by decide) ?_
      refine V.isub dX1_firstClash_44 ?_
      refine V.invs (z := mJ6_bitCount_0f7a4) (As := [_]) dX1_firstClash_45 rfl mlRX1_72 okJ6_bitCount_0f7a4 npJ6_bitCount_0f7a4 rfl (Nat.le_of_ble_eq_true rfl) rfl (Nat.le_of_ble_eq_true rfl) (c_bitCount   ?_)
      show V cS g (d + 3) mX1_firstClash 48 [some (.ref 4), some (.int (nI a)), some (.int (nI b)), some (.int (bI ((cl2 hp wy (M 1 6) (fun b => M (30 + b) 4)) a b) ne)), none] [.int (bcF (((bI ((cl2 hp wy (M 1 6) (fun b => M (30 + b) 4)) a b) ne) &&& (-(bI ((cl2 hp wy (M 1 6) (fun b => M (30 + b) 4)) a b) ne))) - (1 : Int32)))] (M) Q
      refine V.top (x' := (nI (fst ((cl2 hp wy (M 1 6) (fun b => M (30 + b) 4)) a b) ne))) ((low_bI h10 hf)) ?_
      refine V.istore dX1_firstClash_48 (i := 4) (by decide) (fun _ h => by cases h; exact Or.inl rfl) rfl ?_
      refine V.sipush dX1_firstClash_50 (v := 10000) (by decide) ?_
      refine V.iload_n dX1_firstClash_53 rfl (i := 1) rfl ?_
      refine V.imul dX1_firstClash_54 ?_
      refine V.top (x' := (nI (10000 * a))) (pk_mul 10000 a) ?_
      refine V.bipush dX1_firstClash_55 (v := 100) (by decide) ?_
      refine V.iload_n dX1_firstClash_57 rfl (i := 2) rfl ?_
      refine V.imul dX1_firstClash_58 ?_
      refine V.top (x' := (nI (100 * b))) (pk_mul 100 b) ?_
      refine V.iadd dX1_firstClash_59 ?_
      refine V.top (x' := (nI ((10000 * a) + (100 * b)))) (nI_add (10000 * a) (100 * b)) ?_
      refine V.iload dX1_firstClash_60 rfl ?_
      refine V.iadd dX1_firstClash_62 ?_
      refine V.top (x' := (nI (((10000 * a) + (100 * b)) + (fst ((cl2 hp wy (M 1 6) (fun b => M (30 + b) 4)) a b) ne)))) (nI_add ((10000 * a) + (100 * b)) (fst ((cl2 hp wy (M 1 6) (fun b => M (30 + b) 4)) a b) ne)) ?_
      exact V.ret dX1_firstClash_63 rfl (hs _ (by rw [fcR, if_pos hf]))
    · skip
      refine V.iload_n dX1_firstClash_17 rfl (i := 2) rfl ?_
      refine V.aload_n dX1_firstClash_18 rfl (i := 0) rfl ?_
      refine V.getR dX1_firstClash_19 rfl flRX1_23 rfl ⟨by decide, by decide⟩ ?_
      refine V.getI dX1_firstClash_22 rfl flRX1_27 rfl ⟨by decide, by decide⟩ ?_
      refine V.top (x' := (nI n)) (hn) ?_
      refine V.ic_ge (tgt := 70) dX1_firstClash_25 (by decide) (fun q => absurd q ((nI_ge (a := b) (b := n) (by omega) (by omega)))) (fun c25 => ?_)
      refine V.aload_n dX1_firstClash_28 rfl (i := 0) rfl ?_
      refine V.iload_n dX1_firstClash_29 rfl (i := 1) rfl ?_
      refine V.iload_n dX1_firstClash_30 rfl (i := 2) rfl ?_
      refine V.invv (z := mX1_earsOfClash_) (As := [_, _]) dX1_firstClash_31 rfl mlRX1_69 okX1_earsOfClash_ npX1_earsOfClash_ rfl rfl rfl ⟨by decide, by decide⟩ (Nat.le_of_ble_eq_true rfl) rfl (Nat.le_of_ble_eq_true rfl) (c_eoc2 hN hH ha (by omega) ?_)
      show V cS g (d + 3) mX1_firstClash 34 [some (.ref 4), some (.int (nI a)), some (.int (nI b)), none, none] [.int (bI ((cl2 hp wy (M 1 6) (fun b => M (30 + b) 4)) a b) ne)] M Q
      refine V.istore_n dX1_firstClash_34 rfl (i := 3) (by decide) (fun _ h => by cases h; exact Or.inl rfl) rfl ?_
      refine V.iload_n dX1_firstClash_35 rfl (i := 3) rfl ?_
      refine V.if_eq (tgt := 64) dX1_firstClash_36 (by decide) (fun c36 => ?_) (fun q => absurd (((bI_fst h10).mpr hf)) q)
      refine V.iinc dX1_firstClash_64 rfl (v := (nI (b + 1))) (nI_1 _) (by decide) (fun _ h => by cases h; exact Or.inl rfl) rfl ?_
      refine V.goto dX1_firstClash_67 (tgt := 17) (by decide) ?_
      exact ih (b + 1) _ _ (by omega) (fun v hv => hs v (by rw [fcR, if_neg hf]; exact hv)) (fun m3 m4 hv => hc m3 m4 (by rw [fcR, if_neg hf]; exact hv))
set_option maxHeartbeats 4000000 in
set_option maxRecDepth 100000 in
theorem l_fcA {g : GG} {d : Nat} {M : Mem} {Q : Option Value → Mem → Prop} {hp : Nat → Nat → Bool} {wy : Nat → Nat → Int32} {n ne : Nat} (hN : cnts M n ne) (hH : Hd M hp wy n ne) : ∀ (k a : Nat) (l2 l3 l4 : Option Value), a + k = n → Q (some (.int (fcA (cl2 hp wy (M 1 6) (fun b => M (30 + b) 4)) n ne k a))) M → V cS g (d + 3) mX1_firstClash 2 [some (.ref 4), some (.int (nI a)), l2, l3, l4] [] M Q := by
  have hn := hN.1
  have h8 := hN.2.1
  intro k
  induction k with
  | zero =>
    intro a l2 l3 l4 hk hQ
    obtain rfl : a = n := by omega
    refine V.fg (ls' := [some (.ref 4), some (.int (nI a)), none, none, none]) ⟨rfl, rfl, trivial⟩ ?_
    refine V.iload_n dX1_firstClash_2 rfl (i := 1) rfl ?_
    refine V.aload_n dX1_firstClash_3 rfl (i := 0) rfl ?_
    refine V.getR dX1_firstClash_4 rfl flRX1_23 rfl ⟨by decide, by decide⟩ ?_
    refine V.getI dX1_firstClash_7 rfl flRX1_27 rfl ⟨by decide, by decide⟩ ?_
    refine V.top (x' := (nI a)) (hn) ?_
    refine V.ic_ge (tgt := 76) dX1_firstClash_10 (by decide) (fun c10 => ?_) (fun q => absurd ((Int32.le_refl _)) q)
    refine V.iconst dX1_firstClash_76 (v := (-1)) (by decide) ?_
    exact V.ret dX1_firstClash_77 rfl (hQ)
  | succ k ih =>
    intro a l2 l3 l4 hk hQ
    refine V.fg (ls' := [some (.ref 4), some (.int (nI a)), none, none, none]) ⟨rfl, rfl, trivial⟩ ?_
    refine V.iload_n dX1_firstClash_2 rfl (i := 1) rfl ?_
    refine V.aload_n dX1_firstClash_3 rfl (i := 0) rfl ?_
    refine V.getR dX1_firstClash_4 rfl flRX1_23 rfl ⟨by decide, by decide⟩ ?_
    refine V.getI dX1_firstClash_7 rfl flRX1_27 rfl ⟨by decide, by decide⟩ ?_
    refine V.top (x' := (nI n)) (hn) ?_
    refine V.ic_ge (tgt := 76) dX1_firstClash_10 (by decide) (fun q => absurd q ((nI_ge (a := a) (b := n) (by omega) (by omega)))) (fun c10 => ?_)
    refine V.iload_n dX1_firstClash_13 rfl (i := 1) rfl ?_
    refine V.iconst dX1_firstClash_14 (v := 1) (by decide) ?_
    refine V.iadd dX1_firstClash_15 ?_
    refine V.top (x' := (nI (a + 1))) (nI_add a 1) ?_
    refine V.istore_n dX1_firstClash_16 rfl (i := 2) (by decide) (fun _ h => by cases h; exact Or.inl rfl) rfl ?_
    refine l_fcR hN hH (by omega) (n - (a + 1)) (a + 1) _ _ (by omega) (fun v hv => by rw [fcA, hv] at hQ; exact hQ) (fun m3 m4 hv => ?_)
    rw [fcA, hv] at hQ
    refine V.fg (ls' := [some (.ref 4), some (.int (nI a)), some (.int (nI n)), none, none]) ⟨rfl, rfl, rfl, trivial⟩ ?_
    refine V.iinc dX1_firstClash_70 rfl (v := (nI (a + 1))) (nI_1 _) (by decide) (fun _ h => by cases h; exact Or.inl rfl) rfl ?_
    refine V.goto dX1_firstClash_73 (tgt := 2) (by decide) ?_
    exact ih (a + 1) _ _ _ (by omega) hQ
set_option maxHeartbeats 4000000 in
set_option maxRecDepth 100000 in
theorem c_fc {g : GG} {d : Nat} {M : Mem} {Q : Option Value → Mem → Prop} {hp : Nat → Nat → Bool} {wy : Nat → Nat → Int32} {n ne : Nat} (hN : cnts M n ne) (hH : Hd M hp wy n ne) (hQ : Q (some (.int (fcF (cl2 hp wy (M 1 6) (fun b => M (30 + b) 4)) n ne))) M) : V cS g (d + 3) mX1_firstClash 0 [some (.ref 4), none, none, none, none] [] M Q := by
  refine V.iconst dX1_firstClash_0 (v := 0) (by decide) ?_
  refine V.istore_n dX1_firstClash_1 rfl (i := 1) (by decide) (fun _ h => by cases h; exact Or.inl rfl) rfl ?_
  exact l_fcA hN hH n 0 _ _ _ (by omega) hQ

