/-! ===== Valley: counts, sums, hills ===== -/
def sI (f : Nat → Int32) : Nat → Int32
  | 0 => 0
  | n + 1 => sI f n + f n
theorem mn1 {a b : Nat} (ha : a < 2147483648) (h : b ≤ a) : (if nI b < nI a then nI b else nI a) = nI b := by
  by_cases e : b < a
  · rw [if_pos (nI_lt e (by omega))]
  · rw [if_neg (nI_nlt (by omega) (by omega)), show a = b by omega]
theorem mn2 {a b : Nat} (hb : b < 2147483648) (h : a ≤ b) : (if nI b < nI a then nI b else nI a) = nI a := by
  rw [if_neg (nI_nlt h (by omega))]
theorem mx1 {a b : Nat} (ha : a < 2147483648) (h : b ≤ a) : (if nI a < nI b then nI b else nI a) = nI a := by
  rw [if_neg (nI_nlt h (by omega))]
theorem mx2 {a b : Nat} (hb : b < 2147483648) (h : a ≤ b) : (if nI a < nI b then nI b else nI a) = nI b := by
  by_cases e : a < b
  · rw [if_pos (nI_lt e (by omega))]
  · rw [if_neg (nI_nlt (by omega) (by omega)), show a = b by omega]
theorem sI_cong {f h : Nat → Int32} : ∀ {n : Nat}, (∀ k, k < n → f k = h k) → sI f n = sI h n
  | 0, _ => rfl
  | n + 1, e => by rw [sI, sI, sI_cong (fun k hk => e k (by omega)), e n (by omega)]

set_option maxHeartbeats 4000000 in
set_option maxRecDepth 100000 in
theorem l_silent {g : GG} {d : Nat} {M : Mem} {Q : Option Value → Mem → Prop} {n : Nat} (hn : M 1 2 = nI n) (h8 : n ≤ 8) : ∀ (k i : Nat), i + k = n → (Q (some (.int (sI (fun b => M (30 + b) 6) n))) M) → V cS g d mX7_silentCount 4 [some (.ref 1), some (.int (sI (fun b => M (30 + b) 6) i)), some (.int (nI i))] [] M Q := by
  intro k
  induction k with
  | zero =>
    intro i hk  hQ
    refine V.iload_n dX7_silentCount_4 rfl (i := 2) rfl ?_
    refine V.aload_n dX7_silentCount_5 rfl (i := 0) rfl ?_
    refine V.getI dX7_silentCount_6 rfl flRX7_64 rfl ⟨by decide, by decide⟩ ?_
    refine V.top (x' := (nI n)) (hn) ?_
    refine V.ic_ge (tgt := 30) dX7_silentCount_9 (by decide) (fun c9 => ?_) (fun q => absurd ((nI_le (a := n) (b := i) (by omega) (by omega))) q)
    refine V.iload_n dX7_silentCount_30 rfl (i := 1) rfl ?_
    exact V.ret dX7_silentCount_31 rfl (Qi hQ (by rw [show i = n by omega]))
  | succ k ih =>
    intro i hk  hQ
    refine V.iload_n dX7_silentCount_4 rfl (i := 2) rfl ?_
    refine V.aload_n dX7_silentCount_5 rfl (i := 0) rfl ?_
    refine V.getI dX7_silentCount_6 rfl flRX7_64 rfl ⟨by decide, by decide⟩ ?_
    refine V.top (x' := (nI n)) (hn) ?_
    refine V.ic_ge (tgt := 30) dX7_silentCount_9 (by decide) (fun q => absurd q ((nI_ge (a := i) (b := n) (by omega) (by omega)))) (fun c9 => ?_)
    refine V.iload_n dX7_silentCount_12 rfl (i := 1) rfl ?_
    refine V.aload_n dX7_silentCount_13 rfl (i := 0) rfl ?_
    refine V.getR dX7_silentCount_14 rfl flRX7_17 rfl ⟨by decide, by decide⟩ ?_
    refine V.iload_n dX7_silentCount_17 rfl (i := 2) rfl ?_
    refine V.aaldBN dX7_silentCount_18 rfl ⟨by decide, by decide⟩ (by first | assumption | decide | omega) (by decide) ?_
    refine V.getI dX7_silentCount_19 rfl flRX7_102 (fkB30 (by first | assumption | decide | omega) (by decide)) (inB30 (by first | assumption | decide | omega)) ?_
    refine V.iadd dX7_silentCount_22 ?_
    refine V.istore_n dX7_silentCount_23 rfl (i := 1) (by decide) (fun _ h => by cases h; exact Or.inl rfl) rfl ?_
    refine V.iinc dX7_silentCount_24 rfl (v := (nI (i + 1))) (nI_1 _) (by decide) (fun _ h => by cases h; exact Or.inl rfl) rfl ?_
    refine V.goto dX7_silentCount_27 (tgt := 4) (by decide) ?_
    exact ih (i + 1) (by omega) hQ
set_option maxHeartbeats 4000000 in
set_option maxRecDepth 100000 in
theorem c_silent {g : GG} {d : Nat} {M : Mem} {Q : Option Value → Mem → Prop} {n : Nat} (hn : M 1 2 = nI n) (h8 : n ≤ 8) (hQ : Q (some (.int (sI (fun b => M (30 + b) 6) n))) (M)) : V cS g d mX7_silentCount 0 [some (.ref 1), none, none] [] M Q := by
  refine V.iconst dX7_silentCount_0 (v := 0) (by decide) ?_
  refine V.istore_n dX7_silentCount_1 rfl (i := 1) (by decide) (fun _ h => by cases h; exact Or.inl rfl) rfl ?_
  refine V.iconst dX7_silentCount_2 (v := 0) (by decide) ?_
  refine V.istore_n dX7_silentCount_3 rfl (i := 2) (by decide) (fun _ h => by cases h; exact Or.inl rfl) rfl ?_
  exact l_silent hn h8 n 0 (by omega) hQ
set_option maxHeartbeats 4000000 in
set_option maxRecDepth 100000 in
theorem l_spots {g : GG} {d : Nat} {M : Mem} {Q : Option Value → Mem → Prop} {n : Nat} (hn : M 1 2 = nI n) (h8 : n ≤ 8) : ∀ (k i : Nat), i + k = n → (Q (some (.int (sI (fun b => M (30 + b) 2) n))) M) → V cS g d mX7_spotsTogether 4 [some (.ref 1), some (.int (sI (fun b => M (30 + b) 2) i)), some (.int (nI i))] [] M Q := by
  intro k
  induction k with
  | zero =>
    intro i hk  hQ
    refine V.iload_n dX7_spotsTogether_4 rfl (i := 2) rfl ?_
    refine V.aload_n dX7_spotsTogether_5 rfl (i := 0) rfl ?_
    refine V.getI dX7_spotsTogether_6 rfl flRX7_64 rfl ⟨by decide, by decide⟩ ?_
    refine V.top (x' := (nI n)) (hn) ?_
    refine V.ic_ge (tgt := 30) dX7_spotsTogether_9 (by decide) (fun c9 => ?_) (fun q => absurd ((nI_le (a := n) (b := i) (by omega) (by omega))) q)
    refine V.iload_n dX7_spotsTogether_30 rfl (i := 1) rfl ?_
    exact V.ret dX7_spotsTogether_31 rfl (Qi hQ (by rw [show i = n by omega]))
  | succ k ih =>
    intro i hk  hQ
    refine V.iload_n dX7_spotsTogether_4 rfl (i := 2) rfl ?_
    refine V.aload_n dX7_spotsTogether_5 rfl (i := 0) rfl ?_
    refine V.getI dX7_spotsTogether_6 rfl flRX7_64 rfl ⟨by decide, by decide⟩ ?_
    refine V.top (x' := (nI n)) (hn) ?_
    refine V.ic_ge (tgt := 30) dX7_spotsTogether_9 (by decide) (fun q => absurd q ((nI_ge (a := i) (b := n) (by omega) (by omega)))) (fun c9 => ?_)
    refine V.iload_n dX7_spotsTogether_12 rfl (i := 1) rfl ?_
    refine V.aload_n dX7_spotsTogether_13 rfl (i := 0) rfl ?_
    refine V.getR dX7_spotsTogether_14 rfl flRX7_17 rfl ⟨by decide, by decide⟩ ?_
    refine V.iload_n dX7_spotsTogether_17 rfl (i := 2) rfl ?_
    refine V.aaldBN dX7_spotsTogether_18 rfl ⟨by decide, by decide⟩ (by first | assumption | decide | omega) (by decide) ?_
    refine V.getI dX7_spotsTogether_19 rfl flRX7_108 (fkB30 (by first | assumption | decide | omega) (by decide)) (inB30 (by first | assumption | decide | omega)) ?_
    refine V.iadd dX7_spotsTogether_22 ?_
    refine V.istore_n dX7_spotsTogether_23 rfl (i := 1) (by decide) (fun _ h => by cases h; exact Or.inl rfl) rfl ?_
    refine V.iinc dX7_spotsTogether_24 rfl (v := (nI (i + 1))) (nI_1 _) (by decide) (fun _ h => by cases h; exact Or.inl rfl) rfl ?_
    refine V.goto dX7_spotsTogether_27 (tgt := 4) (by decide) ?_
    exact ih (i + 1) (by omega) hQ
set_option maxHeartbeats 4000000 in
set_option maxRecDepth 100000 in
theorem c_spots {g : GG} {d : Nat} {M : Mem} {Q : Option Value → Mem → Prop} {n : Nat} (hn : M 1 2 = nI n) (h8 : n ≤ 8) (hQ : Q (some (.int (sI (fun b => M (30 + b) 2) n))) (M)) : V cS g d mX7_spotsTogether 0 [some (.ref 1), none, none] [] M Q := by
  refine V.iconst dX7_spotsTogether_0 (v := 0) (by decide) ?_
  refine V.istore_n dX7_spotsTogether_1 rfl (i := 1) (by decide) (fun _ h => by cases h; exact Or.inl rfl) rfl ?_
  refine V.iconst dX7_spotsTogether_2 (v := 0) (by decide) ?_
  refine V.istore_n dX7_spotsTogether_3 rfl (i := 2) (by decide) (fun _ h => by cases h; exact Or.inl rfl) rfl ?_
  exact l_spots hn h8 n 0 (by omega) hQ
set_option maxHeartbeats 4000000 in
set_option maxRecDepth 100000 in
theorem l_ranks {g : GG} {d : Nat} {M : Mem} {Q : Option Value → Mem → Prop} {n : Nat} (hn : M 1 2 = nI n) (h8 : n ≤ 8) {s : Int32} : ∀ (k i : Nat), i + k = n → (Q (some (.int (sI (fun b => if (s >>> (nI b &&& 31)) &&& 1 = 0 then 0 else M (30 + b) 5) n))) M) → V cS g d mX7_ranksOf 4 [some (.ref 1), some (.int s), some (.int (sI (fun b => if (s >>> (nI b &&& 31)) &&& 1 = 0 then 0 else M (30 + b) 5) i)), some (.int (nI i))] [] M Q := by
  intro k
  induction k with
  | zero =>
    intro i hk  hQ
    refine V.iload_n dX7_ranksOf_4 rfl (i := 3) rfl ?_
    refine V.aload_n dX7_ranksOf_5 rfl (i := 0) rfl ?_
    refine V.getI dX7_ranksOf_6 rfl flRX7_64 rfl ⟨by decide, by decide⟩ ?_
    refine V.top (x' := (nI n)) (hn) ?_
    refine V.ic_ge (tgt := 38) dX7_ranksOf_9 (by decide) (fun c9 => ?_) (fun q => absurd ((nI_le (a := n) (b := i) (by omega) (by omega))) q)
    refine V.iload_n dX7_ranksOf_38 rfl (i := 2) rfl ?_
    exact V.ret dX7_ranksOf_39 rfl (Qi hQ (by rw [show i = n by omega]))
  | succ k ih =>
    intro i hk  hQ
    refine V.iload_n dX7_ranksOf_4 rfl (i := 3) rfl ?_
    refine V.aload_n dX7_ranksOf_5 rfl (i := 0) rfl ?_
    refine V.getI dX7_ranksOf_6 rfl flRX7_64 rfl ⟨by decide, by decide⟩ ?_
    refine V.top (x' := (nI n)) (hn) ?_
    refine V.ic_ge (tgt := 38) dX7_ranksOf_9 (by decide) (fun q => absurd q ((nI_ge (a := i) (b := n) (by omega) (by omega)))) (fun c9 => ?_)
    refine V.iload_n dX7_ranksOf_12 rfl (i := 1) rfl ?_
    refine V.iload_n dX7_ranksOf_13 rfl (i := 3) rfl ?_
    refine V.ishr dX7_ranksOf_14 ?_
    refine V.iconst dX7_ranksOf_15 (v := 1) (by decide) ?_
    refine V.iand dX7_ranksOf_16 ?_
    refine V.if_eq (tgt := 32) dX7_ranksOf_17 (by decide) (fun c17 => ?_) (fun c17 => ?_)
    · first | refine V.lseq (ls' := [some (.ref 1), some (.int s), some (.int (sI (fun b => if (s >>> (nI b &&& 31)) &&& 1 = 0 then 0 else M (30 + b) 5) (i + 1))), some (.int (nI i))]) (by simp [sI, c17]) ?_ | skip
      refine V.iinc dX7_ranksOf_32 rfl (v := (nI (i + 1))) (nI_1 _) (by decide) (fun _ h => by cases h; exact Or.inl rfl) rfl ?_
      refine V.goto dX7_ranksOf_35 (tgt := 4) (by decide) ?_
      exact ih (i + 1) (by omega) hQ
    · refine V.iload_n dX7_ranksOf_20 rfl (i := 2) rfl ?_
      refine V.aload_n dX7_ranksOf_21 rfl (i := 0) rfl ?_
      refine V.getR dX7_ranksOf_22 rfl flRX7_17 rfl ⟨by decide, by decide⟩ ?_
      refine V.iload_n dX7_ranksOf_25 rfl (i := 3) rfl ?_
      refine V.aaldBN dX7_ranksOf_26 rfl ⟨by decide, by decide⟩ (by first | assumption | decide | omega) (by decide) ?_
      refine V.getI dX7_ranksOf_27 rfl flRX7_105 (fkB30 (by first | assumption | decide | omega) (by decide)) (inB30 (by first | assumption | decide | omega)) ?_
      refine V.iadd dX7_ranksOf_30 ?_
      refine V.istore_n dX7_ranksOf_31 rfl (i := 2) (by decide) (fun _ h => by cases h; exact Or.inl rfl) rfl ?_
      first | refine V.lseq (ls' := [some (.ref 1), some (.int s), some (.int (sI (fun b => if (s >>> (nI b &&& 31)) &&& 1 = 0 then 0 else M (30 + b) 5) (i + 1))), some (.int (nI i))]) (by simp [sI, c17]) ?_ | skip
      refine V.iinc dX7_ranksOf_32 rfl (v := (nI (i + 1))) (nI_1 _) (by decide) (fun _ h => by cases h; exact Or.inl rfl) rfl ?_
      refine V.goto dX7_ranksOf_35 (tgt := 4) (by decide) ?_
      exact ih (i + 1) (by omega) hQ
set_option maxHeartbeats 4000000 in
set_option maxRecDepth 100000 in
theorem c_ranksOf {g : GG} {d : Nat} {M : Mem} {Q : Option Value → Mem → Prop} {n : Nat} {s : Int32} (hn : M 1 2 = nI n) (h8 : n ≤ 8) (hQ : Q (some (.int (sI (fun b => if (s >>> (nI b &&& 31)) &&& 1 = 0 then 0 else M (30 + b) 5) n))) (M)) : V cS g d mX7_ranksOf 0 [some (.ref 1), some (.int s), none, none] [] M Q := by
  refine V.iconst dX7_ranksOf_0 (v := 0) (by decide) ?_
  refine V.istore_n dX7_ranksOf_1 rfl (i := 2) (by decide) (fun _ h => by cases h; exact Or.inl rfl) rfl ?_
  refine V.iconst dX7_ranksOf_2 (v := 0) (by decide) ?_
  refine V.istore_n dX7_ranksOf_3 rfl (i := 3) (by decide) (fun _ h => by cases h; exact Or.inl rfl) rfl ?_
  exact l_ranks hn h8 n 0 (by omega) hQ
set_option maxHeartbeats 4000000 in
set_option maxRecDepth 100000 in
theorem c_draw {g : GG} {d : Nat} {M : Mem} {Q : Option Value → Mem → Prop}   (hQ : Q (some (.int (((Int32.toUInt32 (M 1 12 * 1103515245 + 12345) >>> (Int32.toUInt32 8 &&& Int32.toUInt32 31)).toInt32)))) (put M 1 12 (M 1 12 * 1103515245 + 12345))) : V cS g d mX7_draw 0 [some (.ref 1)] [] M Q := by
  refine V.aload_n dX7_draw_0 rfl (i := 0) rfl ?_
  refine V.aload_n dX7_draw_1 rfl (i := 0) rfl ?_
  refine V.getI dX7_draw_2 rfl flRX7_44 rfl ⟨by decide, by decide⟩ ?_
  refine V.ldc dX7_draw_5 rfl ctRX7_133 ?_
  refine V.imul dX7_draw_7 ?_
  refine V.sipush dX7_draw_8 (v := 12345) (by decide) ?_
  refine V.iadd dX7_draw_11 ?_
  refine V.putI dX7_draw_12 rfl fpRX7_44 rfl ⟨by decide, by decide⟩ ?_
  refine V.aload_n dX7_draw_15 rfl (i := 0) rfl ?_
  refine V.getI dX7_draw_16 rfl flRX7_44 rfl ⟨by decide, by decide⟩ ?_
  refine V.bipush dX7_draw_19 (v := 8) (by decide) ?_
  refine V.iushr dX7_draw_21 ?_
  exact V.ret dX7_draw_22 rfl (Qi hQ (by simp [put]))
set_option maxHeartbeats 4000000 in
set_option maxRecDepth 100000 in
theorem c_addEar {g : GG} {d : Nat} {M : Mem} {Q : Option Value → Mem → Prop} {n : Nat} {s : Int32} (hn : M 1 4 = nI n) (h : n < 10) (hQ : Q none (put (put M 12 n s) 1 4 (nI (n + 1)))) : V cS g d mX7_addEar 0 [some (.ref 1), some (.int s)] [] M Q := by
  refine V.aload_n dX7_addEar_0 rfl (i := 0) rfl ?_
  refine V.getI dX7_addEar_1 rfl flRX7_67 rfl ⟨by decide, by decide⟩ ?_
  refine V.top (x' := (nI n)) (hn) ?_
  refine V.bipush dX7_addEar_4 (v := 10) (by decide) ?_
  refine V.ic_ge (tgt := 29) dX7_addEar_6 (by decide) (fun q => absurd q ((nI_ge (a := n) (b := 10) (by omega) (by omega)))) (fun c6 => ?_)
  refine V.aload_n dX7_addEar_9 rfl (i := 0) rfl ?_
  refine V.getR dX7_addEar_10 rfl flRX7_21 rfl ⟨by decide, by decide⟩ ?_
  refine V.aload_n dX7_addEar_13 rfl (i := 0) rfl ?_
  refine V.getI dX7_addEar_14 rfl flRX7_67 rfl ⟨by decide, by decide⟩ ?_
  refine V.top (x' := (nI n)) (hn) ?_
  refine V.iload_n dX7_addEar_17 rfl (i := 1) rfl ?_
  refine V.iastN dX7_addEar_18 rfl ⟨by decide, by decide⟩ (by first | assumption | decide | omega) (by decide) ?_
  refine V.aload_n dX7_addEar_19 rfl (i := 0) rfl ?_
  refine V.dup dX7_addEar_20 rfl ?_
  refine V.getI dX7_addEar_21 rfl flRX7_67 rfl ⟨by decide, by decide⟩ ?_
  refine V.top (x' := (nI n)) ((by simp [put, hn])) ?_
  refine V.iconst dX7_addEar_24 (v := 1) (by decide) ?_
  refine V.iadd dX7_addEar_25 ?_
  refine V.top (x' := (nI (n + 1))) (nI_add n 1) ?_
  refine V.putI dX7_addEar_26 rfl fpRX7_67 rfl ⟨by decide, by decide⟩ ?_
  exact V.vret dX7_addEar_29 rfl (hQ)
set_option maxHeartbeats 4000000 in
set_option maxRecDepth 100000 in
theorem c_addByte {g : GG} {d : Nat} {M : Mem} {Q : Option Value → Mem → Prop} {n : Nat} {s : Int32} (hn : M 1 9 = nI n) (h : n < 50) (hQ : Q none (put (put M 13 n s) 1 9 (nI (n + 1)))) : V cS g d mX7_addByte 0 [some (.ref 1), some (.int s)] [] M Q := by
  refine V.aload_n dX7_addByte_0 rfl (i := 0) rfl ?_
  refine V.getI dX7_addByte_1 rfl flRX7_73 rfl ⟨by decide, by decide⟩ ?_
  refine V.top (x' := (nI n)) (hn) ?_
  refine V.bipush dX7_addByte_4 (v := 50) (by decide) ?_
  refine V.ic_ge (tgt := 29) dX7_addByte_6 (by decide) (fun q => absurd q ((nI_ge (a := n) (b := 50) (by omega) (by omega)))) (fun c6 => ?_)
  refine V.aload_n dX7_addByte_9 rfl (i := 0) rfl ?_
  refine V.getR dX7_addByte_10 rfl flRX7_31 rfl ⟨by decide, by decide⟩ ?_
  refine V.aload_n dX7_addByte_13 rfl (i := 0) rfl ?_
  refine V.getI dX7_addByte_14 rfl flRX7_73 rfl ⟨by decide, by decide⟩ ?_
  refine V.top (x' := (nI n)) (hn) ?_
  refine V.iload_n dX7_addByte_17 rfl (i := 1) rfl ?_
  refine V.iastN dX7_addByte_18 rfl ⟨by decide, by decide⟩ (by first | assumption | decide | omega) (by decide) ?_
  refine V.aload_n dX7_addByte_19 rfl (i := 0) rfl ?_
  refine V.dup dX7_addByte_20 rfl ?_
  refine V.getI dX7_addByte_21 rfl flRX7_73 rfl ⟨by decide, by decide⟩ ?_
  refine V.top (x' := (nI n)) ((by simp [put, hn])) ?_
  refine V.iconst dX7_addByte_24 (v := 1) (by decide) ?_
  refine V.iadd dX7_addByte_25 ?_
  refine V.top (x' := (nI (n + 1))) (nI_add n 1) ?_
  refine V.putI dX7_addByte_26 rfl fpRX7_73 rfl ⟨by decide, by decide⟩ ?_
  exact V.vret dX7_addByte_29 rfl (hQ)
set_option maxHeartbeats 4000000 in
set_option maxRecDepth 100000 in
theorem l_raise {g : GG} {d : Nat} {Q : Option Value → Mem → Prop} {s : Nat} {v was : Int32} : ∀ (n k : Nat) (M : Mem), k + n = 101 → Q (some (.int was)) (um M 10 (fun i => if k ≤ i ∧ i ≤ 100 then M 10 i + (v - was) else M 10 i)) → V cS g d mX7_raise 21 [some (.ref 1), some (.int (nI s)), some (.int v), some (.int was), some (.int (nI k))] [] M Q := by
  intro n
  induction n with
  | zero =>
    intro k M hk hQ
    obtain rfl : k = 101 := by omega
    refine V.iload dX7_raise_21 rfl ?_
    refine V.bipush dX7_raise_23 (v := 100) (by decide) ?_
    refine V.ic_gt (tgt := 47) dX7_raise_25 (by decide) (fun c25 => ?_) (fun q => absurd ((by decide)) q)
    refine V.iload_n dX7_raise_47 rfl (i := 3) rfl ?_
    exact V.ret dX7_raise_48 rfl (Qm hQ (by funext c i; unfold um; by_cases hc : c = 10 <;> simp [hc]; intro h1 h2; omega))
  | succ n ih =>
    intro k M hk hQ
    refine V.iload dX7_raise_21 rfl ?_
    refine V.bipush dX7_raise_23 (v := 100) (by decide) ?_
    refine V.ic_gt (tgt := 47) dX7_raise_25 (by decide) (fun q => absurd q ((fun q => absurd q (nI_nlt (a := 100) (b := k) (by omega) (by omega))))) (fun c25 => ?_)
    refine V.aload_n dX7_raise_28 rfl (i := 0) rfl ?_
    refine V.getR dX7_raise_29 rfl flRX7_9 rfl ⟨by decide, by decide⟩ ?_
    refine V.iload dX7_raise_32 rfl ?_
    refine V.dup2 dX7_raise_34 rfl rfl ?_
    refine V.ialdN dX7_raise_35 rfl ⟨by decide, by decide⟩ (by first | assumption | decide | omega) (by decide) ?_
    refine V.iload_n dX7_raise_36 rfl (i := 2) rfl ?_
    refine V.iload_n dX7_raise_37 rfl (i := 3) rfl ?_
    refine V.isub dX7_raise_38 ?_
    refine V.iadd dX7_raise_39 ?_
    refine V.iastN dX7_raise_40 rfl ⟨by decide, by decide⟩ (by first | assumption | decide | omega) (by decide) ?_
    refine V.iinc dX7_raise_41 rfl (v := (nI (k + 1))) (nI_1 _) (by decide) (fun _ h => by cases h; exact Or.inl rfl) rfl ?_
    refine V.goto dX7_raise_44 (tgt := 21) (by decide) ?_
    exact ih (k + 1) _ (by omega) (Qm hQ (by funext c i; unfold um put; by_cases hc : c = 10 <;> simp [hc]; by_cases hi : i = k <;> simp [hi] <;> (repeat' split) <;> (try rfl) <;> (try omega) <;> simp_all <;> omega))
set_option maxHeartbeats 4000000 in
set_option maxRecDepth 100000 in
theorem c_raise {g : GG} {d : Nat} {M : Mem} {Q : Option Value → Mem → Prop} {s : Nat} {v : Int32} (h : s < 100) (hQ : Q (some (.int (M 10 (s + 1) - M 10 s))) (um M 10 (fun i => if s + 1 ≤ i ∧ i ≤ 100 then M 10 i + (v - (M 10 (s + 1) - M 10 s)) else M 10 i))) : V cS g d mX7_raise 0 [some (.ref 1), some (.int (nI s)), some (.int v), none, none] [] M Q := by
  refine V.aload_n dX7_raise_0 rfl (i := 0) rfl ?_
  refine V.getR dX7_raise_1 rfl flRX7_9 rfl ⟨by decide, by decide⟩ ?_
  refine V.iload_n dX7_raise_4 rfl (i := 1) rfl ?_
  refine V.iconst dX7_raise_5 (v := 1) (by decide) ?_
  refine V.iadd dX7_raise_6 ?_
  refine V.top (x' := (nI (s + 1))) (nI_add s 1) ?_
  refine V.ialdN dX7_raise_7 rfl ⟨by decide, by decide⟩ (by first | assumption | decide | omega) (by decide) ?_
  refine V.aload_n dX7_raise_8 rfl (i := 0) rfl ?_
  refine V.getR dX7_raise_9 rfl flRX7_9 rfl ⟨by decide, by decide⟩ ?_
  refine V.iload_n dX7_raise_12 rfl (i := 1) rfl ?_
  refine V.ialdN dX7_raise_13 rfl ⟨by decide, by decide⟩ (by first | assumption | decide | omega) (by decide) ?_
  refine V.isub dX7_raise_14 ?_
  refine V.istore_n dX7_raise_15 rfl (i := 3) (by decide) (fun _ h => by cases h; exact Or.inl rfl) rfl ?_
  refine V.iload_n dX7_raise_16 rfl (i := 1) rfl ?_
  refine V.iconst dX7_raise_17 (v := 1) (by decide) ?_
  refine V.iadd dX7_raise_18 ?_
  refine V.top (x' := (nI (s + 1))) (nI_add s 1) ?_
  refine V.istore dX7_raise_19 (i := 4) (by decide) (fun _ h => by cases h; exact Or.inl rfl) rfl ?_
  exact l_raise (100 - s) (s + 1) M (by omega) hQ
set_option maxHeartbeats 4000000 in
set_option maxRecDepth 100000 in
theorem c_hid {g : GG} {d : Nat} {M : Mem} {Q : Option Value → Mem → Prop} {f t : Nat} (hf : f < 100) (ht : t < 100) (hQ : Q (some (.int (if f < t then (if f + 1 < t then M 10 t - M 10 (f + 1) else 0) else (if t + 1 < f then M 10 f - M 10 (t + 1) else 0)))) M) : V cS g (d + 1) mX7_hidBetween 0 [some (.ref 1), some (.int (nI f)), some (.int (nI t)), none, none] [] M Q := by
  by_cases c : f < t
  · rw [if_pos c] at hQ
    by_cases e : f + 1 < t
    · rw [if_pos e] at hQ
      refine V.iload_n dX7_hidBetween_0 rfl (i := 1) rfl ?_
      refine V.iload_n dX7_hidBetween_1 rfl (i := 2) rfl ?_
      refine V.mmin dX7_hidBetween_2 rfl mlRX7_82 (Nat.le_of_ble_eq_true rfl) ?_
      refine V.top (x' := (nI f)) ((mn2 (by omega) (by omega))) ?_
      refine V.iconst dX7_hidBetween_5 (v := 1) (by decide) ?_
      refine V.iadd dX7_hidBetween_6 ?_
      refine V.top (x' := (nI (f + 1))) (nI_add f 1) ?_
      refine V.istore_n dX7_hidBetween_7 rfl (i := 3) (by decide) (fun _ h => by cases h; exact Or.inl rfl) rfl ?_
      refine V.iload_n dX7_hidBetween_8 rfl (i := 1) rfl ?_
      refine V.iload_n dX7_hidBetween_9 rfl (i := 2) rfl ?_
      refine V.mmax dX7_hidBetween_10 rfl mlRX7_88 (Nat.le_of_ble_eq_true rfl) ?_
      refine V.top (x' := (nI t)) ((mx2 (by omega) (by omega))) ?_
      refine V.istore dX7_hidBetween_13 (i := 4) (by decide) (fun _ h => by cases h; exact Or.inl rfl) rfl ?_
      refine V.iload_n dX7_hidBetween_15 rfl (i := 3) rfl ?_
      refine V.iload dX7_hidBetween_16 rfl ?_
      refine V.ic_ge (tgt := 38) dX7_hidBetween_18 (by decide) (fun q => absurd q ((nI_ge (a := f + 1) (b := t) (by omega) (by omega)))) (fun c18 => ?_)
      refine V.aload_n dX7_hidBetween_21 rfl (i := 0) rfl ?_
      refine V.getR dX7_hidBetween_22 rfl flRX7_9 rfl ⟨by decide, by decide⟩ ?_
      refine V.iload dX7_hidBetween_25 rfl ?_
      refine V.ialdN dX7_hidBetween_27 rfl ⟨by decide, by decide⟩ (by first | assumption | decide | omega) (by decide) ?_
      refine V.aload_n dX7_hidBetween_28 rfl (i := 0) rfl ?_
      refine V.getR dX7_hidBetween_29 rfl flRX7_9 rfl ⟨by decide, by decide⟩ ?_
      refine V.iload_n dX7_hidBetween_32 rfl (i := 3) rfl ?_
      refine V.ialdN dX7_hidBetween_33 rfl ⟨by decide, by decide⟩ (by first | assumption | decide | omega) (by decide) ?_
      refine V.isub dX7_hidBetween_34 ?_
      refine V.goto dX7_hidBetween_35 (tgt := 39) (by decide) ?_
      exact V.ret dX7_hidBetween_39 rfl (hQ)
    · rw [if_neg e] at hQ
      refine V.iload_n dX7_hidBetween_0 rfl (i := 1) rfl ?_
      refine V.iload_n dX7_hidBetween_1 rfl (i := 2) rfl ?_
      refine V.mmin dX7_hidBetween_2 rfl mlRX7_82 (Nat.le_of_ble_eq_true rfl) ?_
      refine V.top (x' := (nI f)) ((mn2 (by omega) (by omega))) ?_
      refine V.iconst dX7_hidBetween_5 (v := 1) (by decide) ?_
      refine V.iadd dX7_hidBetween_6 ?_
      refine V.top (x' := (nI (f + 1))) (nI_add f 1) ?_
      refine V.istore_n dX7_hidBetween_7 rfl (i := 3) (by decide) (fun _ h => by cases h; exact Or.inl rfl) rfl ?_
      refine V.iload_n dX7_hidBetween_8 rfl (i := 1) rfl ?_
      refine V.iload_n dX7_hidBetween_9 rfl (i := 2) rfl ?_
      refine V.mmax dX7_hidBetween_10 rfl mlRX7_88 (Nat.le_of_ble_eq_true rfl) ?_
      refine V.top (x' := (nI t)) ((mx2 (by omega) (by omega))) ?_
      refine V.istore dX7_hidBetween_13 (i := 4) (by decide) (fun _ h => by cases h; exact Or.inl rfl) rfl ?_
      refine V.iload_n dX7_hidBetween_15 rfl (i := 3) rfl ?_
      refine V.iload dX7_hidBetween_16 rfl ?_
      refine V.ic_ge (tgt := 38) dX7_hidBetween_18 (by decide) (fun c18 => ?_) (fun q => absurd ((nI_le (a := t) (b := f + 1) (by omega) (by omega))) q)
      refine V.iconst dX7_hidBetween_38 (v := 0) (by decide) ?_
      exact V.ret dX7_hidBetween_39 rfl (hQ)
  · rw [if_neg c] at hQ
    by_cases e : t + 1 < f
    · rw [if_pos e] at hQ
      refine V.iload_n dX7_hidBetween_0 rfl (i := 1) rfl ?_
      refine V.iload_n dX7_hidBetween_1 rfl (i := 2) rfl ?_
      refine V.mmin dX7_hidBetween_2 rfl mlRX7_82 (Nat.le_of_ble_eq_true rfl) ?_
      refine V.top (x' := (nI t)) ((mn1 (by omega) (by omega))) ?_
      refine V.iconst dX7_hidBetween_5 (v := 1) (by decide) ?_
      refine V.iadd dX7_hidBetween_6 ?_
      refine V.top (x' := (nI (t + 1))) (nI_add t 1) ?_
      refine V.istore_n dX7_hidBetween_7 rfl (i := 3) (by decide) (fun _ h => by cases h; exact Or.inl rfl) rfl ?_
      refine V.iload_n dX7_hidBetween_8 rfl (i := 1) rfl ?_
      refine V.iload_n dX7_hidBetween_9 rfl (i := 2) rfl ?_
      refine V.mmax dX7_hidBetween_10 rfl mlRX7_88 (Nat.le_of_ble_eq_true rfl) ?_
      refine V.top (x' := (nI f)) ((mx1 (by omega) (by omega))) ?_
      refine V.istore dX7_hidBetween_13 (i := 4) (by decide) (fun _ h => by cases h; exact Or.inl rfl) rfl ?_
      refine V.iload_n dX7_hidBetween_15 rfl (i := 3) rfl ?_
      refine V.iload dX7_hidBetween_16 rfl ?_
      refine V.ic_ge (tgt := 38) dX7_hidBetween_18 (by decide) (fun q => absurd q ((nI_ge (a := t + 1) (b := f) (by omega) (by omega)))) (fun c18 => ?_)
      refine V.aload_n dX7_hidBetween_21 rfl (i := 0) rfl ?_
      refine V.getR dX7_hidBetween_22 rfl flRX7_9 rfl ⟨by decide, by decide⟩ ?_
      refine V.iload dX7_hidBetween_25 rfl ?_
      refine V.ialdN dX7_hidBetween_27 rfl ⟨by decide, by decide⟩ (by first | assumption | decide | omega) (by decide) ?_
      refine V.aload_n dX7_hidBetween_28 rfl (i := 0) rfl ?_
      refine V.getR dX7_hidBetween_29 rfl flRX7_9 rfl ⟨by decide, by decide⟩ ?_
      refine V.iload_n dX7_hidBetween_32 rfl (i := 3) rfl ?_
      refine V.ialdN dX7_hidBetween_33 rfl ⟨by decide, by decide⟩ (by first | assumption | decide | omega) (by decide) ?_
      refine V.isub dX7_hidBetween_34 ?_
      refine V.goto dX7_hidBetween_35 (tgt := 39) (by decide) ?_
      exact V.ret dX7_hidBetween_39 rfl (hQ)
    · rw [if_neg e] at hQ
      refine V.iload_n dX7_hidBetween_0 rfl (i := 1) rfl ?_
      refine V.iload_n dX7_hidBetween_1 rfl (i := 2) rfl ?_
      refine V.mmin dX7_hidBetween_2 rfl mlRX7_82 (Nat.le_of_ble_eq_true rfl) ?_
      refine V.top (x' := (nI t)) ((mn1 (by omega) (by omega))) ?_
      refine V.iconst dX7_hidBetween_5 (v := 1) (by decide) ?_
      refine V.iadd dX7_hidBetween_6 ?_
      refine V.top (x' := (nI (t + 1))) (nI_add t 1) ?_
      refine V.istore_n dX7_hidBetween_7 rfl (i := 3) (by decide) (fun _ h => by cases h; exact Or.inl rfl) rfl ?_
      refine V.iload_n dX7_hidBetween_8 rfl (i := 1) rfl ?_
      refine V.iload_n dX7_hidBetween_9 rfl (i := 2) rfl ?_
      refine V.mmax dX7_hidBetween_10 rfl mlRX7_88 (Nat.le_of_ble_eq_true rfl) ?_
      refine V.top (x' := (nI f)) ((mx1 (by omega) (by omega))) ?_
      refine V.istore dX7_hidBetween_13 (i := 4) (by decide) (fun _ h => by cases h; exact Or.inl rfl) rfl ?_
      refine V.iload_n dX7_hidBetween_15 rfl (i := 3) rfl ?_
      refine V.iload dX7_hidBetween_16 rfl ?_
      refine V.ic_ge (tgt := 38) dX7_hidBetween_18 (by decide) (fun c18 => ?_) (fun q => absurd ((nI_le (a := f) (b := t + 1) (by omega) (by omega))) q)
      refine V.iconst dX7_hidBetween_38 (v := 0) (by decide) ?_
      exact V.ret dX7_hidBetween_39 rfl (hQ)

