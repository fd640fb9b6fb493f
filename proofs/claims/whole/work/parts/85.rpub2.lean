/-! ===== the reference: ears, feed, way, sheets ===== -/
/-- so many more numbers in a row of d, behind those that are there -/
def rowR (M : Mem) (bs kk : Nat) (f : Nat → Int32) (n i : Nat) : Mem := um M 84 (fun j => if j = kk then nI (n + i) else if bs + n ≤ j ∧ j < bs + n + i then f (j - bs - n) else M 84 j)
theorem rowR_n {M : Mem} {bs kk n i : Nat} {f : Nat → Int32} : rowR M bs kk f n i 84 kk = nI (n + i) := by unfold rowR; rw [um_s, if_pos rfl]
theorem rowR_o {M : Mem} {bs kk n i c : Nat} {f : Nat → Int32} (h : c ≠ 84) : rowR M bs kk f n i c = M c := by unfold rowR; rw [um_n h]
theorem rowR_j {M : Mem} {bs kk n i j : Nat} {f : Nat → Int32} (h : j ≠ kk) (h2 : j < bs + n) : rowR M bs kk f n i 84 j = M 84 j := by unfold rowR; rw [um_s, if_neg h, if_neg (fun z => by omega)]
theorem rowR_0 {M : Mem} {bs kk n : Nat} {f : Nat → Int32} (h : M 84 kk = nI n) : rowR M bs kk f n 0 = M := by
  funext c j
  unfold rowR um
  by_cases h84 : c = 84
  · subst h84
    rw [if_pos rfl]
    by_cases hj : j = kk
    · subst hj; rw [if_pos rfl, h]; rfl
    · rw [if_neg hj, if_neg (fun z => by omega)]
  · rw [if_neg h84]
theorem rowR_s {M : Mem} {bs kk n i : Nat} {f : Nat → Int32} (hk : kk < bs) : put (put (rowR M bs kk f n i) 84 (bs + (n + i)) (f i)) 84 kk (nI (n + i + 1)) = rowR M bs kk f n (i + 1) := by
  funext c j
  by_cases h84 : c = 84
  · subst h84
    by_cases hj : j = kk
    · subst hj
      rw [put_s, rowR_n]
      rfl
    · rw [put_n (fun q => hj q.2)]
      by_cases hj2 : j = bs + (n + i)
      · subst hj2
        rw [put_s]
        unfold rowR
        rw [um_s, if_neg hj, if_pos ⟨by omega, by omega⟩, show bs + (n + i) - bs - n = i by omega]
      · rw [put_n (fun q => hj2 q.2)]
        unfold rowR
        rw [um_s, um_s, if_neg hj, if_neg hj]
        by_cases hq : bs + n ≤ j ∧ j < bs + n + i
        · rw [if_pos hq, if_pos ⟨hq.1, by omega⟩]
        · rw [if_neg hq, if_neg (fun z => hq ⟨z.1, by omega⟩)]
  · rw [put_cell h84, put_cell h84, rowR_o h84, rowR_o h84]

set_option maxHeartbeats 4000000 in
set_option maxRecDepth 100000 in
theorem l_earsR {g : GG} {d : Nat} {M : Mem} {Q : Option Value → Mem → Prop} {s n z : Nat} (hs : s < 4) (hz : M 99 s = nI z) (h40 : z ≤ 40) (h10 : n ≤ 10) (hQ : Q (some (.int (nI (fst (fun i => !spt (M 100 (40 * s + i))) (min z (10 - n)))))) (rowR M 171 104 (fun i => M 100 (40 * s + i)) n (fst (fun i => !spt (M 100 (40 * s + i))) (min z (10 - n))))) : ∀ (k i : Nat), i + k = (min z (10 - n)) → (∀ j, j < i → (fun i => !spt (M 100 (40 * s + i))) j = false) → V rS g (d + 2) mX10_ears 30 [some (.ref 83), some (.int (nI s)), some (.int (nI i))] [] (rowR M 171 104 (fun i => M 100 (40 * s + i)) n i) Q := by
  intro k
  induction k with
  | zero =>
    intro i hk hj
    have hi : i = (min z (10 - n)) := by omega
    have hf : fst (fun i => !spt (M 100 (40 * s + i))) (min z (10 - n)) = i := by rw [fst_all (fun j h => hj j (by omega)), hi]
    rw [hf] at hQ
    by_cases hiz : i = z
    · subst hiz
      refine V.iload_n dX10_ears_30 rfl (i := 2) rfl ?_
      refine V.aload_n dX10_ears_31 rfl (i := 0) rfl ?_
      refine V.getR dX10_ears_32 rfl flRX10_56 rfl ⟨by decide, by decide⟩ ?_
      refine V.iload_n dX10_ears_35 rfl (i := 1) rfl ?_
      refine V.ialdN dX10_ears_36 rfl ⟨by decide, by decide⟩ (by first | assumption | decide | omega) (by decide) ?_
      refine V.top (x' := (nI i)) ((by rw [rowR_o (by decide)]; exact hz)) ?_
      refine V.ic_ge (tgt := 118) dX10_ears_37 (by decide) (fun c37 => ?_) (fun q => absurd ((Int32.le_refl _)) q)
      refine V.iload_n dX10_ears_118 rfl (i := 2) rfl ?_
      exact V.ret dX10_ears_119 rfl (hQ)
    · have h9 : n + i = 10 := by omega
      refine V.iload_n dX10_ears_30 rfl (i := 2) rfl ?_
      refine V.aload_n dX10_ears_31 rfl (i := 0) rfl ?_
      refine V.getR dX10_ears_32 rfl flRX10_56 rfl ⟨by decide, by decide⟩ ?_
      refine V.iload_n dX10_ears_35 rfl (i := 1) rfl ?_
      refine V.ialdN dX10_ears_36 rfl ⟨by decide, by decide⟩ (by first | assumption | decide | omega) (by decide) ?_
      refine V.top (x' := (nI z)) ((by rw [rowR_o (by decide)]; exact hz)) ?_
      refine V.ic_ge (tgt := 118) dX10_ears_37 (by decide) (fun q => absurd q ((nI_ge (a := i) (b := z) (by omega) (by omega)))) (fun c37 => ?_)
      refine V.aload_n dX10_ears_40 rfl (i := 0) rfl ?_
      refine V.getR dX10_ears_41 rfl flRX10_7 rfl ⟨by decide, by decide⟩ ?_
      refine V.bipush dX10_ears_44 (v := 104) (by decide) ?_
      refine V.top (x' := nI 104) (by decide) ?_
      refine V.ialdN dX10_ears_46 rfl ⟨by decide, by decide⟩ (by first | assumption | decide | omega) (by decide) ?_
      refine V.top (x' := (nI 10)) ((by rw [rowR_n, h9])) ?_
      refine V.bipush dX10_ears_47 (v := 10) (by decide) ?_
      refine V.ic_ge (tgt := 118) dX10_ears_49 (by decide) (fun c49 => ?_) (fun q => absurd ((by decide)) q)
      refine V.iload_n dX10_ears_118 rfl (i := 2) rfl ?_
      exact V.ret dX10_ears_119 rfl (hQ)
  | succ k ih =>
    intro i hk hj
    have hi1 : i < z := by omega
    have hi2 : n + i < 10 := by omega
    by_cases hsp : 0 ≤ M 100 (40 * s + i) ∧ M 100 (40 * s + i) ≤ 99
    · skip
      refine V.iload_n dX10_ears_30 rfl (i := 2) rfl ?_
      refine V.aload_n dX10_ears_31 rfl (i := 0) rfl ?_
      refine V.getR dX10_ears_32 rfl flRX10_56 rfl ⟨by decide, by decide⟩ ?_
      refine V.iload_n dX10_ears_35 rfl (i := 1) rfl ?_
      refine V.ialdN dX10_ears_36 rfl ⟨by decide, by decide⟩ (by first | assumption | decide | omega) (by decide) ?_
      refine V.top (x' := (nI z)) ((by rw [rowR_o (by decide)]; exact hz)) ?_
      refine V.ic_ge (tgt := 118) dX10_ears_37 (by decide) (fun q => absurd q ((nI_ge (a := i) (b := z) (by omega) (by omega)))) (fun c37 => ?_)
      refine V.aload_n dX10_ears_40 rfl (i := 0) rfl ?_
      refine V.getR dX10_ears_41 rfl flRX10_7 rfl ⟨by decide, by decide⟩ ?_
      refine V.bipush dX10_ears_44 (v := 104) (by decide) ?_
      refine V.top (x' := nI 104) (by decide) ?_
      refine V.ialdN dX10_ears_46 rfl ⟨by decide, by decide⟩ (by first | assumption | decide | omega) (by decide) ?_
      refine V.top (x' := (nI (n + i))) ((by rw [rowR_n])) ?_
      refine V.bipush dX10_ears_47 (v := 10) (by decide) ?_
      refine V.ic_ge (tgt := 118) dX10_ears_49 (by decide) (fun q => absurd q ((nI_ge (a := n + i) (b := 10) (by omega) (by omega)))) (fun c49 => ?_)
      refine V.aload_n dX10_ears_52 rfl (i := 0) rfl ?_
      refine V.getR dX10_ears_53 rfl flRX10_59 rfl ⟨by decide, by decide⟩ ?_
      refine V.bipush dX10_ears_56 (v := 40) (by decide) ?_
      refine V.iload_n dX10_ears_58 rfl (i := 1) rfl ?_
      refine V.imul dX10_ears_59 ?_
      refine V.top (x' := (nI (40 * s))) (pk_mul 40 s) ?_
      refine V.iload_n dX10_ears_60 rfl (i := 2) rfl ?_
      refine V.iadd dX10_ears_61 ?_
      refine V.top (x' := (nI ((40 * s) + i))) (nI_add (40 * s) i) ?_
      refine V.ialdN dX10_ears_62 rfl ⟨by decide, by decide⟩ (by first | assumption | decide | omega) (by decide) ?_
      refine V.top (x' := (M 100 (40 * s + i))) ((by rw [rowR_o (by decide)])) ?_
      refine V.i2l dX10_ears_63 ?_
      refine V.lconst dX10_ears_64 (v := 0) (by decide) ?_
      refine V.ldc2 dX10_ears_65 rfl clRX10_150 ?_
      refine V.invs (z := mX10_in) (As := [_, _, _]) dX10_ears_68 rfl mlRX10_66 okX10_in npX10_in rfl (Nat.le_of_ble_eq_true rfl) rfl (Nat.le_of_ble_eq_true rfl) (c_in32 (v := (M 100 (40 * s + i))) (lo := (0 : Int32)) (hi := (99 : Int32)) (by first | rfl | decide) (by first | rfl | decide)   ?_)
      show V rS g (d + 2) mX10_ears 71 [some (.ref 83), some (.int (nI s)), some (.int (nI i))] [.int (b2i ((0 : Int32) ≤ ((rowR M 171 104 (fun i => M 100 (40 * s + i)) n i) 100 (40 * s + i)) ∧ ((rowR M 171 104 (fun i => M 100 (40 * s + i)) n i) 100 (40 * s + i)) ≤ (99 : Int32)))] (rowR M 171 104 (fun i => M 100 (40 * s + i)) n i) Q
      refine V.if_eq (tgt := 118) dX10_ears_71 (by decide) (fun q => absurd q ((fun q => b2i_0.mp q hsp))) (fun c71 => ?_)
      refine V.aload_n dX10_ears_74 rfl (i := 0) rfl ?_
      refine V.getR dX10_ears_75 rfl flRX10_7 rfl ⟨by decide, by decide⟩ ?_
      refine V.sipush dX10_ears_78 (v := 171) (by decide) ?_
      refine V.aload_n dX10_ears_81 rfl (i := 0) rfl ?_
      refine V.getR dX10_ears_82 rfl flRX10_7 rfl ⟨by decide, by decide⟩ ?_
      refine V.bipush dX10_ears_85 (v := 104) (by decide) ?_
      refine V.top (x' := nI 104) (by decide) ?_
      refine V.ialdN dX10_ears_87 rfl ⟨by decide, by decide⟩ (by first | assumption | decide | omega) (by decide) ?_
      refine V.top (x' := (nI (n + i))) ((by rw [rowR_n])) ?_
      refine V.iadd dX10_ears_88 ?_
      refine V.top (x' := (nI (171 + (n + i)))) (nI_add 171 (n + i)) ?_
      refine V.aload_n dX10_ears_89 rfl (i := 0) rfl ?_
      refine V.getR dX10_ears_90 rfl flRX10_59 rfl ⟨by decide, by decide⟩ ?_
      refine V.bipush dX10_ears_93 (v := 40) (by decide) ?_
      refine V.iload_n dX10_ears_95 rfl (i := 1) rfl ?_
      refine V.imul dX10_ears_96 ?_
      refine V.top (x' := (nI (40 * s))) (pk_mul 40 s) ?_
      refine V.iload_n dX10_ears_97 rfl (i := 2) rfl ?_
      refine V.iadd dX10_ears_98 ?_
      refine V.top (x' := (nI ((40 * s) + i))) (nI_add (40 * s) i) ?_
      refine V.ialdN dX10_ears_99 rfl ⟨by decide, by decide⟩ (by first | assumption | decide | omega) (by decide) ?_
      refine V.top (x' := (M 100 (40 * s + i))) ((by rw [rowR_o (by decide)])) ?_
      refine V.iastN dX10_ears_100 rfl ⟨by decide, by decide⟩ (by first | assumption | decide | omega) (by decide) ?_
      refine V.aload_n dX10_ears_101 rfl (i := 0) rfl ?_
      refine V.getR dX10_ears_102 rfl flRX10_7 rfl ⟨by decide, by decide⟩ ?_
      refine V.bipush dX10_ears_105 (v := 104) (by decide) ?_
      refine V.dup2 dX10_ears_107 rfl rfl ?_
      refine V.top (x' := nI 104) (by decide) ?_
      refine V.ialdN dX10_ears_108 rfl ⟨by decide, by decide⟩ (by first | assumption | decide | omega) (by decide) ?_
      refine V.top (x' := (nI (n + i))) ((by rw [put_n (fun z => by omega), rowR_n])) ?_
      refine V.iconst dX10_ears_109 (v := 1) (by decide) ?_
      refine V.iadd dX10_ears_110 ?_
      refine V.top (x' := (nI ((n + i) + 1))) (nI_add (n + i) 1) ?_
      refine V.top1 (x' := nI 104) (by decide) ?_
      refine V.iastN dX10_ears_111 rfl ⟨by decide, by decide⟩ (by first | assumption | decide | omega) (by decide) ?_
      refine V.mem (rowR_s (f := (fun i => M 100 (40 * s + i))) (by decide)) ?_
      refine V.iinc dX10_ears_112 rfl (v := (nI (i + 1))) (nI_1 _) (by decide) (fun _ h => by cases h; exact Or.inl rfl) rfl ?_
      refine V.goto dX10_ears_115 (tgt := 30) (by decide) ?_
      exact ih (i + 1) (by omega) (fun j h => by by_cases q : j = i; subst q; show (!spt (M 100 (40 * s + j))) = false; rw [spt_iff.mpr hsp]; rfl; exact hj j (by omega))
    · have hf : fst (fun i => !spt (M 100 (40 * s + i))) (min z (10 - n)) = i := fst_is (by omega) (by show (!spt (M 100 (40 * s + i))) = true; rw [Bool.eq_false_iff.mpr (fun q => hsp (spt_iff.mp q))]; rfl) hj
      rw [hf] at hQ
      refine V.iload_n dX10_ears_30 rfl (i := 2) rfl ?_
      refine V.aload_n dX10_ears_31 rfl (i := 0) rfl ?_
      refine V.getR dX10_ears_32 rfl flRX10_56 rfl ⟨by decide, by decide⟩ ?_
      refine V.iload_n dX10_ears_35 rfl (i := 1) rfl ?_
      refine V.ialdN dX10_ears_36 rfl ⟨by decide, by decide⟩ (by first | assumption | decide | omega) (by decide) ?_
      refine V.top (x' := (nI z)) ((by rw [rowR_o (by decide)]; exact hz)) ?_
      refine V.ic_ge (tgt := 118) dX10_ears_37 (by decide) (fun q => absurd q ((nI_ge (a := i) (b := z) (by omega) (by omega)))) (fun c37 => ?_)
      refine V.aload_n dX10_ears_40 rfl (i := 0) rfl ?_
      refine V.getR dX10_ears_41 rfl flRX10_7 rfl ⟨by decide, by decide⟩ ?_
      refine V.bipush dX10_ears_44 (v := 104) (by decide) ?_
      refine V.top (x' := nI 104) (by decide) ?_
      refine V.ialdN dX10_ears_46 rfl ⟨by decide, by decide⟩ (by first | assumption | decide | omega) (by decide) ?_
      refine V.top (x' := (nI (n + i))) ((by rw [rowR_n])) ?_
      refine V.bipush dX10_ears_47 (v := 10) (by decide) ?_
      refine V.ic_ge (tgt := 118) dX10_ears_49 (by decide) (fun q => absurd q ((nI_ge (a := n + i) (b := 10) (by omega) (by omega)))) (fun c49 => ?_)
      refine V.aload_n dX10_ears_52 rfl (i := 0) rfl ?_
      refine V.getR dX10_ears_53 rfl flRX10_59 rfl ⟨by decide, by decide⟩ ?_
      refine V.bipush dX10_ears_56 (v := 40) (by decide) ?_
      refine V.iload_n dX10_ears_58 rfl (i := 1) rfl ?_
      refine V.imul dX10_ears_59 ?_
      refine V.top (x' := (nI (40 * s))) (pk_mul 40 s) ?_
      refine V.iload_n dX10_ears_60 rfl (i := 2) rfl ?_
      refine V.iadd dX10_ears_61 ?_
      refine V.top (x' := (nI ((40 * s) + i))) (nI_add (40 * s) i) ?_
      refine V.ialdN dX10_ears_62 rfl ⟨by decide, by decide⟩ (by first | assumption | decide | omega) (by decide) ?_
      refine V.top (x' := (M 100 (40 * s + i))) ((by rw [rowR_o (by decide)])) ?_
      refine V.i2l dX10_ears_63 ?_
      refine V.lconst dX10_ears_64 (v := 0) (by decide) ?_
      refine V.ldc2 dX10_ears_65 rfl clRX10_150 ?_
      refine V.invs (z := mX10_in) (As := [_, _, _]) dX10_ears_68 rfl mlRX10_66 okX10_in npX10_in rfl (Nat.le_of_ble_eq_true rfl) rfl (Nat.le_of_ble_eq_true rfl) (c_in32 (v := (M 100 (40 * s + i))) (lo := (0 : Int32)) (hi := (99 : Int32)) (by first | rfl | decide) (by first | rfl | decide)   ?_)
      show V rS g (d + 2) mX10_ears 71 [some (.ref 83), some (.int (nI s)), some (.int (nI i))] [.int (b2i ((0 : Int32) ≤ ((rowR M 171 104 (fun i => M 100 (40 * s + i)) n i) 100 (40 * s + i)) ∧ ((rowR M 171 104 (fun i => M 100 (40 * s + i)) n i) 100 (40 * s + i)) ≤ (99 : Int32)))] (rowR M 171 104 (fun i => M 100 (40 * s + i)) n i) Q
      refine V.if_eq (tgt := 118) dX10_ears_71 (by decide) (fun c71 => ?_) (fun q => absurd ((b2i_f hsp)) q)
      refine V.iload_n dX10_ears_118 rfl (i := 2) rfl ?_
      exact V.ret dX10_ears_119 rfl (hQ)
set_option maxHeartbeats 4000000 in
set_option maxRecDepth 100000 in
theorem c10_ears {g : GG} {d : Nat} {M : Mem} {Q : Option Value → Mem → Prop} {a : Int32} {n : Nat} (hn : M 84 104 = nI n) (h10 : n ≤ 10) (hsz : ∀ s, s < 4 → ∃ z, z ≤ 40 ∧ M 99 s = nI z) (hbad : ¬ (0 ≤ a ∧ a ≤ 3) → Q (some (.int (-1000000001))) (put M 87 1 (M 87 1 + 1))) (hnone : ∀ s, s < 4 → a = nI s → M 98 s = 0 → Q (some (.int (-1000000002))) (put M 87 2 (M 87 2 + 1))) (hok : ∀ s z, s < 4 → a = nI s → ¬ M 98 s = 0 → z ≤ 40 → M 99 s = nI z → Q (some (.int (nI (fst (fun i => !spt (M 100 (40 * s + i))) (min z (10 - n)))))) (rowR M 171 104 (fun i => M 100 (40 * s + i)) n (fst (fun i => !spt (M 100 (40 * s + i))) (min z (10 - n))))) : V rS g (d + 2) mX10_ears 0 [some (.ref 83), some (.int a), none] [] M Q := by
  by_cases h : 0 ≤ a ∧ a ≤ 3
  · obtain ⟨s, hs, rfl⟩ := nI_ex (n := 4) (by omega) h.1 (Int32.lt_of_le_of_lt h.2 (by decide))
    by_cases hm : M 98 s = 0
    · skip
      refine V.iload_n dX10_ears_0 rfl (i := 1) rfl ?_
      refine V.invs (z := mX10_isSheet) (As := [_]) dX10_ears_1 rfl mlRX10_197 okX10_isSheet npX10_isSheet rfl (Nat.le_of_ble_eq_true rfl) rfl (Nat.le_of_ble_eq_true rfl) (c_sheetR   ?_)
      show V rS g (d + 2) mX10_ears 4 [some (.ref 83), some (.int (nI s)), none] [.int (b2i (0 ≤ (nI s) ∧ (nI s) ≤ 3))] (M) Q
      refine V.if_ne (tgt := 13) dX10_ears_4 (by decide) (fun c4 => ?_) (fun q => absurd q ((fun z => b2i_0.mp z h)))
      refine V.aload_n dX10_ears_13 rfl (i := 0) rfl ?_
      refine V.getR dX10_ears_14 rfl flRX10_53 rfl ⟨by decide, by decide⟩ ?_
      refine V.iload_n dX10_ears_17 rfl (i := 1) rfl ?_
      refine V.ialdN dX10_ears_18 rfl ⟨by decide, by decide⟩ (by first | assumption | decide | omega) (by decide) ?_
      refine V.if_ne (tgt := 28) dX10_ears_19 (by decide) (fun q => absurd (hm) q) (fun c19 => ?_)
      refine V.aload_n dX10_ears_22 rfl (i := 0) rfl ?_
      refine V.iconst dX10_ears_23 (v := 2) (by decide) ?_
      refine V.invv (z := mX10_finds) (As := [_]) dX10_ears_24 rfl mlRX10_131 okX10_finds npX10_finds rfl rfl rfl ⟨by decide, by decide⟩ (Nat.le_of_ble_eq_true rfl) rfl (Nat.le_of_ble_eq_true rfl) (c_fnd2   ?_)
      show V rS g (d + 2) mX10_ears 27 [some (.ref 83), some (.int (nI s)), none] [.int (-1000000002 : Int32)] (put (M) 87 2 ((M) 87 2 + 1)) Q
      exact V.ret dX10_ears_27 rfl (hnone s hs rfl hm)
    · obtain ⟨z, h40, hz⟩ := hsz s hs
      refine V.iload_n dX10_ears_0 rfl (i := 1) rfl ?_
      refine V.invs (z := mX10_isSheet) (As := [_]) dX10_ears_1 rfl mlRX10_197 okX10_isSheet npX10_isSheet rfl (Nat.le_of_ble_eq_true rfl) rfl (Nat.le_of_ble_eq_true rfl) (c_sheetR   ?_)
      show V rS g (d + 2) mX10_ears 4 [some (.ref 83), some (.int (nI s)), none] [.int (b2i (0 ≤ (nI s) ∧ (nI s) ≤ 3))] (M) Q
      refine V.if_ne (tgt := 13) dX10_ears_4 (by decide) (fun c4 => ?_) (fun q => absurd q ((fun z => b2i_0.mp z h)))
      refine V.aload_n dX10_ears_13 rfl (i := 0) rfl ?_
      refine V.getR dX10_ears_14 rfl flRX10_53 rfl ⟨by decide, by decide⟩ ?_
      refine V.iload_n dX10_ears_17 rfl (i := 1) rfl ?_
      refine V.ialdN dX10_ears_18 rfl ⟨by decide, by decide⟩ (by first | assumption | decide | omega) (by decide) ?_
      refine V.if_ne (tgt := 28) dX10_ears_19 (by decide) (fun c19 => ?_) (fun q => absurd q (hm))
      refine V.iconst dX10_ears_28 (v := 0) (by decide) ?_
      refine V.istore_n dX10_ears_29 rfl (i := 2) (by decide) (fun _ h => by cases h; exact Or.inl rfl) rfl ?_
      exact V.mem (rowR_0 hn).symm (l_earsR hs hz h40 h10 (hok s z hs rfl hm h40 hz) (min z (10 - n)) 0 (by omega) (fun j hj => absurd hj (Nat.not_lt_zero _)))
  · skip
    refine V.iload_n dX10_ears_0 rfl (i := 1) rfl ?_
    refine V.invs (z := mX10_isSheet) (As := [_]) dX10_ears_1 rfl mlRX10_197 okX10_isSheet npX10_isSheet rfl (Nat.le_of_ble_eq_true rfl) rfl (Nat.le_of_ble_eq_true rfl) (c_sheetR   ?_)
    show V rS g (d + 2) mX10_ears 4 [some (.ref 83), some (.int a), none] [.int (b2i (0 ≤ a ∧ a ≤ 3))] (M) Q
    refine V.if_ne (tgt := 13) dX10_ears_4 (by decide) (fun c4 => ?_) (fun c4 => ?_)
    · exact absurd (Classical.byContradiction fun z => c4 (b2i_f z)) h
    · refine V.aload_n dX10_ears_7 rfl (i := 0) rfl ?_
      refine V.iconst dX10_ears_8 (v := 1) (by decide) ?_
      refine V.invv (z := mX10_finds) (As := [_]) dX10_ears_9 rfl mlRX10_131 okX10_finds npX10_finds rfl rfl rfl ⟨by decide, by decide⟩ (Nat.le_of_ble_eq_true rfl) rfl (Nat.le_of_ble_eq_true rfl) (c_fnd1   ?_)
      show V rS g (d + 2) mX10_ears 12 [some (.ref 83), some (.int a), none] [.int (-1000000001 : Int32)] (put (M) 87 1 ((M) 87 1 + 1)) Q
      exact V.ret dX10_ears_12 rfl (hbad h)
def bytR (w : Int64) (i : Nat) : Int32 := Int64.toInt32 ((w >>> (Int32.toInt64 (nI (8 * i)) &&& 63)) &&& 255)
set_option maxHeartbeats 4000000 in
set_option maxRecDepth 100000 in
theorem l_feedR {g : GG} {d : Nat} {M : Mem} {Q : Option Value → Mem → Prop} {w : Int64} {t N : Nat} (hN : t + N ≤ 50) (h8 : N ≤ 8) (hQ : Q (some (.int (nI (t + N)))) (rowR M 303 106 (bytR w) t N)) : ∀ (k i : Nat), i + k = N → V rS g (d + 2) mX10_feed 41 [some (.ref 83), some (.long w), none, some (.int (nI N)), some (.int (nI i))] [] (rowR M 303 106 (bytR w) t i) Q := by
  intro k
  induction k with
  | zero =>
    intro i hk
    obtain rfl : i = N := by omega
    refine V.iload dX10_feed_41 rfl ?_
    refine V.iload_n dX10_feed_43 rfl (i := 3) rfl ?_
    refine V.ic_ge (tgt := 92) dX10_feed_44 (by decide) (fun c44 => ?_) (fun q => absurd ((Int32.le_refl _)) q)
    refine V.aload_n dX10_feed_92 rfl (i := 0) rfl ?_
    refine V.getR dX10_feed_93 rfl flRX10_7 rfl ⟨by decide, by decide⟩ ?_
    refine V.bipush dX10_feed_96 (v := 106) (by decide) ?_
    refine V.top (x' := nI 106) (by decide) ?_
    refine V.ialdN dX10_feed_98 rfl ⟨by decide, by decide⟩ (by first | assumption | decide | omega) (by decide) ?_
    exact V.ret dX10_feed_99 rfl (Qi hQ rowR_n)
  | succ k ih =>
    intro i hk
    refine V.iload dX10_feed_41 rfl ?_
    refine V.iload_n dX10_feed_43 rfl (i := 3) rfl ?_
    refine V.ic_ge (tgt := 92) dX10_feed_44 (by decide) (fun q => absurd q ((nI_ge (a := i) (b := N) (by omega) (by omega)))) (fun c44 => ?_)
    refine V.aload_n dX10_feed_47 rfl (i := 0) rfl ?_
    refine V.getR dX10_feed_48 rfl flRX10_7 rfl ⟨by decide, by decide⟩ ?_
    refine V.sipush dX10_feed_51 (v := 303) (by decide) ?_
    refine V.aload_n dX10_feed_54 rfl (i := 0) rfl ?_
    refine V.getR dX10_feed_55 rfl flRX10_7 rfl ⟨by decide, by decide⟩ ?_
    refine V.bipush dX10_feed_58 (v := 106) (by decide) ?_
    refine V.top (x' := nI 106) (by decide) ?_
    refine V.ialdN dX10_feed_60 rfl ⟨by decide, by decide⟩ (by first | assumption | decide | omega) (by decide) ?_
    refine V.top (x' := (nI (t + i))) ((by rw [rowR_n])) ?_
    refine V.iadd dX10_feed_61 ?_
    refine V.top (x' := (nI (303 + (t + i)))) (nI_add 303 (t + i)) ?_
    refine V.lload_n dX10_feed_62 rfl (i := 1) rfl ?_
    refine V.bipush dX10_feed_63 (v := 8) (by decide) ?_
    refine V.iload dX10_feed_65 rfl ?_
    refine V.imul dX10_feed_67 ?_
    refine V.top (x' := (nI (8 * i))) (pk_mul 8 i) ?_
    refine V.lshr dX10_feed_68 ?_
    refine V.ldc2 dX10_feed_69 rfl clRX10_134 ?_
    refine V.land dX10_feed_72 ?_
    refine V.l2i dX10_feed_73 ?_
    refine V.top (x' := (bytR w i)) (rfl) ?_
    refine V.iastN dX10_feed_74 rfl ⟨by decide, by decide⟩ (by first | assumption | decide | omega) (by decide) ?_
    refine V.aload_n dX10_feed_75 rfl (i := 0) rfl ?_
    refine V.getR dX10_feed_76 rfl flRX10_7 rfl ⟨by decide, by decide⟩ ?_
    refine V.bipush dX10_feed_79 (v := 106) (by decide) ?_
    refine V.dup2 dX10_feed_81 rfl rfl ?_
    refine V.top (x' := nI 106) (by decide) ?_
    refine V.ialdN dX10_feed_82 rfl ⟨by decide, by decide⟩ (by first | assumption | decide | omega) (by decide) ?_
    refine V.top (x' := (nI (t + i))) ((by rw [put_n (fun z => by omega), rowR_n])) ?_
    refine V.iconst dX10_feed_83 (v := 1) (by decide) ?_
    refine V.iadd dX10_feed_84 ?_
    refine V.top (x' := (nI ((t + i) + 1))) (nI_add (t + i) 1) ?_
    refine V.top1 (x' := nI 106) (by decide) ?_
    refine V.iastN dX10_feed_85 rfl ⟨by decide, by decide⟩ (by first | assumption | decide | omega) (by decide) ?_
    refine V.mem (rowR_s (f := bytR w) (by decide)) ?_
    refine V.iinc dX10_feed_86 rfl (v := (nI (i + 1))) (nI_1 _) (by decide) (fun _ h => by cases h; exact Or.inl rfl) rfl ?_
    refine V.goto dX10_feed_89 (tgt := 41) (by decide) ?_
    exact ih (i + 1) (by omega)
set_option maxHeartbeats 4000000 in
set_option maxRecDepth 100000 in
theorem c10_feed {g : GG} {d : Nat} {M : Mem} {Q : Option Value → Mem → Prop} {w : Int64} {a : Int32} {t : Nat} (ht : M 84 106 = nI t) (h50 : t ≤ 50) (hbad : ¬ (1 ≤ a ∧ a ≤ 8) → Q (some (.int (-1000000001))) (put M 87 1 (M 87 1 + 1))) (hfull : ∀ N, 1 ≤ N → N ≤ 8 → a = nI N → 50 < t + N → Q (some (.int (-1000000004))) (put M 87 4 (M 87 4 + 1))) (hok : ∀ N, 1 ≤ N → N ≤ 8 → a = nI N → t + N ≤ 50 → Q (some (.int (nI (t + N)))) (rowR M 303 106 (bytR w) t N)) : V rS g (d + 2) mX10_feed 0 [some (.ref 83), some (.long w), none, some (.int a), none] [] M Q := by
  by_cases h : 1 ≤ a ∧ a ≤ 8
  · obtain ⟨N, hN, rfl⟩ := nI_ex (n := 9) (by omega) (Int32.le_trans (by decide) h.1) (Int32.lt_of_le_of_lt h.2 (by decide))
    have hN1 : 1 ≤ N := (nI_leI (a := 1) (by omega) (by omega)).mp h.1
    by_cases hc : t + N ≤ 50
    · skip
      refine V.iload_n dX10_feed_0 rfl (i := 3) rfl ?_
      refine V.i2l dX10_feed_1 ?_
      refine V.lconst dX10_feed_2 (v := 1) (by decide) ?_
      refine V.ldc2 dX10_feed_3 rfl clRX10_129 ?_
      refine V.invs (z := mX10_in) (As := [_, _, _]) dX10_feed_6 rfl mlRX10_66 okX10_in npX10_in rfl (Nat.le_of_ble_eq_true rfl) rfl (Nat.le_of_ble_eq_true rfl) (c_in32 (v := (nI N)) (lo := (1 : Int32)) (hi := (8 : Int32)) (by first | rfl | decide) (by first | rfl | decide)   ?_)
      show V rS g (d + 2) mX10_feed 9 [some (.ref 83), some (.long w), none, some (.int (nI N)), none] [.int (b2i ((1 : Int32) ≤ (nI N) ∧ (nI N) ≤ (8 : Int32)))] M Q
      refine V.if_ne (tgt := 18) dX10_feed_9 (by decide) (fun c9 => ?_) (fun q => absurd q ((fun z => b2i_0.mp z h)))
      refine V.aload_n dX10_feed_18 rfl (i := 0) rfl ?_
      refine V.getR dX10_feed_19 rfl flRX10_7 rfl ⟨by decide, by decide⟩ ?_
      refine V.bipush dX10_feed_22 (v := 106) (by decide) ?_
      refine V.top (x' := nI 106) (by decide) ?_
      refine V.ialdN dX10_feed_24 rfl ⟨by decide, by decide⟩ (by first | assumption | decide | omega) (by decide) ?_
      refine V.top (x' := (nI t)) (ht) ?_
      refine V.iload_n dX10_feed_25 rfl (i := 3) rfl ?_
      refine V.iadd dX10_feed_26 ?_
      refine V.top (x' := (nI (t + N))) (nI_add t N) ?_
      refine V.bipush dX10_feed_27 (v := 50) (by decide) ?_
      refine V.ic_le (tgt := 38) dX10_feed_29 (by decide) (fun c29 => ?_) (fun q => absurd ((nI_le (a := t + N) (b := 50) (by omega) (by omega))) q)
      refine V.iconst dX10_feed_38 (v := 0) (by decide) ?_
      refine V.istore dX10_feed_39 (i := 4) (by decide) (fun _ h => by cases h; exact Or.inl rfl) rfl ?_
      exact V.mem (rowR_0 ht).symm (l_feedR hc (by omega) (hok N hN1 (by omega) rfl hc) N 0 (by omega))
    · skip
      refine V.iload_n dX10_feed_0 rfl (i := 3) rfl ?_
      refine V.i2l dX10_feed_1 ?_
      refine V.lconst dX10_feed_2 (v := 1) (by decide) ?_
      refine V.ldc2 dX10_feed_3 rfl clRX10_129 ?_
      refine V.invs (z := mX10_in) (As := [_, _, _]) dX10_feed_6 rfl mlRX10_66 okX10_in npX10_in rfl (Nat.le_of_ble_eq_true rfl) rfl (Nat.le_of_ble_eq_true rfl) (c_in32 (v := (nI N)) (lo := (1 : Int32)) (hi := (8 : Int32)) (by first | rfl | decide) (by first | rfl | decide)   ?_)
      show V rS g (d + 2) mX10_feed 9 [some (.ref 83), some (.long w), none, some (.int (nI N)), none] [.int (b2i ((1 : Int32) ≤ (nI N) ∧ (nI N) ≤ (8 : Int32)))] M Q
      refine V.if_ne (tgt := 18) dX10_feed_9 (by decide) (fun c9 => ?_) (fun q => absurd q ((fun z => b2i_0.mp z h)))
      refine V.aload_n dX10_feed_18 rfl (i := 0) rfl ?_
      refine V.getR dX10_feed_19 rfl flRX10_7 rfl ⟨by decide, by decide⟩ ?_
      refine V.bipush dX10_feed_22 (v := 106) (by decide) ?_
      refine V.top (x' := nI 106) (by decide) ?_
      refine V.ialdN dX10_feed_24 rfl ⟨by decide, by decide⟩ (by first | assumption | decide | omega) (by decide) ?_
      refine V.top (x' := (nI t)) (ht) ?_
      refine V.iload_n dX10_feed_25 rfl (i := 3) rfl ?_
      refine V.iadd dX10_feed_26 ?_
      refine V.top (x' := (nI (t + N))) (nI_add t N) ?_
      refine V.bipush dX10_feed_27 (v := 50) (by decide) ?_
      refine V.ic_le (tgt := 38) dX10_feed_29 (by decide) (fun q => absurd q ((nI_ge (a := 50) (b := t + N) (by omega) (by omega)))) (fun c29 => ?_)
      refine V.aload_n dX10_feed_32 rfl (i := 0) rfl ?_
      refine V.iconst dX10_feed_33 (v := 4) (by decide) ?_
      refine V.invv (z := mX10_finds) (As := [_]) dX10_feed_34 rfl mlRX10_131 okX10_finds npX10_finds rfl rfl rfl ⟨by decide, by decide⟩ (Nat.le_of_ble_eq_true rfl) rfl (Nat.le_of_ble_eq_true rfl) (c_fnd4   ?_)
      show V rS g (d + 2) mX10_feed 37 [some (.ref 83), some (.long w), none, some (.int (nI N)), none] [.int (-1000000004 : Int32)] (put M 87 4 (M 87 4 + 1)) Q
      exact V.ret dX10_feed_37 rfl (hfull N hN1 (by omega) rfl (by omega))
  · skip
    refine V.iload_n dX10_feed_0 rfl (i := 3) rfl ?_
    refine V.i2l dX10_feed_1 ?_
    refine V.lconst dX10_feed_2 (v := 1) (by decide) ?_
    refine V.ldc2 dX10_feed_3 rfl clRX10_129 ?_
    refine V.invs (z := mX10_in) (As := [_, _, _]) dX10_feed_6 rfl mlRX10_66 okX10_in npX10_in rfl (Nat.le_of_ble_eq_true rfl) rfl (Nat.le_of_ble_eq_true rfl) (c_in32 (v := a) (lo := (1 : Int32)) (hi := (8 : Int32)) (by first | rfl | decide) (by first | rfl | decide)   ?_)
    show V rS g (d + 2) mX10_feed 9 [some (.ref 83), some (.long w), none, some (.int a), none] [.int (b2i ((1 : Int32) ≤ a ∧ a ≤ (8 : Int32)))] M Q
    refine V.if_ne (tgt := 18) dX10_feed_9 (by decide) (fun c9 => ?_) (fun c9 => ?_)
    · exact absurd (Classical.byContradiction fun z => c9 (b2i_f z)) h
    · refine V.aload_n dX10_feed_12 rfl (i := 0) rfl ?_
      refine V.iconst dX10_feed_13 (v := 1) (by decide) ?_
      refine V.invv (z := mX10_finds) (As := [_]) dX10_feed_14 rfl mlRX10_131 okX10_finds npX10_finds rfl rfl rfl ⟨by decide, by decide⟩ (Nat.le_of_ble_eq_true rfl) rfl (Nat.le_of_ble_eq_true rfl) (c_fnd1   ?_)
      show V rS g (d + 2) mX10_feed 17 [some (.ref 83), some (.long w), none, some (.int a), none] [.int (-1000000001 : Int32)] (put M 87 1 (M 87 1 + 1)) Q
      exact V.ret dX10_feed_17 rfl (hbad h)
set_option maxHeartbeats 4000000 in
set_option maxRecDepth 100000 in
theorem c10_way {g : GG} {d : Nat} {M : Mem} {Q : Option Value → Mem → Prop} {a w v : Int32} {S : List Int32} {n ne : Nat} (hV : VR S M n ne) (hbad : ¬ ((0 ≤ a ∧ a < nI n) ∧ (0 ≤ w ∧ w < nI ne) ∧ 0 ≤ v ∧ v ≤ 4) → Q (some (.int (-1000000001))) (put M 87 1 (M 87 1 + 1))) (h0 : ∀ b e, b < n → e < ne → a = nI b → w = nI e → v = 0 → Q (some (.int (farF (M 84 (108 + 7 * b + 2)) (M 84 (171 + e))))) M) (h1 : ∀ b e, b < n → e < ne → a = nI b → w = nI e → v = 1 → Q (some (.int (hidS (hbR M) (M 84 (108 + 7 * b + 2)) (M 84 (171 + e))))) M) (h2 : ∀ b e, b < n → e < ne → a = nI b → w = nI e → v = 2 → Q (some (.int (wyR M b e))) M) (h3 : ∀ b e, b < n → e < ne → a = nI b → w = nI e → v = 3 → ∀ M', KpR M M' → Q (some (.int (strT S (hbR M) (M 84 (108 + 7 * b + 0)) (M 84 (108 + 7 * b + 3)) (M 84 (108 + 7 * b + 2)) (M 84 (171 + e)) (M 84 100)))) M') (h4 : ∀ b e, b < n → e < ne → a = nI b → w = nI e → v = 4 → Q (some (.int (M 84 (108 + 7 * b + 4) + wyR M b e))) M) : V rS g (d + 63) mX10_way 0 [some (.ref 83), some (.int a), some (.int w), some (.int v)] [] M Q := by
  have h8 := hV.2.1
  have h10 := hV.2.2.2.1
  by_cases h : ((0 ≤ a ∧ a < nI n) ∧ (0 ≤ w ∧ w < nI ne) ∧ 0 ≤ v ∧ v ≤ 4)
  · obtain ⟨b, hb, rfl⟩ := nI_ex (n := n) (by omega) h.1.1 h.1.2
    obtain ⟨e, he, rfl⟩ := nI_ex (n := ne) (by omega) h.2.1.1 h.2.1.2
    have hB := hV.2.2.2.2.2.2.1 b hb
    have hE := hV.2.2.2.2.2.2.2 e he
    have hb8 : b ≤ 8 := by omega
    have he10 : e < 10 := by omega
    have hf := hB.1
    have hw := hV.2.2.2.2.1
    refine V.aload_n dX10_way_0 rfl (i := 0) rfl ?_
    refine V.iload_n dX10_way_1 rfl (i := 1) rfl ?_
    refine V.invv (z := mX10_isBell) (As := [_]) dX10_way_2 rfl mlRX10_170 okX10_isBell npX10_isBell rfl rfl rfl ⟨by decide, by decide⟩ (Nat.le_of_ble_eq_true rfl) rfl (Nat.le_of_ble_eq_true rfl) (c_bellR hV.1 hV.2.1 ?_)
    show V rS g (d + 63) mX10_way 5 [some (.ref 83), some (.int (nI b)), some (.int (nI e)), some (.int v)] [.int (b2i (0 ≤ nI b ∧ nI b < nI n))] M Q
    refine V.if_eq (tgt := 28) dX10_way_5 (by decide) (fun q => absurd q ((fun z => b2i_0.mp z h.1))) (fun c5 => ?_)
    refine V.aload_n dX10_way_8 rfl (i := 0) rfl ?_
    refine V.iload_n dX10_way_9 rfl (i := 2) rfl ?_
    refine V.invv (z := mX10_isEar) (As := [_]) dX10_way_10 rfl mlRX10_212 okX10_isEar npX10_isEar rfl rfl rfl ⟨by decide, by decide⟩ (Nat.le_of_ble_eq_true rfl) rfl (Nat.le_of_ble_eq_true rfl) (c_earR hV.2.2.1 hV.2.2.2.1 ?_)
    show V rS g (d + 63) mX10_way 13 [some (.ref 83), some (.int (nI b)), some (.int (nI e)), some (.int v)] [.int (b2i (0 ≤ nI e ∧ nI e < nI ne))] M Q
    refine V.if_eq (tgt := 28) dX10_way_13 (by decide) (fun q => absurd q ((fun z => b2i_0.mp z h.2.1))) (fun c13 => ?_)
    refine V.iload_n dX10_way_16 rfl (i := 3) rfl ?_
    refine V.i2l dX10_way_17 ?_
    refine V.lconst dX10_way_18 (v := 0) (by decide) ?_
    refine V.ldc2 dX10_way_19 rfl clRX10_215 ?_
    refine V.invs (z := mX10_in) (As := [_, _, _]) dX10_way_22 rfl mlRX10_66 okX10_in npX10_in rfl (Nat.le_of_ble_eq_true rfl) rfl (Nat.le_of_ble_eq_true rfl) (c_in32 (v := v) (lo := (0 : Int32)) (hi := (4 : Int32)) (by first | rfl | decide) (by first | rfl | decide)   ?_)
    show V rS g (d + 63) mX10_way 25 [some (.ref 83), some (.int (nI b)), some (.int (nI e)), some (.int v)] [.int (b2i ((0 : Int32) ≤ v ∧ v ≤ (4 : Int32)))] M Q
    refine V.if_ne (tgt := 34) dX10_way_25 (by decide) (fun c25 => ?_) (fun q => absurd q ((fun z => b2i_0.mp z h.2.2)))
    refine V.iload_n dX10_way_34 rfl (i := 3) rfl ?_
    by_cases s35_0 : v = (0 : Int32)
    · refine V.tabIn (tgt := 64) dX10_way_35 (by rw [s35_0]; decide) (by rw [s35_0]; decide) (by rw [s35_0]; rfl) (by decide) ?_
      refine V.aload_n dX10_way_64 rfl (i := 0) rfl ?_
      refine V.iload_n dX10_way_65 rfl (i := 1) rfl ?_
      refine V.iload_n dX10_way_66 rfl (i := 2) rfl ?_
      refine V.invv (z := mX10_farOf) (As := [_, _]) dX10_way_67 rfl mlRX10_202 okX10_farOf npX10_farOf rfl rfl rfl ⟨by decide, by decide⟩ (Nat.le_of_ble_eq_true rfl) rfl (Nat.le_of_ble_eq_true rfl) (c_farOf  (by first | assumption | decide | omega) (by first | assumption | decide | omega) ?_)
      show V rS g (d + 63) mX10_way 70 [some (.ref 83), some (.int (nI b)), some (.int (nI e)), some (.int v)] [.int (farF (M 84 (108 + 7 * b + 2)) (M 84 (171 + e)))] (M) Q
      exact V.ret dX10_way_70 rfl (h0 b e hb he rfl rfl s35_0)
    by_cases s35_1 : v = (1 : Int32)
    · refine V.tabIn (tgt := 71) dX10_way_35 (by rw [s35_1]; decide) (by rw [s35_1]; decide) (by rw [s35_1]; rfl) (by decide) ?_
      refine V.aload_n dX10_way_71 rfl (i := 0) rfl ?_
      refine V.iload_n dX10_way_72 rfl (i := 1) rfl ?_
      refine V.iload_n dX10_way_73 rfl (i := 2) rfl ?_
      refine V.invv (z := mX10_hidOf) (As := [_, _]) dX10_way_74 rfl mlRX10_209 okX10_hidOf npX10_hidOf rfl rfl rfl ⟨by decide, by decide⟩ (Nat.le_of_ble_eq_true rfl) rfl (Nat.le_of_ble_eq_true rfl) (c_hidOf  (by first | assumption | decide | omega) (by first | assumption | decide | omega) (by first | assumption | decide | omega) (by first | assumption | decide | omega) ?_)
      show V rS g (d + 63) mX10_way 77 [some (.ref 83), some (.int (nI b)), some (.int (nI e)), some (.int v)] [.int (hidS (hbR M) (M 84 (108 + 7 * b + 2)) (M 84 (171 + e)))] M Q
      exact V.ret dX10_way_77 rfl (h1 b e hb he rfl rfl s35_1)
    by_cases s35_2 : v = (2 : Int32)
    · refine V.tabIn (tgt := 78) dX10_way_35 (by rw [s35_2]; decide) (by rw [s35_2]; decide) (by rw [s35_2]; rfl) (by decide) ?_
      refine V.aload_n dX10_way_78 rfl (i := 0) rfl ?_
      refine V.iload_n dX10_way_79 rfl (i := 1) rfl ?_
      refine V.iload_n dX10_way_80 rfl (i := 2) rfl ?_
      refine V.invv (z := mX10_wayOf) (As := [_, _]) dX10_way_81 rfl mlRX10_217 okX10_wayOf npX10_wayOf rfl rfl rfl ⟨by decide, by decide⟩ (Nat.le_of_ble_eq_true rfl) rfl (Nat.le_of_ble_eq_true rfl) (c_wayOf  (by first | assumption | decide | omega) (by first | assumption | decide | omega) (by first | assumption | decide | omega) (by first | assumption | decide | omega) (by first | assumption | decide | omega) ?_)
      show V rS g (d + 63) mX10_way 84 [some (.ref 83), some (.int (nI b)), some (.int (nI e)), some (.int v)] [.int (wayF (M 84 (108 + 7 * b + 2)) (M 84 (171 + e)) (M 84 100))] M Q
      exact V.ret dX10_way_84 rfl (h2 b e hb he rfl rfl s35_2)
    by_cases s35_3 : v = (3 : Int32)
    · refine V.tabIn (tgt := 85) dX10_way_35 (by rw [s35_3]; decide) (by rw [s35_3]; decide) (by rw [s35_3]; rfl) (by decide) ?_
      refine V.aload_n dX10_way_85 rfl (i := 0) rfl ?_
      refine V.iload_n dX10_way_86 rfl (i := 1) rfl ?_
      refine V.iload_n dX10_way_87 rfl (i := 2) rfl ?_
      refine V.invv (z := mX10_strengthOf) (As := [_, _]) dX10_way_88 rfl mlRX10_220 okX10_strengthOf npX10_strengthOf rfl rfl rfl ⟨by decide, by decide⟩ (Nat.le_of_ble_eq_true rfl) rfl (Nat.le_of_ble_eq_true rfl) (c_strOf hV.2.2.2.2.2.1 hb8 he10 hB.1 hE (fun M1 hM1 => ?_))
      show V rS g (d + 63) mX10_way 91 [some (.ref 83), some (.int (nI b)), some (.int (nI e)), some (.int v)] [.int (strT S (hbR M) (M 84 (108 + 7 * b + 0)) (M 84 (108 + 7 * b + 3)) (M 84 (108 + 7 * b + 2)) (M 84 (171 + e)) (M 84 100))] M1 Q
      exact V.ret dX10_way_91 rfl (h3 b e hb he rfl rfl s35_3 M1 hM1)
    · refine V.tabOut (tgt := 92) dX10_way_35 (by have z0 := lv_neT (a := 0) s35_0 (by decide); have z1 := lv_neT (a := 1) s35_1 (by decide); have z2 := lv_neT (a := 2) s35_2 (by decide); have z3 := lv_neT (a := 3) s35_3 (by decide); omega) (by decide) ?_
      refine V.aload_n dX10_way_92 rfl (i := 0) rfl ?_
      refine V.iload_n dX10_way_93 rfl (i := 1) rfl ?_
      refine V.iconst dX10_way_94 (v := 4) (by decide) ?_
      refine V.invv (z := mX10_of) (As := [_, _]) dX10_way_95 rfl mlRX10_175 okX10_of npX10_of rfl rfl rfl ⟨by decide, by decide⟩ (Nat.le_of_ble_eq_true rfl) rfl (Nat.le_of_ble_eq_true rfl) (c_of  (by first | assumption | decide | omega) (by first | assumption | decide | omega) ?_)
      show V rS g (d + 63) mX10_way 98 [some (.ref 83), some (.int (nI b)), some (.int (nI e)), some (.int v)] [.int (M 84 (108 + 7 * b + 4))] (M) Q
      refine V.aload_n dX10_way_98 rfl (i := 0) rfl ?_
      refine V.iload_n dX10_way_99 rfl (i := 1) rfl ?_
      refine V.iload_n dX10_way_100 rfl (i := 2) rfl ?_
      refine V.invv (z := mX10_wayOf) (As := [_, _]) dX10_way_101 rfl mlRX10_217 okX10_wayOf npX10_wayOf rfl rfl rfl ⟨by decide, by decide⟩ (Nat.le_of_ble_eq_true rfl) rfl (Nat.le_of_ble_eq_true rfl) (c_wayOf  (by first | assumption | decide | omega) (by first | assumption | decide | omega) (by first | assumption | decide | omega) (by first | assumption | decide | omega) (by first | assumption | decide | omega) ?_)
      show V rS g (d + 63) mX10_way 104 [some (.ref 83), some (.int (nI b)), some (.int (nI e)), some (.int v)] [.int (wayF ((M) 84 (108 + 7 * b + 2)) ((M) 84 (171 + e)) ((M) 84 100)), .int (M 84 (108 + 7 * b + 4))] (M) Q
      refine V.iadd dX10_way_104 ?_
      exact V.ret dX10_way_105 rfl (h4 b e hb he rfl rfl (by have h5 := h.2.2; simp only [Int32.lt_iff_toInt_lt, Int32.le_iff_toInt_le, ← Int32.toInt_inj, Int32.reduceToInt] at *; omega))
  · skip
    refine V.aload_n dX10_way_0 rfl (i := 0) rfl ?_
    refine V.iload_n dX10_way_1 rfl (i := 1) rfl ?_
    refine V.invv (z := mX10_isBell) (As := [_]) dX10_way_2 rfl mlRX10_170 okX10_isBell npX10_isBell rfl rfl rfl ⟨by decide, by decide⟩ (Nat.le_of_ble_eq_true rfl) rfl (Nat.le_of_ble_eq_true rfl) (c_bellR hV.1 hV.2.1 ?_)
    show V rS g (d + 63) mX10_way 5 [some (.ref 83), some (.int a), some (.int w), some (.int v)] [.int (b2i (0 ≤ a ∧ a < nI n))] M Q
    refine V.if_eq (tgt := 28) dX10_way_5 (by decide) (fun c5 => ?_) (fun c5 => ?_)
    · refine V.aload_n dX10_way_28 rfl (i := 0) rfl ?_
      refine V.iconst dX10_way_29 (v := 1) (by decide) ?_
      refine V.invv (z := mX10_finds) (As := [_]) dX10_way_30 rfl mlRX10_131 okX10_finds npX10_finds rfl rfl rfl ⟨by decide, by decide⟩ (Nat.le_of_ble_eq_true rfl) rfl (Nat.le_of_ble_eq_true rfl) (c_fnd1   ?_)
      show V rS g (d + 63) mX10_way 33 [some (.ref 83), some (.int a), some (.int w), some (.int v)] [.int (-1000000001 : Int32)] (put M 87 1 (M 87 1 + 1)) Q
      exact V.ret dX10_way_33 rfl (hbad h)
    · refine V.aload_n dX10_way_8 rfl (i := 0) rfl ?_
      refine V.iload_n dX10_way_9 rfl (i := 2) rfl ?_
      refine V.invv (z := mX10_isEar) (As := [_]) dX10_way_10 rfl mlRX10_212 okX10_isEar npX10_isEar rfl rfl rfl ⟨by decide, by decide⟩ (Nat.le_of_ble_eq_true rfl) rfl (Nat.le_of_ble_eq_true rfl) (c_earR hV.2.2.1 hV.2.2.2.1 ?_)
      show V rS g (d + 63) mX10_way 13 [some (.ref 83), some (.int a), some (.int w), some (.int v)] [.int (b2i (0 ≤ w ∧ w < nI ne))] M Q
      refine V.if_eq (tgt := 28) dX10_way_13 (by decide) (fun c13 => ?_) (fun c13 => ?_)
      · refine V.aload_n dX10_way_28 rfl (i := 0) rfl ?_
        refine V.iconst dX10_way_29 (v := 1) (by decide) ?_
        refine V.invv (z := mX10_finds) (As := [_]) dX10_way_30 rfl mlRX10_131 okX10_finds npX10_finds rfl rfl rfl ⟨by decide, by decide⟩ (Nat.le_of_ble_eq_true rfl) rfl (Nat.le_of_ble_eq_true rfl) (c_fnd1   ?_)
        show V rS g (d + 63) mX10_way 33 [some (.ref 83), some (.int a), some (.int w), some (.int v)] [.int (-1000000001 : Int32)] (put M 87 1 (M 87 1 + 1)) Q
        exact V.ret dX10_way_33 rfl (hbad h)
      · refine V.iload_n dX10_way_16 rfl (i := 3) rfl ?_
        refine V.i2l dX10_way_17 ?_
        refine V.lconst dX10_way_18 (v := 0) (by decide) ?_
        refine V.ldc2 dX10_way_19 rfl clRX10_215 ?_
        refine V.invs (z := mX10_in) (As := [_, _, _]) dX10_way_22 rfl mlRX10_66 okX10_in npX10_in rfl (Nat.le_of_ble_eq_true rfl) rfl (Nat.le_of_ble_eq_true rfl) (c_in32 (v := v) (lo := (0 : Int32)) (hi := (4 : Int32)) (by first | rfl | decide) (by first | rfl | decide)   ?_)
        show V rS g (d + 63) mX10_way 25 [some (.ref 83), some (.int a), some (.int w), some (.int v)] [.int (b2i ((0 : Int32) ≤ v ∧ v ≤ (4 : Int32)))] M Q
        refine V.if_ne (tgt := 34) dX10_way_25 (by decide) (fun c25 => ?_) (fun c25 => ?_)
        · exact absurd ⟨(Classical.byContradiction fun z => c5 (b2i_f z)), (Classical.byContradiction fun z => c13 (b2i_f z)), (Classical.byContradiction fun z => c25 (b2i_f z))⟩ h
        · refine V.aload_n dX10_way_28 rfl (i := 0) rfl ?_
          refine V.iconst dX10_way_29 (v := 1) (by decide) ?_
          refine V.invv (z := mX10_finds) (As := [_]) dX10_way_30 rfl mlRX10_131 okX10_finds npX10_finds rfl rfl rfl ⟨by decide, by decide⟩ (Nat.le_of_ble_eq_true rfl) rfl (Nat.le_of_ble_eq_true rfl) (c_fnd1   ?_)
          show V rS g (d + 63) mX10_way 33 [some (.ref 83), some (.int a), some (.int w), some (.int v)] [.int (-1000000001 : Int32)] (put M 87 1 (M 87 1 + 1)) Q
          exact V.ret dX10_way_33 rfl (hbad h)
theorem shR_0 {M : Mem} {o : Nat} : um M 100 (fun i => if o ≤ i ∧ i < o + 0 then 0 else M 100 i) = M := by
  funext c i
  unfold um
  by_cases h : c = 100
  · subst h; rw [if_pos rfl, if_neg (fun z => by omega)]
  · rw [if_neg h]
theorem shR_s {M : Mem} {o k : Nat} {f : Nat → Int32} : put (um M 100 (fun i => if o ≤ i ∧ i < o + k then 0 else f i)) 100 (o + k) 0 = um M 100 (fun i => if o ≤ i ∧ i < o + (k + 1) then 0 else f i) := by
  funext c i
  by_cases h : c = 100
  · subst h
    by_cases hi : i = o + k
    · subst hi; rw [put_s, um_s, if_pos ⟨by omega, by omega⟩]
    · rw [put_n (fun z => hi z.2), um_s, um_s]
      by_cases hq : o ≤ i ∧ i < o + k
      · rw [if_pos hq, if_pos ⟨hq.1, by omega⟩]
      · rw [if_neg hq, if_neg (fun z => hq ⟨z.1, by omega⟩)]
  · rw [put_cell h, um_n h, um_n h]

set_option maxHeartbeats 4000000 in
set_option maxRecDepth 100000 in
theorem l_shR {g : GG} {d : Nat} {M : Mem} {Q : Option Value → Mem → Prop} {s : Nat} {b c : Int32} {f : Nat → Int32} (hs : s < 4) (hQ : Q (some (.int 1)) (um M 100 (fun i => if 40 * s ≤ i ∧ i < 40 * s + 40 then 0 else f i))) : ∀ (r k : Nat), k + r = 40 → V rS g (d + 2) mX10_sheet 90 [some (.ref 83), some (.int (nI s)), some (.int b), some (.int c), some (.int (nI k))] [] (um M 100 (fun i => if 40 * s ≤ i ∧ i < 40 * s + k then 0 else f i)) Q := by
  intro r
  induction r with
  | zero =>
    intro k hk
    obtain rfl : k = 40 := by omega
    refine V.iload dX10_sheet_90 rfl ?_
    refine V.bipush dX10_sheet_92 (v := 40) (by decide) ?_
    refine V.ic_ge (tgt := 116) dX10_sheet_94 (by decide) (fun c94 => ?_) (fun q => absurd ((Int32.le_refl _)) q)
    refine V.iconst dX10_sheet_116 (v := 1) (by decide) ?_
    exact V.ret dX10_sheet_117 rfl (hQ)
  | succ r ih =>
    intro k hk
    refine V.iload dX10_sheet_90 rfl ?_
    refine V.bipush dX10_sheet_92 (v := 40) (by decide) ?_
    refine V.ic_ge (tgt := 116) dX10_sheet_94 (by decide) (fun q => absurd q ((nI_ge (a := k) (b := 40) (by omega) (by omega)))) (fun c94 => ?_)
    refine V.aload_n dX10_sheet_97 rfl (i := 0) rfl ?_
    refine V.getR dX10_sheet_98 rfl flRX10_59 rfl ⟨by decide, by decide⟩ ?_
    refine V.bipush dX10_sheet_101 (v := 40) (by decide) ?_
    refine V.iload_n dX10_sheet_103 rfl (i := 1) rfl ?_
    refine V.imul dX10_sheet_104 ?_
    refine V.top (x' := (nI (40 * s))) (pk_mul 40 s) ?_
    refine V.iload dX10_sheet_105 rfl ?_
    refine V.iadd dX10_sheet_107 ?_
    refine V.top (x' := (nI ((40 * s) + k))) (nI_add (40 * s) k) ?_
    refine V.iconst dX10_sheet_108 (v := 0) (by decide) ?_
    refine V.iastN dX10_sheet_109 rfl ⟨by decide, by decide⟩ (by first | assumption | decide | omega) (by decide) ?_
    refine V.mem shR_s ?_
    refine V.iinc dX10_sheet_110 rfl (v := (nI (k + 1))) (nI_1 _) (by decide) (fun _ h => by cases h; exact Or.inl rfl) rfl ?_
    refine V.goto dX10_sheet_113 (tgt := 90) (by decide) ?_
    exact ih (k + 1) (by omega)
set_option maxHeartbeats 4000000 in
set_option maxRecDepth 100000 in
theorem c10_sheet {g : GG} {d : Nat} {M : Mem} {Q : Option Value → Mem → Prop} {a b c : Int32} (hbad : ¬ ((0 ≤ a ∧ a ≤ 3) ∧ (b = 0 ∨ b = 8 ∨ b = 16 ∨ b = 32)) → Q (some (.int (-1000000001))) (put M 87 1 (M 87 1 + 1))) (h0 : ((0 ≤ a ∧ a ≤ 3) ∧ (b = 0 ∨ b = 8 ∨ b = 16 ∨ b = 32)) → ∀ s, s < 4 → a = nI s → b = 0 → Q (some (.int 1)) (um (put (put M 98 s b) 99 s 0) 100 (fun i => if 40 * s ≤ i ∧ i < 40 * s + 40 then 0 else M 100 i))) (hst : ((0 ≤ a ∧ a ≤ 3) ∧ (b = 0 ∨ b = 8 ∨ b = 16 ∨ b = 32)) → ¬ b = 0 → c < 0 → Q (some (.int (-1000000003))) (put M 87 3 (M 87 3 + 1))) (hlong : ((0 ≤ a ∧ a ≤ 3) ∧ (b = 0 ∨ b = 8 ∨ b = 16 ∨ b = 32)) → ¬ b = 0 → ¬ c < 0 → ¬ c ≤ 40 → Q (some (.int (-1000000001))) (put M 87 1 (M 87 1 + 1))) (hok : ((0 ≤ a ∧ a ≤ 3) ∧ (b = 0 ∨ b = 8 ∨ b = 16 ∨ b = 32)) → ¬ b = 0 → ¬ c < 0 → c ≤ 40 → ∀ s, s < 4 → a = nI s → Q (some (.int 1)) (um (put (put M 98 s b) 99 s c) 100 (fun i => if 40 * s ≤ i ∧ i < 40 * s + 40 then 0 else M 100 i))) : V rS g (d + 2) mX10_sheet 0 [some (.ref 83), some (.int a), some (.int b), some (.int c), none] [] M Q := by
  by_cases h : ((0 ≤ a ∧ a ≤ 3) ∧ (b = 0 ∨ b = 8 ∨ b = 16 ∨ b = 32))
  · obtain ⟨s, hs, rfl⟩ := nI_ex (n := 4) (by omega) h.1.1 (Int32.lt_of_le_of_lt h.1.2 (by decide))
    have hcont : ∀ c' b' : Int32, b' = (if b = 0 then 0 else c) → Q (some (.int 1)) (um (put (put M 98 s b) 99 s b') 100 (fun i => if 40 * s ≤ i ∧ i < 40 * s + 40 then 0 else M 100 i)) → V rS g (d + 2) mX10_sheet 90 [some (.ref 83), some (.int (nI s)), some (.int b), some (.int c'), some (.int (nI 0))] [] (put (put M 98 s b) 99 s b') Q := by
      intro c' b' _ hQ'
      have e : (put (put M 98 s b) 99 s b') 100 = M 100 := by rw [put_cell (by decide), put_cell (by decide)]
      exact V.mem (shR_0 (o := 40 * s)).symm (by rw [e]; exact l_shR hs hQ' 40 0 (by omega))
    have h35 : V rS g (d + 2) mX10_sheet 35 [some (.ref 83), some (.int (nI s)), some (.int b), some (.int c), none] [] M Q := by
      by_cases hb0 : b = 0
      · skip
        refine V.iload_n dX10_sheet_35 rfl (i := 2) rfl ?_
        refine V.if_eq (tgt := 49) dX10_sheet_36 (by decide) (fun c36 => ?_) (fun q => absurd (hb0) q)
        refine V.iload_n dX10_sheet_49 rfl (i := 2) rfl ?_
        refine V.if_eq (tgt := 65) dX10_sheet_50 (by decide) (fun c50 => ?_) (fun q => absurd (hb0) q)
        refine V.aload_n dX10_sheet_65 rfl (i := 0) rfl ?_
        refine V.getR dX10_sheet_66 rfl flRX10_53 rfl ⟨by decide, by decide⟩ ?_
        refine V.iload_n dX10_sheet_69 rfl (i := 1) rfl ?_
        refine V.iload_n dX10_sheet_70 rfl (i := 2) rfl ?_
        refine V.iastN dX10_sheet_71 rfl ⟨by decide, by decide⟩ (by first | assumption | decide | omega) (by decide) ?_
        refine V.aload_n dX10_sheet_72 rfl (i := 0) rfl ?_
        refine V.getR dX10_sheet_73 rfl flRX10_56 rfl ⟨by decide, by decide⟩ ?_
        refine V.iload_n dX10_sheet_76 rfl (i := 1) rfl ?_
        refine V.iload_n dX10_sheet_77 rfl (i := 2) rfl ?_
        suffices kJ78 : V rS g (d + 2) mX10_sheet 86 [some (.ref 83), some (.int (nI s)), some (.int b), some (.int c), none] [.int (if b = (0 : Int32) then (0 : Int32) else c), .int (nI s), .ref 99] (put M 98 s b) Q by
          refine V.if_ne (tgt := 85) dX10_sheet_78 (by decide) (fun c78 => ?_) (fun c78 => ?_)
          · refine V.iload_n dX10_sheet_85 rfl (i := 3) rfl ?_
            rw [if_neg c78] at kJ78; exact kJ78
          · refine V.iconst dX10_sheet_81 (v := 0) (by decide) ?_
            refine V.goto dX10_sheet_82 (tgt := 86) (by decide) ?_
            rw [if_pos c78] at kJ78; exact kJ78
        refine V.iastN dX10_sheet_86 rfl ⟨by decide, by decide⟩ (by first | assumption | decide | omega) (by decide) ?_
        refine V.iconst dX10_sheet_87 (v := 0) (by decide) ?_
        refine V.istore dX10_sheet_88 (i := 4) (by decide) (fun _ h => by cases h; exact Or.inl rfl) rfl ?_
        exact hcont c _ (by first | rfl | (rw [if_pos hb0])) (by first | exact h0 h s hs rfl hb0 | (rw [if_pos hb0]; exact h0 h s hs rfl hb0))
      · skip
        refine V.iload_n dX10_sheet_35 rfl (i := 2) rfl ?_
        refine V.if_eq (tgt := 49) dX10_sheet_36 (by decide) (fun q => absurd q (hb0)) (fun c36 => ?_)
        refine V.iload_n dX10_sheet_39 rfl (i := 3) rfl ?_
        refine V.if_ge (tgt := 49) dX10_sheet_40 (by decide) (fun c40 => ?_) (fun c40 => ?_)
        · refine V.iload_n dX10_sheet_49 rfl (i := 2) rfl ?_
          refine V.if_eq (tgt := 65) dX10_sheet_50 (by decide) (fun q => absurd q (hb0)) (fun c50 => ?_)
          refine V.iload_n dX10_sheet_53 rfl (i := 3) rfl ?_
          refine V.bipush dX10_sheet_54 (v := 40) (by decide) ?_
          refine V.ic_le (tgt := 65) dX10_sheet_56 (by decide) (fun c56 => ?_) (fun c56 => ?_)
          · refine V.aload_n dX10_sheet_65 rfl (i := 0) rfl ?_
            refine V.getR dX10_sheet_66 rfl flRX10_53 rfl ⟨by decide, by decide⟩ ?_
            refine V.iload_n dX10_sheet_69 rfl (i := 1) rfl ?_
            refine V.iload_n dX10_sheet_70 rfl (i := 2) rfl ?_
            refine V.iastN dX10_sheet_71 rfl ⟨by decide, by decide⟩ (by first | assumption | decide | omega) (by decide) ?_
            refine V.aload_n dX10_sheet_72 rfl (i := 0) rfl ?_
            refine V.getR dX10_sheet_73 rfl flRX10_56 rfl ⟨by decide, by decide⟩ ?_
            refine V.iload_n dX10_sheet_76 rfl (i := 1) rfl ?_
            refine V.iload_n dX10_sheet_77 rfl (i := 2) rfl ?_
            suffices kJ78 : V rS g (d + 2) mX10_sheet 86 [some (.ref 83), some (.int (nI s)), some (.int b), some (.int c), none] [.int (if b = (0 : Int32) then (0 : Int32) else c), .int (nI s), .ref 99] (put M 98 s b) Q by
              refine V.if_ne (tgt := 85) dX10_sheet_78 (by decide) (fun c78 => ?_) (fun c78 => ?_)
              · refine V.iload_n dX10_sheet_85 rfl (i := 3) rfl ?_
                rw [if_neg c78] at kJ78; exact kJ78
              · refine V.iconst dX10_sheet_81 (v := 0) (by decide) ?_
                refine V.goto dX10_sheet_82 (tgt := 86) (by decide) ?_
                rw [if_pos c78] at kJ78; exact kJ78
            refine V.iastN dX10_sheet_86 rfl ⟨by decide, by decide⟩ (by first | assumption | decide | omega) (by decide) ?_
            refine V.iconst dX10_sheet_87 (v := 0) (by decide) ?_
            refine V.istore dX10_sheet_88 (i := 4) (by decide) (fun _ h => by cases h; exact Or.inl rfl) rfl ?_
            exact hcont c _ (by first | rfl | (rw [if_neg hb0])) (by first | exact hok h hb0 (Int32.not_lt.mpr c40) c56 s hs rfl | (rw [if_neg hb0]; exact hok h hb0 (Int32.not_lt.mpr c40) c56 s hs rfl))
          · refine V.aload_n dX10_sheet_59 rfl (i := 0) rfl ?_
            refine V.iconst dX10_sheet_60 (v := 1) (by decide) ?_
            refine V.invv (z := mX10_finds) (As := [_]) dX10_sheet_61 rfl mlRX10_131 okX10_finds npX10_finds rfl rfl rfl ⟨by decide, by decide⟩ (Nat.le_of_ble_eq_true rfl) rfl (Nat.le_of_ble_eq_true rfl) (c_fnd1   ?_)
            show V rS g (d + 2) mX10_sheet 64 [some (.ref 83), some (.int (nI s)), some (.int b), some (.int c), none] [.int (-1000000001 : Int32)] (put M 87 1 (M 87 1 + 1)) Q
            exact V.ret dX10_sheet_64 rfl (hlong h hb0 (Int32.not_lt.mpr c40) c56)
        · refine V.aload_n dX10_sheet_43 rfl (i := 0) rfl ?_
          refine V.iconst dX10_sheet_44 (v := 3) (by decide) ?_
          refine V.invv (z := mX10_finds) (As := [_]) dX10_sheet_45 rfl mlRX10_131 okX10_finds npX10_finds rfl rfl rfl ⟨by decide, by decide⟩ (Nat.le_of_ble_eq_true rfl) rfl (Nat.le_of_ble_eq_true rfl) (c_fnd3   ?_)
          show V rS g (d + 2) mX10_sheet 48 [some (.ref 83), some (.int (nI s)), some (.int b), some (.int c), none] [.int (-1000000003 : Int32)] (put M 87 3 (M 87 3 + 1)) Q
          exact V.ret dX10_sheet_48 rfl (hst h hb0 (Int32.not_le.mp c40))
    refine V.iload_n dX10_sheet_0 rfl (i := 1) rfl ?_
    refine V.invs (z := mX10_isSheet) (As := [_]) dX10_sheet_1 rfl mlRX10_197 okX10_isSheet npX10_isSheet rfl (Nat.le_of_ble_eq_true rfl) rfl (Nat.le_of_ble_eq_true rfl) (c_sheetR   ?_)
    show V rS g (d + 2) mX10_sheet 4 [some (.ref 83), some (.int (nI s)), some (.int b), some (.int c), none] [.int (b2i (0 ≤ (nI s) ∧ (nI s) ≤ 3))] (M) Q
    refine V.if_eq (tgt := 29) dX10_sheet_4 (by decide) (fun q => absurd q ((fun z => b2i_0.mp z h.1))) (fun c4 => ?_)
    refine V.iload_n dX10_sheet_7 rfl (i := 2) rfl ?_
    refine V.if_eq (tgt := 35) dX10_sheet_8 (by decide) (fun c8 => ?_) (fun c8 => ?_)
    · exact h35
    · refine V.iload_n dX10_sheet_11 rfl (i := 2) rfl ?_
      refine V.bipush dX10_sheet_12 (v := 8) (by decide) ?_
      refine V.ic_eq (tgt := 35) dX10_sheet_14 (by decide) (fun c14 => ?_) (fun c14 => ?_)
      · exact h35
      · refine V.iload_n dX10_sheet_17 rfl (i := 2) rfl ?_
        refine V.bipush dX10_sheet_18 (v := 16) (by decide) ?_
        refine V.ic_eq (tgt := 35) dX10_sheet_20 (by decide) (fun c20 => ?_) (fun c20 => ?_)
        · exact h35
        · refine V.iload_n dX10_sheet_23 rfl (i := 2) rfl ?_
          refine V.bipush dX10_sheet_24 (v := 32) (by decide) ?_
          refine V.ic_eq (tgt := 35) dX10_sheet_26 (by decide) (fun c26 => ?_) (fun c26 => ?_)
          · exact h35
          · exact absurd h.2 (fun z => by simp_all)
  · skip
    refine V.iload_n dX10_sheet_0 rfl (i := 1) rfl ?_
    refine V.invs (z := mX10_isSheet) (As := [_]) dX10_sheet_1 rfl mlRX10_197 okX10_isSheet npX10_isSheet rfl (Nat.le_of_ble_eq_true rfl) rfl (Nat.le_of_ble_eq_true rfl) (c_sheetR   ?_)
    show V rS g (d + 2) mX10_sheet 4 [some (.ref 83), some (.int a), some (.int b), some (.int c), none] [.int (b2i (0 ≤ a ∧ a ≤ 3))] (M) Q
    refine V.if_eq (tgt := 29) dX10_sheet_4 (by decide) (fun c4 => ?_) (fun c4 => ?_)
    · refine V.aload_n dX10_sheet_29 rfl (i := 0) rfl ?_
      refine V.iconst dX10_sheet_30 (v := 1) (by decide) ?_
      refine V.invv (z := mX10_finds) (As := [_]) dX10_sheet_31 rfl mlRX10_131 okX10_finds npX10_finds rfl rfl rfl ⟨by decide, by decide⟩ (Nat.le_of_ble_eq_true rfl) rfl (Nat.le_of_ble_eq_true rfl) (c_fnd1   ?_)
      show V rS g (d + 2) mX10_sheet 34 [some (.ref 83), some (.int a), some (.int b), some (.int c), none] [.int (-1000000001 : Int32)] (put (M) 87 1 ((M) 87 1 + 1)) Q
      exact V.ret dX10_sheet_34 rfl (hbad h)
    · refine V.iload_n dX10_sheet_7 rfl (i := 2) rfl ?_
      refine V.if_eq (tgt := 35) dX10_sheet_8 (by decide) (fun c8 => ?_) (fun c8 => ?_)
      · exact absurd ⟨(Classical.byContradiction fun z => c4 (b2i_f z)), by simp_all⟩ h
      · refine V.iload_n dX10_sheet_11 rfl (i := 2) rfl ?_
        refine V.bipush dX10_sheet_12 (v := 8) (by decide) ?_
        refine V.ic_eq (tgt := 35) dX10_sheet_14 (by decide) (fun c14 => ?_) (fun c14 => ?_)
        · exact absurd ⟨(Classical.byContradiction fun z => c4 (b2i_f z)), by simp_all⟩ h
        · refine V.iload_n dX10_sheet_17 rfl (i := 2) rfl ?_
          refine V.bipush dX10_sheet_18 (v := 16) (by decide) ?_
          refine V.ic_eq (tgt := 35) dX10_sheet_20 (by decide) (fun c20 => ?_) (fun c20 => ?_)
          · exact absurd ⟨(Classical.byContradiction fun z => c4 (b2i_f z)), by simp_all⟩ h
          · refine V.iload_n dX10_sheet_23 rfl (i := 2) rfl ?_
            refine V.bipush dX10_sheet_24 (v := 32) (by decide) ?_
            refine V.ic_eq (tgt := 35) dX10_sheet_26 (by decide) (fun c26 => ?_) (fun c26 => ?_)
            · exact absurd ⟨(Classical.byContradiction fun z => c4 (b2i_f z)), by simp_all⟩ h
            · refine V.aload_n dX10_sheet_29 rfl (i := 0) rfl ?_
              refine V.iconst dX10_sheet_30 (v := 1) (by decide) ?_
              refine V.invv (z := mX10_finds) (As := [_]) dX10_sheet_31 rfl mlRX10_131 okX10_finds npX10_finds rfl rfl rfl ⟨by decide, by decide⟩ (Nat.le_of_ble_eq_true rfl) rfl (Nat.le_of_ble_eq_true rfl) (c_fnd1   ?_)
              show V rS g (d + 2) mX10_sheet 34 [some (.ref 83), some (.int a), some (.int b), some (.int c), none] [.int (-1000000001 : Int32)] (put (M) 87 1 ((M) 87 1 + 1)) Q
              exact V.ret dX10_sheet_34 rfl (hbad h)
set_option maxHeartbeats 4000000 in
set_option maxRecDepth 100000 in
theorem c10_put {g : GG} {d : Nat} {M : Mem} {Q : Option Value → Mem → Prop} {a i v : Int32} (hsz : ∀ s, s < 4 → ∃ z, z ≤ 40 ∧ M 99 s = nI z) (hbad : ¬ (0 ≤ a ∧ a ≤ 3) → Q (some (.int (-1000000001))) (put M 87 1 (M 87 1 + 1))) (hnone : ∀ s, s < 4 → a = nI s → M 98 s = 0 → Q (some (.int (-1000000002))) (put M 87 2 (M 87 2 + 1))) (hbad2 : ∀ s, s < 4 → a = nI s → ¬ M 98 s = 0 → ¬ (0 ≤ i ∧ i < M 99 s) → Q (some (.int (-1000000001))) (put M 87 1 (M 87 1 + 1))) (hok : ∀ s j, s < 4 → j < 40 → a = nI s → i = nI j → ¬ M 98 s = 0 → (0 ≤ i ∧ i < M 99 s) → Q (some (.int 1)) (put M 100 (40 * s + j) (if M 98 s = 8 then (Int32.toInt8 v).toInt32 else if M 98 s = 16 then (Int32.toInt16 v).toInt32 else v))) : V rS g (d + 2) mX10_put 0 [some (.ref 83), some (.int a), some (.int i), some (.int v)] [] M Q := by
  by_cases h : 0 ≤ a ∧ a ≤ 3
  · obtain ⟨s, hs, rfl⟩ := nI_ex (n := 4) (by omega) h.1 (Int32.lt_of_le_of_lt h.2 (by decide))
    by_cases hm : M 98 s = 0
    · skip
      refine V.iload_n dX10_put_0 rfl (i := 1) rfl ?_
      refine V.invs (z := mX10_isSheet) (As := [_]) dX10_put_1 rfl mlRX10_197 okX10_isSheet npX10_isSheet rfl (Nat.le_of_ble_eq_true rfl) rfl (Nat.le_of_ble_eq_true rfl) (c_sheetR   ?_)
      show V rS g (d + 2) mX10_put 4 [some (.ref 83), some (.int (nI s)), some (.int i), some (.int v)] [.int (b2i (0 ≤ (nI s) ∧ (nI s) ≤ 3))] (M) Q
      refine V.if_ne (tgt := 13) dX10_put_4 (by decide) (fun c4 => ?_) (fun q => absurd q ((fun z => b2i_0.mp z h)))
      refine V.aload_n dX10_put_13 rfl (i := 0) rfl ?_
      refine V.getR dX10_put_14 rfl flRX10_53 rfl ⟨by decide, by decide⟩ ?_
      refine V.iload_n dX10_put_17 rfl (i := 1) rfl ?_
      refine V.ialdN dX10_put_18 rfl ⟨by decide, by decide⟩ (by first | assumption | decide | omega) (by decide) ?_
      refine V.if_ne (tgt := 28) dX10_put_19 (by decide) (fun q => absurd (hm) q) (fun c19 => ?_)
      refine V.aload_n dX10_put_22 rfl (i := 0) rfl ?_
      refine V.iconst dX10_put_23 (v := 2) (by decide) ?_
      refine V.invv (z := mX10_finds) (As := [_]) dX10_put_24 rfl mlRX10_131 okX10_finds npX10_finds rfl rfl rfl ⟨by decide, by decide⟩ (Nat.le_of_ble_eq_true rfl) rfl (Nat.le_of_ble_eq_true rfl) (c_fnd2   ?_)
      show V rS g (d + 2) mX10_put 27 [some (.ref 83), some (.int (nI s)), some (.int i), some (.int v)] [.int (-1000000002 : Int32)] (put (M) 87 2 ((M) 87 2 + 1)) Q
      exact V.ret dX10_put_27 rfl (hnone s hs rfl hm)
    · obtain ⟨z, h40, hz⟩ := hsz s hs
      by_cases hst : 0 ≤ i ∧ i < M 99 s
      · obtain ⟨j, hj, rfl⟩ := nI_ex (n := z) (by omega) hst.1 (hz ▸ hst.2)
        have hst2 := hst.2
        rw [hz] at hst2
        refine V.iload_n dX10_put_0 rfl (i := 1) rfl ?_
        refine V.invs (z := mX10_isSheet) (As := [_]) dX10_put_1 rfl mlRX10_197 okX10_isSheet npX10_isSheet rfl (Nat.le_of_ble_eq_true rfl) rfl (Nat.le_of_ble_eq_true rfl) (c_sheetR   ?_)
        show V rS g (d + 2) mX10_put 4 [some (.ref 83), some (.int (nI s)), some (.int (nI j)), some (.int v)] [.int (b2i (0 ≤ (nI s) ∧ (nI s) ≤ 3))] (M) Q
        refine V.if_ne (tgt := 13) dX10_put_4 (by decide) (fun c4 => ?_) (fun q => absurd q ((fun z => b2i_0.mp z h)))
        refine V.aload_n dX10_put_13 rfl (i := 0) rfl ?_
        refine V.getR dX10_put_14 rfl flRX10_53 rfl ⟨by decide, by decide⟩ ?_
        refine V.iload_n dX10_put_17 rfl (i := 1) rfl ?_
        refine V.ialdN dX10_put_18 rfl ⟨by decide, by decide⟩ (by first | assumption | decide | omega) (by decide) ?_
        refine V.if_ne (tgt := 28) dX10_put_19 (by decide) (fun c19 => ?_) (fun q => absurd q (hm))
        refine V.iload_n dX10_put_28 rfl (i := 2) rfl ?_
        refine V.i2l dX10_put_29 ?_
        refine V.lconst dX10_put_30 (v := 0) (by decide) ?_
        refine V.aload_n dX10_put_31 rfl (i := 0) rfl ?_
        refine V.getR dX10_put_32 rfl flRX10_56 rfl ⟨by decide, by decide⟩ ?_
        refine V.iload_n dX10_put_35 rfl (i := 1) rfl ?_
        refine V.ialdN dX10_put_36 rfl ⟨by decide, by decide⟩ (by first | assumption | decide | omega) (by decide) ?_
        refine V.top (x' := (nI z)) (hz) ?_
        refine V.iconst dX10_put_37 (v := 1) (by decide) ?_
        refine V.isub dX10_put_38 ?_
        refine V.i2l dX10_put_39 ?_
        refine V.invs (z := mX10_in) (As := [_, _, _]) dX10_put_40 rfl mlRX10_66 okX10_in npX10_in rfl (Nat.le_of_ble_eq_true rfl) rfl (Nat.le_of_ble_eq_true rfl) (c_in32 (v := nI j) (lo := 0) (hi := nI z - 1) rfl rfl ?_)
        show V rS g (d + 2) mX10_put 43 [some (.ref 83), some (.int (nI s)), some (.int (nI j)), some (.int v)] [.int (b2i (0 ≤ nI j ∧ nI j ≤ nI z - 1))] M Q
        refine V.if_ne (tgt := 52) dX10_put_43 (by decide) (fun c43 => ?_) (fun q => absurd q ((fun z => b2i_0.mp z ⟨hst.1, (le_pred (by omega)).mpr hst2⟩)))
        refine V.aload_n dX10_put_52 rfl (i := 0) rfl ?_
        refine V.getR dX10_put_53 rfl flRX10_59 rfl ⟨by decide, by decide⟩ ?_
        refine V.bipush dX10_put_56 (v := 40) (by decide) ?_
        refine V.iload_n dX10_put_58 rfl (i := 1) rfl ?_
        refine V.imul dX10_put_59 ?_
        refine V.top (x' := (nI (40 * s))) (pk_mul 40 s) ?_
        refine V.iload_n dX10_put_60 rfl (i := 2) rfl ?_
        refine V.iadd dX10_put_61 ?_
        refine V.top (x' := (nI ((40 * s) + j))) (nI_add (40 * s) j) ?_
        refine V.aload_n dX10_put_62 rfl (i := 0) rfl ?_
        refine V.getR dX10_put_63 rfl flRX10_53 rfl ⟨by decide, by decide⟩ ?_
        refine V.iload_n dX10_put_66 rfl (i := 1) rfl ?_
        refine V.ialdN dX10_put_67 rfl ⟨by decide, by decide⟩ (by first | assumption | decide | omega) (by decide) ?_
        refine V.bipush dX10_put_68 (v := 8) (by decide) ?_
        refine V.ic_ne (tgt := 78) dX10_put_70 (by decide) (fun c70 => ?_) (fun c70 => ?_)
        · refine V.aload_n dX10_put_78 rfl (i := 0) rfl ?_
          refine V.getR dX10_put_79 rfl flRX10_53 rfl ⟨by decide, by decide⟩ ?_
          refine V.iload_n dX10_put_82 rfl (i := 1) rfl ?_
          refine V.ialdN dX10_put_83 rfl ⟨by decide, by decide⟩ (by first | assumption | decide | omega) (by decide) ?_
          refine V.bipush dX10_put_84 (v := 16) (by decide) ?_
          suffices kJ86 : V rS g (d + 2) mX10_put 95 [some (.ref 83), some (.int (nI s)), some (.int (nI j)), some (.int v)] [.int (if (M 98 s) = (16 : Int32) then ((Int32.toInt16 v).toInt32) else v), .int (nI ((40 * s) + j)), .ref 100] M Q by
            refine V.ic_ne (tgt := 94) dX10_put_86 (by decide) (fun c86 => ?_) (fun c86 => ?_)
            · refine V.iload_n dX10_put_94 rfl (i := 3) rfl ?_
              rw [if_neg c86] at kJ86; exact kJ86
            · refine V.iload_n dX10_put_89 rfl (i := 3) rfl ?_
              refine V.i2s dX10_put_90 ?_
              refine V.goto dX10_put_91 (tgt := 95) (by decide) ?_
              rw [if_pos c86] at kJ86; exact kJ86
          refine V.iastN dX10_put_95 rfl ⟨by decide, by decide⟩ (by first | assumption | decide | omega) (by decide) ?_
          refine V.iconst dX10_put_96 (v := 1) (by decide) ?_
          exact V.ret dX10_put_97 rfl (Qm (hok s j hs (by omega) rfl rfl hm hst) (by (repeat' split) <;> simp_all))
        · refine V.iload_n dX10_put_73 rfl (i := 3) rfl ?_
          refine V.i2b dX10_put_74 ?_
          refine V.goto dX10_put_75 (tgt := 95) (by decide) ?_
          refine V.iastN dX10_put_95 rfl ⟨by decide, by decide⟩ (by first | assumption | decide | omega) (by decide) ?_
          refine V.iconst dX10_put_96 (v := 1) (by decide) ?_
          exact V.ret dX10_put_97 rfl (Qm (hok s j hs (by omega) rfl rfl hm hst) (by (repeat' split) <;> simp_all))
      · skip
        refine V.iload_n dX10_put_0 rfl (i := 1) rfl ?_
        refine V.invs (z := mX10_isSheet) (As := [_]) dX10_put_1 rfl mlRX10_197 okX10_isSheet npX10_isSheet rfl (Nat.le_of_ble_eq_true rfl) rfl (Nat.le_of_ble_eq_true rfl) (c_sheetR   ?_)
        show V rS g (d + 2) mX10_put 4 [some (.ref 83), some (.int (nI s)), some (.int i), some (.int v)] [.int (b2i (0 ≤ (nI s) ∧ (nI s) ≤ 3))] (M) Q
        refine V.if_ne (tgt := 13) dX10_put_4 (by decide) (fun c4 => ?_) (fun q => absurd q ((fun z => b2i_0.mp z h)))
        refine V.aload_n dX10_put_13 rfl (i := 0) rfl ?_
        refine V.getR dX10_put_14 rfl flRX10_53 rfl ⟨by decide, by decide⟩ ?_
        refine V.iload_n dX10_put_17 rfl (i := 1) rfl ?_
        refine V.ialdN dX10_put_18 rfl ⟨by decide, by decide⟩ (by first | assumption | decide | omega) (by decide) ?_
        refine V.if_ne (tgt := 28) dX10_put_19 (by decide) (fun c19 => ?_) (fun q => absurd q (hm))
        refine V.iload_n dX10_put_28 rfl (i := 2) rfl ?_
        refine V.i2l dX10_put_29 ?_
        refine V.lconst dX10_put_30 (v := 0) (by decide) ?_
        refine V.aload_n dX10_put_31 rfl (i := 0) rfl ?_
        refine V.getR dX10_put_32 rfl flRX10_56 rfl ⟨by decide, by decide⟩ ?_
        refine V.iload_n dX10_put_35 rfl (i := 1) rfl ?_
        refine V.ialdN dX10_put_36 rfl ⟨by decide, by decide⟩ (by first | assumption | decide | omega) (by decide) ?_
        refine V.top (x' := (nI z)) (hz) ?_
        refine V.iconst dX10_put_37 (v := 1) (by decide) ?_
        refine V.isub dX10_put_38 ?_
        refine V.i2l dX10_put_39 ?_
        refine V.invs (z := mX10_in) (As := [_, _, _]) dX10_put_40 rfl mlRX10_66 okX10_in npX10_in rfl (Nat.le_of_ble_eq_true rfl) rfl (Nat.le_of_ble_eq_true rfl) (c_in32 (v := i) (lo := 0) (hi := nI z - 1) rfl rfl ?_)
        show V rS g (d + 2) mX10_put 43 [some (.ref 83), some (.int (nI s)), some (.int i), some (.int v)] [.int (b2i (0 ≤ i ∧ i ≤ nI z - 1))] M Q
        refine V.if_ne (tgt := 52) dX10_put_43 (by decide) (fun q => absurd ((b2i_f (fun q => hst ⟨q.1, by rw [hz]; exact (le_pred (by omega)).mp q.2⟩))) q) (fun c43 => ?_)
        refine V.aload_n dX10_put_46 rfl (i := 0) rfl ?_
        refine V.iconst dX10_put_47 (v := 1) (by decide) ?_
        refine V.invv (z := mX10_finds) (As := [_]) dX10_put_48 rfl mlRX10_131 okX10_finds npX10_finds rfl rfl rfl ⟨by decide, by decide⟩ (Nat.le_of_ble_eq_true rfl) rfl (Nat.le_of_ble_eq_true rfl) (c_fnd1   ?_)
        show V rS g (d + 2) mX10_put 51 [some (.ref 83), some (.int (nI s)), some (.int i), some (.int v)] [.int (-1000000001 : Int32)] (put M 87 1 (M 87 1 + 1)) Q
        exact V.ret dX10_put_51 rfl (hbad2 s hs rfl hm hst)
  · skip
    refine V.iload_n dX10_put_0 rfl (i := 1) rfl ?_
    refine V.invs (z := mX10_isSheet) (As := [_]) dX10_put_1 rfl mlRX10_197 okX10_isSheet npX10_isSheet rfl (Nat.le_of_ble_eq_true rfl) rfl (Nat.le_of_ble_eq_true rfl) (c_sheetR   ?_)
    show V rS g (d + 2) mX10_put 4 [some (.ref 83), some (.int a), some (.int i), some (.int v)] [.int (b2i (0 ≤ a ∧ a ≤ 3))] (M) Q
    refine V.if_ne (tgt := 13) dX10_put_4 (by decide) (fun c4 => ?_) (fun c4 => ?_)
    · exact absurd (Classical.byContradiction fun z => c4 (b2i_f z)) h
    · refine V.aload_n dX10_put_7 rfl (i := 0) rfl ?_
      refine V.iconst dX10_put_8 (v := 1) (by decide) ?_
      refine V.invv (z := mX10_finds) (As := [_]) dX10_put_9 rfl mlRX10_131 okX10_finds npX10_finds rfl rfl rfl ⟨by decide, by decide⟩ (Nat.le_of_ble_eq_true rfl) rfl (Nat.le_of_ble_eq_true rfl) (c_fnd1   ?_)
      show V rS g (d + 2) mX10_put 12 [some (.ref 83), some (.int a), some (.int i), some (.int v)] [.int (-1000000001 : Int32)] (put (M) 87 1 ((M) 87 1 + 1)) Q
      exact V.ret dX10_put_12 rfl (hbad h)

