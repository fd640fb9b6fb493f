/-! ===== the reference: laws, hearing ===== -/
/-- the steps of the texts at first -/
def dfl (us : Nat) : List Int32 := if us = 0 then [-1, -2, -45, 5, -3, -42, -45, -4, -43] else [-1, -2, -43, 3, -45]
/-- the reference's text of a use has these steps -/
def LwR (M : Mem) (us : Nat) (S : List Int32) : Prop := (M 84 (181 + us) = 0 ∧ S = dfl us) ∨ ∃ n, 1 ≤ n ∧ n ≤ 50 ∧ M 84 (181 + us) = nI n ∧ rdT (nx (fun i => M 84 (203 + 50 * us + i)) n) us = (true, n, S)
theorem LwR.eq {M M' : Mem} {us : Nat} {S : List Int32} (h : LwR M us S) (e : M' 84 = M 84) : LwR M' us S := by unfold LwR; rw [e]; exact h
theorem Ev.val {us : Nat} {nm nm' : Nat → Int32} {w : List Int32} {v : Int32} (h : Ev us nm w v) (hl : w.length ≤ 50) (hn : ∀ j, j < (if us = 0 then 5 else 3) → nm' j = nm j) : rpnRun nm' w [] = v := by
  have := h.2 nm' hn [] [] (by simpa using hl)
  rw [List.append_nil] at this
  rw [this]
  rfl
def vrun (S : List Int32) (a b c d e : Int32) : Int32 := rpnRun (fun j => [a, b, c, d, e].getD j 0) S []
theorem dfl0_v (l a h w k : Int32) : l - a - 5 * h + w = vrun (dfl 0) l a h w k := by
  simp [vrun, dfl, rpnRun, joinF]
theorem dfl1_v (s r m : Int32) : s + r - 3 = vrun (dfl 1) s r m 0 0 := by
  simp [vrun, dfl, rpnRun, joinF]
theorem held_eq (v : Int32) : heldR v 0 99 = heldF v 0 99 := by
  unfold heldR heldF
  (repeat' split) <;> first | rfl | (simp only [Int32.lt_iff_toInt_lt, Int32.le_iff_toInt_le, ← Int32.toInt_inj, Int32.reduceToInt] at *; omega)
theorem j5 {j : Nat} (h : j < 5) : j = 0 ∨ j = 1 ∨ j = 2 ∨ j = 3 ∨ j = 4 := by omega
theorem j3 {j : Nat} (h : j < 3) : j = 0 ∨ j = 1 ∨ j = 2 := by omega

set_option maxHeartbeats 4000000 in
set_option maxRecDepth 100000 in
theorem c_carries {g : GG} {d : Nat} {M : Mem} {Q : Option Value → Mem → Prop} {l a h w k : Int32} {S : List Int32} (hL : LwR M 0 S) (hQ : ∀ M', KpR M M' → Q (some (.int (vrun S l a h w k))) M') : V rS g (d + 61) mX10_carries 0 [some (.ref 83), some (.int l), some (.int a), some (.int h), some (.int w), some (.int k)] [] M Q := by
  rcases hL with ⟨h0, rfl⟩ | ⟨n, hn1, hn50, hn, hr⟩
  · skip
    refine V.aload_n dX10_carries_0 rfl (i := 0) rfl ?_
    refine V.getR dX10_carries_1 rfl flRX10_7 rfl ⟨by decide, by decide⟩ ?_
    refine V.sipush dX10_carries_4 (v := 181) (by decide) ?_
    refine V.top (x' := nI 181) (by decide) ?_
    refine V.ialdN dX10_carries_7 rfl ⟨by decide, by decide⟩ (by first | assumption | decide | omega) (by decide) ?_
    refine V.if_ne (tgt := 22) dX10_carries_8 (by decide) (fun q => absurd (h0) q) (fun c8 => ?_)
    refine V.iload_n dX10_carries_11 rfl (i := 1) rfl ?_
    refine V.iload_n dX10_carries_12 rfl (i := 2) rfl ?_
    refine V.isub dX10_carries_13 ?_
    refine V.iconst dX10_carries_14 (v := 5) (by decide) ?_
    refine V.iload_n dX10_carries_15 rfl (i := 3) rfl ?_
    refine V.imul dX10_carries_16 ?_
    refine V.isub dX10_carries_17 ?_
    refine V.iload dX10_carries_18 rfl ?_
    refine V.iadd dX10_carries_20 ?_
    exact V.ret dX10_carries_21 rfl (Qi (hQ M KpR.rf) (dfl0_v l a h w k))
  · have hK : KpR M (put (put (put (put (put M 88 0 l) 88 1 a) 88 2 h) 88 3 w) 88 4 k) := (((((KpR.rf).p88).p88).p88).p88).p88
    have h84 : (put (put (put (put (put M 88 0 l) 88 1 a) 88 2 h) 88 3 w) 88 4 k) 84 = M 84 := by simp only [put_cell (show (84 : Nat) ≠ 88 by decide)]
    have hnm : ∀ j, j < 5 → (fun j => [l, a, h, w, k].getD j 0) j = (put (put (put (put (put M 88 0 l) 88 1 a) 88 2 h) 88 3 w) 88 4 k) 88 j := by
      intro j hj
      rcases j5 hj with rfl | rfl | rfl | rfl | rfl <;> simp [put]
    refine V.aload_n dX10_carries_0 rfl (i := 0) rfl ?_
    refine V.getR dX10_carries_1 rfl flRX10_7 rfl ⟨by decide, by decide⟩ ?_
    refine V.sipush dX10_carries_4 (v := 181) (by decide) ?_
    refine V.top (x' := nI 181) (by decide) ?_
    refine V.ialdN dX10_carries_7 rfl ⟨by decide, by decide⟩ (by first | assumption | decide | omega) (by decide) ?_
    refine V.if_ne (tgt := 22) dX10_carries_8 (by decide) (fun c8 => ?_) (fun q => absurd q ((by rw [show M 84 181 = nI n from hn]; exact nI_ne0 (by omega) (by omega))))
    refine V.aload_n dX10_carries_22 rfl (i := 0) rfl ?_
    refine V.getR dX10_carries_23 rfl flRX10_22 rfl ⟨by decide, by decide⟩ ?_
    refine V.iconst dX10_carries_26 (v := 0) (by decide) ?_
    refine V.iload_n dX10_carries_27 rfl (i := 1) rfl ?_
    refine V.top1 (x' := nI 0) (by decide) ?_
    refine V.iastN dX10_carries_28 rfl ⟨by decide, by decide⟩ (by first | assumption | decide | omega) (by decide) ?_
    refine V.aload_n dX10_carries_29 rfl (i := 0) rfl ?_
    refine V.getR dX10_carries_30 rfl flRX10_22 rfl ⟨by decide, by decide⟩ ?_
    refine V.iconst dX10_carries_33 (v := 1) (by decide) ?_
    refine V.iload_n dX10_carries_34 rfl (i := 2) rfl ?_
    refine V.top1 (x' := nI 1) (by decide) ?_
    refine V.iastN dX10_carries_35 rfl ⟨by decide, by decide⟩ (by first | assumption | decide | omega) (by decide) ?_
    refine V.aload_n dX10_carries_36 rfl (i := 0) rfl ?_
    refine V.getR dX10_carries_37 rfl flRX10_22 rfl ⟨by decide, by decide⟩ ?_
    refine V.iconst dX10_carries_40 (v := 2) (by decide) ?_
    refine V.iload_n dX10_carries_41 rfl (i := 3) rfl ?_
    refine V.top1 (x' := nI 2) (by decide) ?_
    refine V.iastN dX10_carries_42 rfl ⟨by decide, by decide⟩ (by first | assumption | decide | omega) (by decide) ?_
    refine V.aload_n dX10_carries_43 rfl (i := 0) rfl ?_
    refine V.getR dX10_carries_44 rfl flRX10_22 rfl ⟨by decide, by decide⟩ ?_
    refine V.iconst dX10_carries_47 (v := 3) (by decide) ?_
    refine V.iload dX10_carries_48 rfl ?_
    refine V.top1 (x' := nI 3) (by decide) ?_
    refine V.iastN dX10_carries_50 rfl ⟨by decide, by decide⟩ (by first | assumption | decide | omega) (by decide) ?_
    refine V.aload_n dX10_carries_51 rfl (i := 0) rfl ?_
    refine V.getR dX10_carries_52 rfl flRX10_22 rfl ⟨by decide, by decide⟩ ?_
    refine V.iconst dX10_carries_55 (v := 4) (by decide) ?_
    refine V.iload dX10_carries_56 rfl ?_
    refine V.top1 (x' := nI 4) (by decide) ?_
    refine V.iastN dX10_carries_58 rfl ⟨by decide, by decide⟩ (by first | assumption | decide | omega) (by decide) ?_
    refine V.aload_n dX10_carries_59 rfl (i := 0) rfl ?_
    refine V.sipush dX10_carries_60 (v := 203) (by decide) ?_
    refine V.aload_n dX10_carries_63 rfl (i := 0) rfl ?_
    refine V.getR dX10_carries_64 rfl flRX10_7 rfl ⟨by decide, by decide⟩ ?_
    refine V.sipush dX10_carries_67 (v := 181) (by decide) ?_
    refine V.top (x' := nI 181) (by decide) ?_
    refine V.ialdN dX10_carries_70 rfl ⟨by decide, by decide⟩ (by first | assumption | decide | omega) (by decide) ?_
    refine V.top (x' := (nI n)) ((by rw [h84]; exact hn)) ?_
    refine V.iconst dX10_carries_71 (v := 0) (by decide) ?_
    refine V.invv (z := mX10_worked) (As := [_, _, _]) dX10_carries_72 rfl mlRX10_136 okX10_worked npX10_worked rfl rfl rfl ⟨by decide, by decide⟩ (Nat.le_of_ble_eq_true rfl) rfl (Nat.le_of_ble_eq_true rfl) (c_worked (us := 0) (base := 203) (by decide) hn50 (by omega) (fun M1 v b k1 o1 e hK1 h88 hG hB => ?_))
    show V rS g (d + 61) mX10_carries 75 [some (.ref 83), some (.int l), some (.int a), some (.int h), some (.int w), some (.int k)] [.int v] M1 Q
    skip
    rw [h84] at e
    have e2 := hr.symm.trans e
    injection e2 with q1 q2
    injection q2 with q2 q3
    subst q1; subst q2; subst q3
    have hv := (hG ⟨rfl, rfl⟩).2
    have hlen := rdT_len hr
    exact V.ret dX10_carries_75 rfl (Qi (hQ M1 (hK.tr hK1)) (hv.val (by simp only at hlen; omega) hnm).symm)
set_option maxHeartbeats 4000000 in
set_option maxRecDepth 100000 in
theorem c_grazes {g : GG} {d : Nat} {M : Mem} {Q : Option Value → Mem → Prop} {s r m : Int32} {S : List Int32} (hL : LwR M 1 S) (hQ : ∀ M', KpR M M' → Q (some (.int (heldF (vrun S s r m 0 0) 0 99))) M') : V rS g (d + 61) mX10_grazes 0 [some (.ref 83), some (.int s), some (.int r), some (.int m), none] [] M Q := by
  rcases hL with ⟨h0, rfl⟩ | ⟨n, hn1, hn50, hn, hr⟩
  · skip
    refine V.iload_n dX10_grazes_0 rfl (i := 1) rfl ?_
    refine V.iload_n dX10_grazes_1 rfl (i := 2) rfl ?_
    refine V.iadd dX10_grazes_2 ?_
    refine V.iconst dX10_grazes_3 (v := 3) (by decide) ?_
    refine V.isub dX10_grazes_4 ?_
    refine V.istore dX10_grazes_5 (i := 4) (by decide) (fun _ h => by cases h; exact Or.inl rfl) rfl ?_
    refine V.aload_n dX10_grazes_7 rfl (i := 0) rfl ?_
    refine V.getR dX10_grazes_8 rfl flRX10_7 rfl ⟨by decide, by decide⟩ ?_
    refine V.sipush dX10_grazes_11 (v := 182) (by decide) ?_
    refine V.top (x' := nI 182) (by decide) ?_
    refine V.ialdN dX10_grazes_14 rfl ⟨by decide, by decide⟩ (by first | assumption | decide | omega) (by decide) ?_
    refine V.if_le (tgt := 57) dX10_grazes_15 (by decide) (fun c15 => ?_) (fun q => absurd ((by rw [show M 84 182 = 0 from h0]; decide)) q)
    refine V.iload dX10_grazes_57 rfl ?_
    refine V.iconst dX10_grazes_59 (v := 0) (by decide) ?_
    refine V.bipush dX10_grazes_60 (v := 99) (by decide) ?_
    refine V.invs (z := mX10_held) (As := [_, _, _]) dX10_grazes_62 rfl mlRX10_140 okX10_held npX10_held rfl (Nat.le_of_ble_eq_true rfl) rfl (Nat.le_of_ble_eq_true rfl) (c_heldR   ?_)
    show V rS g (d + 61) mX10_grazes 65 [some (.ref 83), some (.int s), some (.int r), some (.int m), some (.int ((s + r) - (3 : Int32)))] [.int (heldR ((s + r) - (3 : Int32)) (0 : Int32) (99 : Int32))] (M) Q
    exact V.ret dX10_grazes_65 rfl (Qi (hQ M KpR.rf) (by rw [held_eq, dfl1_v s r m]))
  · have hK : KpR M (put (put (put M 88 0 s) 88 1 r) 88 2 m) := (((KpR.rf).p88).p88).p88
    have h84 : (put (put (put M 88 0 s) 88 1 r) 88 2 m) 84 = M 84 := by simp only [put_cell (show (84 : Nat) ≠ 88 by decide)]
    have hnm : ∀ j, j < 3 → (fun j => [s, r, m, (0 : Int32), 0].getD j 0) j = (put (put (put M 88 0 s) 88 1 r) 88 2 m) 88 j := by
      intro j hj
      rcases j3 hj with rfl | rfl | rfl <;> simp [put]
    refine V.iload_n dX10_grazes_0 rfl (i := 1) rfl ?_
    refine V.iload_n dX10_grazes_1 rfl (i := 2) rfl ?_
    refine V.iadd dX10_grazes_2 ?_
    refine V.iconst dX10_grazes_3 (v := 3) (by decide) ?_
    refine V.isub dX10_grazes_4 ?_
    refine V.istore dX10_grazes_5 (i := 4) (by decide) (fun _ h => by cases h; exact Or.inl rfl) rfl ?_
    refine V.aload_n dX10_grazes_7 rfl (i := 0) rfl ?_
    refine V.getR dX10_grazes_8 rfl flRX10_7 rfl ⟨by decide, by decide⟩ ?_
    refine V.sipush dX10_grazes_11 (v := 182) (by decide) ?_
    refine V.top (x' := nI 182) (by decide) ?_
    refine V.ialdN dX10_grazes_14 rfl ⟨by decide, by decide⟩ (by first | assumption | decide | omega) (by decide) ?_
    refine V.if_le (tgt := 57) dX10_grazes_15 (by decide) (fun q => absurd q ((by rw [show M 84 182 = nI n from hn]; exact nI_nle (by omega) (by omega)))) (fun c15 => ?_)
    refine V.aload_n dX10_grazes_18 rfl (i := 0) rfl ?_
    refine V.getR dX10_grazes_19 rfl flRX10_22 rfl ⟨by decide, by decide⟩ ?_
    refine V.iconst dX10_grazes_22 (v := 0) (by decide) ?_
    refine V.iload_n dX10_grazes_23 rfl (i := 1) rfl ?_
    refine V.top1 (x' := nI 0) (by decide) ?_
    refine V.iastN dX10_grazes_24 rfl ⟨by decide, by decide⟩ (by first | assumption | decide | omega) (by decide) ?_
    refine V.aload_n dX10_grazes_25 rfl (i := 0) rfl ?_
    refine V.getR dX10_grazes_26 rfl flRX10_22 rfl ⟨by decide, by decide⟩ ?_
    refine V.iconst dX10_grazes_29 (v := 1) (by decide) ?_
    refine V.iload_n dX10_grazes_30 rfl (i := 2) rfl ?_
    refine V.top1 (x' := nI 1) (by decide) ?_
    refine V.iastN dX10_grazes_31 rfl ⟨by decide, by decide⟩ (by first | assumption | decide | omega) (by decide) ?_
    refine V.aload_n dX10_grazes_32 rfl (i := 0) rfl ?_
    refine V.getR dX10_grazes_33 rfl flRX10_22 rfl ⟨by decide, by decide⟩ ?_
    refine V.iconst dX10_grazes_36 (v := 2) (by decide) ?_
    refine V.iload_n dX10_grazes_37 rfl (i := 3) rfl ?_
    refine V.top1 (x' := nI 2) (by decide) ?_
    refine V.iastN dX10_grazes_38 rfl ⟨by decide, by decide⟩ (by first | assumption | decide | omega) (by decide) ?_
    refine V.aload_n dX10_grazes_39 rfl (i := 0) rfl ?_
    refine V.sipush dX10_grazes_40 (v := 253) (by decide) ?_
    refine V.aload_n dX10_grazes_43 rfl (i := 0) rfl ?_
    refine V.getR dX10_grazes_44 rfl flRX10_7 rfl ⟨by decide, by decide⟩ ?_
    refine V.sipush dX10_grazes_47 (v := 182) (by decide) ?_
    refine V.top (x' := nI 182) (by decide) ?_
    refine V.ialdN dX10_grazes_50 rfl ⟨by decide, by decide⟩ (by first | assumption | decide | omega) (by decide) ?_
    refine V.top (x' := (nI n)) ((by rw [h84]; exact hn)) ?_
    refine V.iconst dX10_grazes_51 (v := 1) (by decide) ?_
    refine V.invv (z := mX10_worked) (As := [_, _, _]) dX10_grazes_52 rfl mlRX10_136 okX10_worked npX10_worked rfl rfl rfl ⟨by decide, by decide⟩ (Nat.le_of_ble_eq_true rfl) rfl (Nat.le_of_ble_eq_true rfl) (c_worked (us := 1) (base := 253) (by decide) hn50 (by omega) (fun M1 v b k1 o1 e hK1 h88 hG hB => ?_))
    show V rS g (d + 61) mX10_grazes 55 [some (.ref 83), some (.int s), some (.int r), some (.int m), some (.int ((s + r) - (3 : Int32)))] [.int v] M1 Q
    skip
    rw [h84] at e
    have e2 := hr.symm.trans e
    injection e2 with q1 q2
    injection q2 with q2 q3
    subst q1; subst q2; subst q3
    have hv := (hG ⟨rfl, rfl⟩).2
    have hlen := rdT_len hr
    refine V.istore dX10_grazes_55 (i := 4) (by decide) (fun _ h => by cases h; exact Or.inl rfl) rfl ?_
    refine V.iload dX10_grazes_57 rfl ?_
    refine V.iconst dX10_grazes_59 (v := 0) (by decide) ?_
    refine V.bipush dX10_grazes_60 (v := 99) (by decide) ?_
    refine V.invs (z := mX10_held) (As := [_, _, _]) dX10_grazes_62 rfl mlRX10_140 okX10_held npX10_held rfl (Nat.le_of_ble_eq_true rfl) rfl (Nat.le_of_ble_eq_true rfl) (c_heldR   ?_)
    show V rS g (d + 61) mX10_grazes 65 [some (.ref 83), some (.int s), some (.int r), some (.int m), some (.int v)] [.int (heldR v (0 : Int32) (99 : Int32))] (M1) Q
    exact V.ret dX10_grazes_65 rfl (Qi (hQ M1 (hK.tr hK1)) (by rw [held_eq]; unfold vrun; rw [hv.val (by simp only at hlen; omega) hnm]))
set_option maxHeartbeats 4000000 in
set_option maxRecDepth 100000 in
theorem c10_law {g : GG} {d : Nat} {M : Mem} {Q : Option Value → Mem → Prop} {u a b c e : Int32} {S0 S1 : List Int32} (hL0 : LwR M 0 S0) (hL1 : LwR M 1 S1) (hbad : ¬ (0 ≤ u ∧ u ≤ 1) → Q (some (.int (-1000000001))) (put M 87 1 (M 87 1 + 1))) (hcar : u = 0 → ∀ M', KpR M M' → Q (some (.int (vrun S0 a b c e 0))) M') (hgr : u = 1 → ∀ M', KpR M M' → Q (some (.int (heldF (vrun S1 a b c 0 0) 0 99))) M') : V rS g (d + 62) mX10_law 0 [some (.ref 83), some (.int u), some (.int a), some (.int b), some (.int c), some (.int e)] [] M Q := by
  refine V.iload_n dX10_law_0 rfl (i := 1) rfl ?_
  refine V.if_ne (tgt := 18) dX10_law_1 (by decide) (fun c1 => ?_) (fun c1 => ?_)
  · refine V.iload_n dX10_law_18 rfl (i := 1) rfl ?_
    refine V.iconst dX10_law_19 (v := 1) (by decide) ?_
    refine V.ic_ne (tgt := 34) dX10_law_20 (by decide) (fun c20 => ?_) (fun c20 => ?_)
    · refine V.aload_n dX10_law_34 rfl (i := 0) rfl ?_
      refine V.iconst dX10_law_35 (v := 1) (by decide) ?_
      refine V.invv (z := mX10_finds) (As := [_]) dX10_law_36 rfl mlRX10_131 okX10_finds npX10_finds rfl rfl rfl ⟨by decide, by decide⟩ (Nat.le_of_ble_eq_true rfl) rfl (Nat.le_of_ble_eq_true rfl) (c_fnd1   ?_)
      show V rS g (d + 62) mX10_law 39 [some (.ref 83), some (.int u), some (.int a), some (.int b), some (.int c), some (.int e)] [.int (-1000000001 : Int32)] (put M 87 1 (M 87 1 + 1)) Q
      exact V.ret dX10_law_39 rfl (by first | exact hcar c1 M1 hM1 | exact hgr c20 M1 hM1 | exact hbad (fun z => by simp only [Int32.lt_iff_toInt_lt, Int32.le_iff_toInt_le, ← Int32.toInt_inj, Int32.reduceToInt] at *; omega))
    · refine V.aload_n dX10_law_23 rfl (i := 0) rfl ?_
      refine V.iload_n dX10_law_24 rfl (i := 2) rfl ?_
      refine V.iload_n dX10_law_25 rfl (i := 3) rfl ?_
      refine V.iload dX10_law_26 rfl ?_
      refine V.invv (z := mX10_grazes) (As := [_, _, _]) dX10_law_28 rfl mlRX10_147 okX10_grazes npX10_grazes rfl rfl rfl ⟨by decide, by decide⟩ (Nat.le_of_ble_eq_true rfl) rfl (Nat.le_of_ble_eq_true rfl) (c_grazes hL1 (fun M1 hM1 => ?_))
      show V rS g (d + 62) mX10_law 31 [some (.ref 83), some (.int u), some (.int a), some (.int b), some (.int c), some (.int e)] [.int (heldF (vrun S1 a b c 0 0) 0 99)] M1 Q
      refine V.goto dX10_law_31 (tgt := 39) (by decide) ?_
      exact V.ret dX10_law_39 rfl (by first | exact hcar c1 M1 hM1 | exact hgr c20 M1 hM1 | exact hbad (fun z => by simp only [Int32.lt_iff_toInt_lt, Int32.le_iff_toInt_le, ← Int32.toInt_inj, Int32.reduceToInt] at *; omega))
  · refine V.aload_n dX10_law_4 rfl (i := 0) rfl ?_
    refine V.iload_n dX10_law_5 rfl (i := 2) rfl ?_
    refine V.iload_n dX10_law_6 rfl (i := 3) rfl ?_
    refine V.iload dX10_law_7 rfl ?_
    refine V.iload dX10_law_9 rfl ?_
    refine V.iconst dX10_law_11 (v := 0) (by decide) ?_
    refine V.invv (z := mX10_carries) (As := [_, _, _, _, _]) dX10_law_12 rfl mlRX10_143 okX10_carries npX10_carries rfl rfl rfl ⟨by decide, by decide⟩ (Nat.le_of_ble_eq_true rfl) rfl (Nat.le_of_ble_eq_true rfl) (c_carries hL0 (fun M1 hM1 => ?_))
    show V rS g (d + 62) mX10_law 15 [some (.ref 83), some (.int u), some (.int a), some (.int b), some (.int c), some (.int e)] [.int (vrun S0 a b c e 0)] M1 Q
    refine V.goto dX10_law_15 (tgt := 39) (by decide) ?_
    exact V.ret dX10_law_39 rfl (by first | exact hcar c1 M1 hM1 | exact hgr c20 M1 hM1 | exact hbad (fun z => by simp only [Int32.lt_iff_toInt_lt, Int32.le_iff_toInt_le, ← Int32.toInt_inj, Int32.reduceToInt] at *; omega))
/-- how strong, by steps and hills -/
def strT (S : List Int32) (hb : Nat → Int32) (k l f t w : Int32) : Int32 := vrun S l (farF f t) (hidS hb f t) (windS f t w) k
def BB (M : Mem) (b : Nat) : Prop := rg 0 99 (M 84 (108 + 7 * b + 2)) ∧ (M 84 (108 + 7 * b + 6) = 0 ∨ M 84 (108 + 7 * b + 6) = 1)
def stR (M : Mem) (h : Int32) (b : Nat) : Bool := strk (M 84 (108 + 7 * b + 0)) (M 84 (108 + 7 * b + 1)) (M 84 (108 + 7 * b + 6)) h
def hpR (S : List Int32) (M : Mem) (h : Int32) (b e : Nat) : Bool := stR M h b && decide (0 < strT S (hbR M) (M 84 (108 + 7 * b + 0)) (M 84 (108 + 7 * b + 3)) (M 84 (108 + 7 * b + 2)) (M 84 (171 + e)) (M 84 100))
def wyR (M : Mem) (b e : Nat) : Int32 := wayF (M 84 (108 + 7 * b + 2)) (M 84 (171 + e)) (M 84 100)
/-- the ranges that the reference keeps -/
def VR (S : List Int32) (M : Mem) (n ne : Nat) : Prop := M 84 103 = nI n ∧ n ≤ 8 ∧ M 84 104 = nI ne ∧ ne ≤ 10 ∧ rg (-5) 5 (M 84 100) ∧ LwR M 0 S ∧ (∀ b, b < n → BB M b) ∧ ∀ e, e < ne → rg 0 99 (M 84 (171 + e))
theorem VR.eq {S : List Int32} {M M' : Mem} {n ne : Nat} (h : VR S M n ne) (e : M' 84 = M 84) : VR S M' n ne := by unfold VR BB LwR; rw [e]; exact h
theorem BB.eq {M M' : Mem} {b : Nat} (h : BB M b) (e : M' 84 = M 84) : BB M' b := by unfold BB; rw [e]; exact h
theorem hbR_eq {M M' : Mem} (e : M' 84 = M 84) : hbR M' = hbR M := by unfold hbR; rw [e]
theorem hpR_eq {S : List Int32} {M M' : Mem} {h : Int32} (e : M' 84 = M 84) : hpR S M' h = hpR S M h := by unfold hpR stR; rw [hbR_eq e, e]
theorem wyR_eq {M M' : Mem} (e : M' 84 = M 84) : wyR M' = wyR M := by unfold wyR; rw [e]
/-- what hearing may change -/
def KpH (M M' : Mem) : Prop := (∀ c, c ≠ 83 → c ≠ 88 → c ≠ 89 → c ≠ 90 → M' c = M c) ∧ ∀ j, (j < 5 ∨ 10 < j) → M' 83 j = M 83 j
theorem KpH.rf {M : Mem} : KpH M M := ⟨fun _ _ _ _ _ => rfl, fun _ _ => rfl⟩
theorem KpH.tr {M M1 M2 : Mem} (h : KpH M M1) (h2 : KpH M1 M2) : KpH M M2 := ⟨fun c a b x y => (h2.1 c a b x y).trans (h.1 c a b x y), fun j hj => (h2.2 j hj).trans (h.2 j hj)⟩
theorem KpR.up {M M' : Mem} (h : KpR M M') : KpH M M' := ⟨fun c a b _ _ => h.1 c a b, h.2⟩
theorem KpH.p89 {M M1 : Mem} {j : Nat} {x : Int32} (h : KpH M M1) : KpH M (put M1 89 j x) := ⟨fun c a b e f => by rw [put_cell e]; exact h.1 c a b e f, fun i hi => by rw [put_cell (by decide)]; exact h.2 i hi⟩
theorem KpH.p90 {M M1 : Mem} {j : Nat} {x : Int32} (h : KpH M M1) : KpH M (put M1 90 j x) := ⟨fun c a b e f => by rw [put_cell f]; exact h.1 c a b e f, fun i hi => by rw [put_cell (by decide)]; exact h.2 i hi⟩
theorem KpH.d {M M1 : Mem} (h : KpH M M1) : M1 84 = M 84 := h.1 84 (by decide) (by decide) (by decide) (by decide)
/-- who is there, by what ways, in the reference's rows -/
def HdR (M : Mem) (hp : Nat → Nat → Bool) (wy : Nat → Nat → Int32) (n ne : Nat) : Prop := ∀ b e, b < n → e < ne → M 90 (10 * b + e) = b2i (hp b e = true) ∧ M 89 (10 * b + e) = wy b e

set_option maxHeartbeats 4000000 in
set_option maxRecDepth 100000 in
theorem c_strOf {g : GG} {d : Nat} {M : Mem} {Q : Option Value → Mem → Prop} {b e : Nat} {S : List Int32} (hL : LwR M 0 S) (hb : b ≤ 8) (he : e < 10) (hf : rg 0 99 (M 84 (108 + 7 * b + 2))) (ht : rg 0 99 (M 84 (171 + e))) (hQ : ∀ M', KpR M M' → Q (some (.int (strT S (hbR M) (M 84 (108 + 7 * b + 0)) (M 84 (108 + 7 * b + 3)) (M 84 (108 + 7 * b + 2)) (M 84 (171 + e)) (M 84 100)))) M') : V rS g (d + 62) mX10_strengthOf 0 [some (.ref 83), some (.int (nI b)), some (.int (nI e))] [] M Q := by
  refine V.aload_n dX10_strengthOf_0 rfl (i := 0) rfl ?_
  refine V.aload_n dX10_strengthOf_1 rfl (i := 0) rfl ?_
  refine V.iload_n dX10_strengthOf_2 rfl (i := 1) rfl ?_
  refine V.iconst dX10_strengthOf_3 (v := 3) (by decide) ?_
  refine V.invv (z := mX10_of) (As := [_, _]) dX10_strengthOf_4 rfl mlRX10_175 okX10_of npX10_of rfl rfl rfl ⟨by decide, by decide⟩ (Nat.le_of_ble_eq_true rfl) rfl (Nat.le_of_ble_eq_true rfl) (c_of  (by first | assumption | decide | omega) (by first | assumption | decide | omega) ?_)
  show V rS g (d + 62) mX10_strengthOf 7 [some (.ref 83), some (.int (nI b)), some (.int (nI e))] [.int (M 84 (108 + 7 * b + 3)), .ref 83] (M) Q
  refine V.aload_n dX10_strengthOf_7 rfl (i := 0) rfl ?_
  refine V.iload_n dX10_strengthOf_8 rfl (i := 1) rfl ?_
  refine V.iload_n dX10_strengthOf_9 rfl (i := 2) rfl ?_
  refine V.invv (z := mX10_farOf) (As := [_, _]) dX10_strengthOf_10 rfl mlRX10_202 okX10_farOf npX10_farOf rfl rfl rfl ⟨by decide, by decide⟩ (Nat.le_of_ble_eq_true rfl) rfl (Nat.le_of_ble_eq_true rfl) (c_farOf  (by first | assumption | decide | omega) (by first | assumption | decide | omega) ?_)
  show V rS g (d + 62) mX10_strengthOf 13 [some (.ref 83), some (.int (nI b)), some (.int (nI e))] [.int (farF ((M) 84 (108 + 7 * b + 2)) ((M) 84 (171 + e))), .int (M 84 (108 + 7 * b + 3)), .ref 83] ((M)) Q
  refine V.aload_n dX10_strengthOf_13 rfl (i := 0) rfl ?_
  refine V.iload_n dX10_strengthOf_14 rfl (i := 1) rfl ?_
  refine V.iload_n dX10_strengthOf_15 rfl (i := 2) rfl ?_
  refine V.invv (z := mX10_hidOf) (As := [_, _]) dX10_strengthOf_16 rfl mlRX10_209 okX10_hidOf npX10_hidOf rfl rfl rfl ⟨by decide, by decide⟩ (Nat.le_of_ble_eq_true rfl) rfl (Nat.le_of_ble_eq_true rfl) (c_hidOf  (by first | assumption | decide | omega) (by first | assumption | decide | omega) (by first | assumption | decide | omega) (by first | assumption | decide | omega) ?_)
  show V rS g (d + 62) mX10_strengthOf 19 [some (.ref 83), some (.int (nI b)), some (.int (nI e))] [.int (hidS (hbR ((M))) (((M)) 84 (108 + 7 * b + 2)) (((M)) 84 (171 + e))), .int (farF ((M) 84 (108 + 7 * b + 2)) ((M) 84 (171 + e))), .int (M 84 (108 + 7 * b + 3)), .ref 83] ((M)) Q
  refine V.aload_n dX10_strengthOf_19 rfl (i := 0) rfl ?_
  refine V.iload_n dX10_strengthOf_20 rfl (i := 1) rfl ?_
  refine V.iload_n dX10_strengthOf_21 rfl (i := 2) rfl ?_
  refine V.invv (z := mX10_windOf) (As := [_, _]) dX10_strengthOf_22 rfl mlRX10_205 okX10_windOf npX10_windOf rfl rfl rfl ⟨by decide, by decide⟩ (Nat.le_of_ble_eq_true rfl) rfl (Nat.le_of_ble_eq_true rfl) (c_windOf  (by first | assumption | decide | omega) (by first | assumption | decide | omega) ?_)
  show V rS g (d + 62) mX10_strengthOf 25 [some (.ref 83), some (.int (nI b)), some (.int (nI e))] [.int (windS (((M)) 84 (108 + 7 * b + 2)) (((M)) 84 (171 + e)) (((M)) 84 100)), .int (hidS (hbR ((M))) (((M)) 84 (108 + 7 * b + 2)) (((M)) 84 (171 + e))), .int (farF ((M) 84 (108 + 7 * b + 2)) ((M) 84 (171 + e))), .int (M 84 (108 + 7 * b + 3)), .ref 83] (((M))) Q
  refine V.aload_n dX10_strengthOf_25 rfl (i := 0) rfl ?_
  refine V.iload_n dX10_strengthOf_26 rfl (i := 1) rfl ?_
  refine V.iconst dX10_strengthOf_27 (v := 0) (by decide) ?_
  refine V.invv (z := mX10_of) (As := [_, _]) dX10_strengthOf_28 rfl mlRX10_175 okX10_of npX10_of rfl rfl rfl ⟨by decide, by decide⟩ (Nat.le_of_ble_eq_true rfl) rfl (Nat.le_of_ble_eq_true rfl) (c_of  (by first | assumption | decide | omega) (by first | assumption | decide | omega) ?_)
  show V rS g (d + 62) mX10_strengthOf 31 [some (.ref 83), some (.int (nI b)), some (.int (nI e))] [.int ((((M))) 84 (108 + 7 * b + 0)), .int (windS (((M)) 84 (108 + 7 * b + 2)) (((M)) 84 (171 + e)) (((M)) 84 100)), .int (hidS (hbR ((M))) (((M)) 84 (108 + 7 * b + 2)) (((M)) 84 (171 + e))), .int (farF ((M) 84 (108 + 7 * b + 2)) ((M) 84 (171 + e))), .int (M 84 (108 + 7 * b + 3)), .ref 83] ((((M)))) Q
  refine V.invv (z := mX10_carries) (As := [_, _, _, _, _]) dX10_strengthOf_31 rfl mlRX10_143 okX10_carries npX10_carries rfl rfl rfl ⟨by decide, by decide⟩ (Nat.le_of_ble_eq_true rfl) rfl (Nat.le_of_ble_eq_true rfl) (c_carries hL (fun M1 hM1 => ?_))
  show V rS g (d + 62) mX10_strengthOf 34 [some (.ref 83), some (.int (nI b)), some (.int (nI e))] [.int (strT S (hbR M) (M 84 (108 + 7 * b + 0)) (M 84 (108 + 7 * b + 3)) (M 84 (108 + 7 * b + 2)) (M 84 (171 + e)) (M 84 100))] M1 Q
  exact V.ret dX10_strengthOf_34 rfl (hQ M1 hM1)
set_option maxHeartbeats 4000000 in
set_option maxRecDepth 100000 in
theorem c_isHeard {g : GG} {d : Nat} {M : Mem} {Q : Option Value → Mem → Prop} {b e : Nat} {h : Int32} {S : List Int32} (hL : LwR M 0 S) (hb : b ≤ 8) (he : e < 10) (hB : BB M b) (ht : rg 0 99 (M 84 (171 + e))) (hQ : ∀ M', KpR M M' → Q (some (.int (b2i (hpR S M h b e = true)))) M') : V rS g (d + 63) mX10_isHeard 0 [some (.ref 83), some (.int (nI b)), some (.int (nI e)), some (.int h)] [] M Q := by
  by_cases hs : stR M h b = true
  · by_cases hp : 0 < (strT S (hbR M) (M 84 (108 + 7 * b + 0)) (M 84 (108 + 7 * b + 3)) (M 84 (108 + 7 * b + 2)) (M 84 (171 + e)) (M 84 100))
    · have hv : hpR S M h b e = true := by unfold hpR; rw [hs, decide_eq_true hp]; rfl
      rw [b2i_t hv] at hQ
      refine V.aload_n dX10_isHeard_0 rfl (i := 0) rfl ?_
      refine V.iload_n dX10_isHeard_1 rfl (i := 1) rfl ?_
      refine V.iload_n dX10_isHeard_2 rfl (i := 3) rfl ?_
      refine V.invv (z := mX10_isStruck) (As := [_, _]) dX10_isHeard_3 rfl mlRX10_194 okX10_isStruck npX10_isStruck rfl rfl rfl ⟨by decide, by decide⟩ (Nat.le_of_ble_eq_true rfl) rfl (Nat.le_of_ble_eq_true rfl) (c_struck  (hb) (hB.2) ?_)
      show V rS g (d + 63) mX10_isHeard 6 [some (.ref 83), some (.int (nI b)), some (.int (nI e)), some (.int h)] [.int (b2i (strk (M 84 (108 + 7 * b + 0)) (M 84 (108 + 7 * b + 1)) (M 84 (108 + 7 * b + 6)) h = true))] M Q
      refine V.if_eq (tgt := 22) dX10_isHeard_6 (by decide) (fun q => absurd q ((fun z => b2i_0.mp z hs))) (fun c6 => ?_)
      refine V.aload_n dX10_isHeard_9 rfl (i := 0) rfl ?_
      refine V.iload_n dX10_isHeard_10 rfl (i := 1) rfl ?_
      refine V.iload_n dX10_isHeard_11 rfl (i := 2) rfl ?_
      refine V.invv (z := mX10_strengthOf) (As := [_, _]) dX10_isHeard_12 rfl mlRX10_220 okX10_strengthOf npX10_strengthOf rfl rfl rfl ⟨by decide, by decide⟩ (Nat.le_of_ble_eq_true rfl) rfl (Nat.le_of_ble_eq_true rfl) (c_strOf hL hb he hB.1 ht (fun M1 hM1 => ?_))
      show V rS g (d + 63) mX10_isHeard 15 [some (.ref 83), some (.int (nI b)), some (.int (nI e)), some (.int h)] [.int (strT S (hbR M) (M 84 (108 + 7 * b + 0)) (M 84 (108 + 7 * b + 3)) (M 84 (108 + 7 * b + 2)) (M 84 (171 + e)) (M 84 100))] M1 Q
      refine V.if_le (tgt := 22) dX10_isHeard_15 (by decide) (fun q => absurd q ((Int32.not_le.mpr hp))) (fun c15 => ?_)
      refine V.iconst dX10_isHeard_18 (v := 1) (by decide) ?_
      refine V.goto dX10_isHeard_19 (tgt := 23) (by decide) ?_
      exact V.zret dX10_isHeard_23 rfl (by first | exact Or.inl rfl | exact Or.inr rfl | assumption | exact b2i_zo _ | (repeat' split) <;> first | exact Or.inl rfl | exact Or.inr rfl | assumption | exact b2i_zo _) (hQ M1 hM1)
    · have hv : ¬ hpR S M h b e = true := by unfold hpR; rw [hs, decide_eq_false hp]; decide
      rw [b2i_f hv] at hQ
      refine V.aload_n dX10_isHeard_0 rfl (i := 0) rfl ?_
      refine V.iload_n dX10_isHeard_1 rfl (i := 1) rfl ?_
      refine V.iload_n dX10_isHeard_2 rfl (i := 3) rfl ?_
      refine V.invv (z := mX10_isStruck) (As := [_, _]) dX10_isHeard_3 rfl mlRX10_194 okX10_isStruck npX10_isStruck rfl rfl rfl ⟨by decide, by decide⟩ (Nat.le_of_ble_eq_true rfl) rfl (Nat.le_of_ble_eq_true rfl) (c_struck  (hb) (hB.2) ?_)
      show V rS g (d + 63) mX10_isHeard 6 [some (.ref 83), some (.int (nI b)), some (.int (nI e)), some (.int h)] [.int (b2i (strk (M 84 (108 + 7 * b + 0)) (M 84 (108 + 7 * b + 1)) (M 84 (108 + 7 * b + 6)) h = true))] M Q
      refine V.if_eq (tgt := 22) dX10_isHeard_6 (by decide) (fun q => absurd q ((fun z => b2i_0.mp z hs))) (fun c6 => ?_)
      refine V.aload_n dX10_isHeard_9 rfl (i := 0) rfl ?_
      refine V.iload_n dX10_isHeard_10 rfl (i := 1) rfl ?_
      refine V.iload_n dX10_isHeard_11 rfl (i := 2) rfl ?_
      refine V.invv (z := mX10_strengthOf) (As := [_, _]) dX10_isHeard_12 rfl mlRX10_220 okX10_strengthOf npX10_strengthOf rfl rfl rfl ⟨by decide, by decide⟩ (Nat.le_of_ble_eq_true rfl) rfl (Nat.le_of_ble_eq_true rfl) (c_strOf hL hb he hB.1 ht (fun M1 hM1 => ?_))
      show V rS g (d + 63) mX10_isHeard 15 [some (.ref 83), some (.int (nI b)), some (.int (nI e)), some (.int h)] [.int (strT S (hbR M) (M 84 (108 + 7 * b + 0)) (M 84 (108 + 7 * b + 3)) (M 84 (108 + 7 * b + 2)) (M 84 (171 + e)) (M 84 100))] M1 Q
      refine V.if_le (tgt := 22) dX10_isHeard_15 (by decide) (fun c15 => ?_) (fun q => absurd ((Int32.not_lt.mp hp)) q)
      refine V.iconst dX10_isHeard_22 (v := 0) (by decide) ?_
      exact V.zret dX10_isHeard_23 rfl (by first | exact Or.inl rfl | exact Or.inr rfl | assumption | exact b2i_zo _ | (repeat' split) <;> first | exact Or.inl rfl | exact Or.inr rfl | assumption | exact b2i_zo _) (hQ M1 hM1)
  · have hv : ¬ hpR S M h b e = true := by unfold hpR; rw [Bool.eq_false_iff.mpr hs, Bool.false_and]; exact Bool.false_ne_true
    rw [b2i_f hv] at hQ
    refine V.aload_n dX10_isHeard_0 rfl (i := 0) rfl ?_
    refine V.iload_n dX10_isHeard_1 rfl (i := 1) rfl ?_
    refine V.iload_n dX10_isHeard_2 rfl (i := 3) rfl ?_
    refine V.invv (z := mX10_isStruck) (As := [_, _]) dX10_isHeard_3 rfl mlRX10_194 okX10_isStruck npX10_isStruck rfl rfl rfl ⟨by decide, by decide⟩ (Nat.le_of_ble_eq_true rfl) rfl (Nat.le_of_ble_eq_true rfl) (c_struck  (hb) (hB.2) ?_)
    show V rS g (d + 63) mX10_isHeard 6 [some (.ref 83), some (.int (nI b)), some (.int (nI e)), some (.int h)] [.int (b2i (strk (M 84 (108 + 7 * b + 0)) (M 84 (108 + 7 * b + 1)) (M 84 (108 + 7 * b + 6)) h = true))] M Q
    refine V.if_eq (tgt := 22) dX10_isHeard_6 (by decide) (fun c6 => ?_) (fun q => absurd ((b2i_f hs)) q)
    refine V.iconst dX10_isHeard_22 (v := 0) (by decide) ?_
    exact V.zret dX10_isHeard_23 rfl (by first | exact Or.inl rfl | exact Or.inr rfl | assumption | exact b2i_zo _ | (repeat' split) <;> first | exact Or.inl rfl | exact Or.inr rfl | assumption | exact b2i_zo _) (hQ M KpR.rf)
set_option maxHeartbeats 4000000 in
set_option maxRecDepth 100000 in
theorem l_hears {g : GG} {d : Nat} {Q : Option Value → Mem → Prop} {M0 : Mem} {S : List Int32} {n ne b : Nat} {h : Int32} (hV : VR S M0 n ne) (hb : b ≤ 8) (hB : BB M0 b) (hQ : ∀ M', KpH M0 M' → (∀ e, e < ne → M' 90 (10 * b + e) = b2i (hpR S M0 h b e = true) ∧ M' 89 (10 * b + e) = wyR M0 b e) → (∀ j, (j < 10 * b ∨ 10 * b + 10 ≤ j) → M' 90 j = M0 90 j ∧ M' 89 j = M0 89 j) → Q none M') : ∀ (k e : Nat) (M : Mem), e + k = ne → KpH M0 M → (∀ e', e' < e → M 90 (10 * b + e') = b2i (hpR S M0 h b e' = true) ∧ M 89 (10 * b + e') = wyR M0 b e') → (∀ j, (j < 10 * b ∨ 10 * b + 10 ≤ j) → M 90 j = M0 90 j ∧ M 89 j = M0 89 j) → V rS g (d + 64) mX10_hears 2 [some (.ref 83), some (.int (nI b)), some (.int h), some (.int (nI e))] [] M Q := by
  have h10 := hV.2.2.2.1
  intro k
  induction k with
  | zero =>
    intro e M hk hM h1 h2
    obtain rfl : e = ne := by omega
    refine V.iload_n dX10_hears_2 rfl (i := 3) rfl ?_
    refine V.aload_n dX10_hears_3 rfl (i := 0) rfl ?_
    refine V.getR dX10_hears_4 rfl flRX10_7 rfl ⟨by decide, by decide⟩ ?_
    refine V.bipush dX10_hears_7 (v := 104) (by decide) ?_
    refine V.top (x' := nI 104) (by decide) ?_
    refine V.ialdN dX10_hears_9 rfl ⟨by decide, by decide⟩ (by first | assumption | decide | omega) (by decide) ?_
    refine V.top (x' := (nI e)) ((by rw [hM.d]; exact hV.2.2.1)) ?_
    refine V.ic_ge (tgt := 54) dX10_hears_10 (by decide) (fun c10 => ?_) (fun q => absurd ((Int32.le_refl _)) q)
    exact V.vret dX10_hears_54 rfl (hQ M hM h1 h2)
  | succ k ih =>
    intro e M hk hM h1 h2
    have hVM := hV.eq hM.d
    have he10 : e < 10 := by omega
    have hix : 10 * b + e < 90 := by omega
    refine V.iload_n dX10_hears_2 rfl (i := 3) rfl ?_
    refine V.aload_n dX10_hears_3 rfl (i := 0) rfl ?_
    refine V.getR dX10_hears_4 rfl flRX10_7 rfl ⟨by decide, by decide⟩ ?_
    refine V.bipush dX10_hears_7 (v := 104) (by decide) ?_
    refine V.top (x' := nI 104) (by decide) ?_
    refine V.ialdN dX10_hears_9 rfl ⟨by decide, by decide⟩ (by first | assumption | decide | omega) (by decide) ?_
    refine V.top (x' := (nI ne)) (hVM.2.2.1) ?_
    refine V.ic_ge (tgt := 54) dX10_hears_10 (by decide) (fun q => absurd q ((nI_ge (a := e) (b := ne) (by omega) (by omega)))) (fun c10 => ?_)
    refine V.aload_n dX10_hears_13 rfl (i := 0) rfl ?_
    refine V.getR dX10_hears_14 rfl flRX10_25 rfl ⟨by decide, by decide⟩ ?_
    refine V.bipush dX10_hears_17 (v := 10) (by decide) ?_
    refine V.iload_n dX10_hears_19 rfl (i := 1) rfl ?_
    refine V.imul dX10_hears_20 ?_
    refine V.top (x' := (nI (10 * b))) (pk_mul 10 b) ?_
    refine V.iload_n dX10_hears_21 rfl (i := 3) rfl ?_
    refine V.iadd dX10_hears_22 ?_
    refine V.top (x' := (nI ((10 * b) + e))) (nI_add (10 * b) e) ?_
    refine V.aload_n dX10_hears_23 rfl (i := 0) rfl ?_
    refine V.iload_n dX10_hears_24 rfl (i := 1) rfl ?_
    refine V.iload_n dX10_hears_25 rfl (i := 3) rfl ?_
    refine V.invv (z := mX10_wayOf) (As := [_, _]) dX10_hears_26 rfl mlRX10_217 okX10_wayOf npX10_wayOf rfl rfl rfl ⟨by decide, by decide⟩ (Nat.le_of_ble_eq_true rfl) rfl (Nat.le_of_ble_eq_true rfl) (c_wayOf  (hb) (he10) ((hB.eq hM.d).1) (hVM.2.2.2.2.2.2.2 e (by omega)) (hVM.2.2.2.2.1) ?_)
    show V rS g (d + 64) mX10_hears 29 [some (.ref 83), some (.int (nI b)), some (.int h), some (.int (nI e))] [.int (wayF (M 84 (108 + 7 * b + 2)) (M 84 (171 + e)) (M 84 100)), .int (nI ((10 * b) + e)), .ref 89] M Q
    refine V.iastN dX10_hears_29 rfl ⟨by decide, by decide⟩ (by first | assumption | decide | omega) (by decide) ?_
    refine V.aload_n dX10_hears_30 rfl (i := 0) rfl ?_
    refine V.getR dX10_hears_31 rfl flRX10_28 rfl ⟨by decide, by decide⟩ ?_
    refine V.bipush dX10_hears_34 (v := 10) (by decide) ?_
    refine V.iload_n dX10_hears_36 rfl (i := 1) rfl ?_
    refine V.imul dX10_hears_37 ?_
    refine V.top (x' := (nI (10 * b))) (pk_mul 10 b) ?_
    refine V.iload_n dX10_hears_38 rfl (i := 3) rfl ?_
    refine V.iadd dX10_hears_39 ?_
    refine V.top (x' := (nI ((10 * b) + e))) (nI_add (10 * b) e) ?_
    refine V.aload_n dX10_hears_40 rfl (i := 0) rfl ?_
    refine V.iload_n dX10_hears_41 rfl (i := 1) rfl ?_
    refine V.iload_n dX10_hears_42 rfl (i := 3) rfl ?_
    refine V.iload_n dX10_hears_43 rfl (i := 2) rfl ?_
    refine V.invv (z := mX10_isHeard) (As := [_, _, _]) dX10_hears_44 rfl mlRX10_223 okX10_isHeard npX10_isHeard rfl rfl rfl ⟨by decide, by decide⟩ (Nat.le_of_ble_eq_true rfl) rfl (Nat.le_of_ble_eq_true rfl) (c_isHeard (S := S) (hVM.eq (put_cell (by decide))).2.2.2.2.2.1 hb he10 (hB.eq ((put_cell (by decide)).trans hM.d)) (by rw [put_cell (by decide)]; exact hVM.2.2.2.2.2.2.2 e (by omega)) (fun M1 hM1 => ?_))
    show V rS g (d + 64) mX10_hears 47 [some (.ref 83), some (.int (nI b)), some (.int h), some (.int (nI e))] [.int (b2i (hpR S (put M 89 (10 * b + e) (wayF (M 84 (108 + 7 * b + 2)) (M 84 (171 + e)) (M 84 100))) h b e = true)), .int (nI ((10 * b) + e)), .ref 90] M1 Q
    refine V.zastN dX10_hears_47 rfl ⟨by decide, by decide⟩ (hix) (by decide) (b2i_zo _) ?_
    refine V.iinc dX10_hears_48 rfl (v := (nI (e + 1))) (nI_1 _) (by decide) (fun _ h => by cases h; exact Or.inl rfl) rfl ?_
    refine V.goto dX10_hears_51 (tgt := 2) (by decide) ?_
    refine ih (e + 1) _ (by omega) ((hM.p89.tr hM1.up).p90) (fun e' h' => ?_) (fun j hj => ?_)
    · rw [put_cell (show (89 : Nat) ≠ 90 by decide), hM1.1 89 (by decide) (by decide)]
      by_cases q : e' = e
      · subst q
        rw [put_s, put_s, hpR_eq ((put_cell (by decide)).trans hM.d)]
        exact ⟨rfl, by rw [hM.d]; rfl⟩
      · rw [put_n (fun z => by omega), put_n (fun z => by omega), hM1.1 90 (by decide) (by decide), put_cell (by decide)]
        exact h1 e' (by omega)
    · rw [put_cell (show (89 : Nat) ≠ 90 by decide), hM1.1 89 (by decide) (by decide), put_n (fun z => by omega), put_n (fun z => by omega), hM1.1 90 (by decide) (by decide), put_cell (by decide)]
      exact h2 j hj
set_option maxHeartbeats 4000000 in
set_option maxRecDepth 100000 in
theorem c_hears {g : GG} {d : Nat} {M : Mem} {Q : Option Value → Mem → Prop} {S : List Int32} {n ne b : Nat} {h : Int32} (hV : VR S M n ne) (hb : b ≤ 8) (hB : BB M b) (hQ : ∀ M', KpH M M' → (∀ e, e < ne → M' 90 (10 * b + e) = b2i (hpR S M h b e = true) ∧ M' 89 (10 * b + e) = wyR M b e) → (∀ j, (j < 10 * b ∨ 10 * b + 10 ≤ j) → M' 90 j = M 90 j ∧ M' 89 j = M 89 j) → Q none M') : V rS g (d + 64) mX10_hears 0 [some (.ref 83), some (.int (nI b)), some (.int h), none] [] M Q := by
  refine V.iconst dX10_hears_0 (v := 0) (by decide) ?_
  refine V.istore_n dX10_hears_1 rfl (i := 3) (by decide) (fun _ h => by cases h; exact Or.inl rfl) rfl ?_
  exact l_hears hV hb hB hQ ne 0 M (by omega) KpH.rf (fun _ z => absurd z (Nat.not_lt_zero _)) (fun _ _ => ⟨rfl, rfl⟩)
set_option maxHeartbeats 4000000 in
set_option maxRecDepth 100000 in
theorem l_all {g : GG} {d : Nat} {Q : Option Value → Mem → Prop} {M0 : Mem} {S : List Int32} {n ne : Nat} {h : Int32} (hV : VR S M0 n ne) (hQ : ∀ M', KpH M0 M' → HdR M' (hpR S M0 h) (wyR M0) n ne → Q none M') : ∀ (k b : Nat) (M : Mem), b + k = n → KpH M0 M → HdR M (hpR S M0 h) (wyR M0) b ne → V rS g (d + 65) mX10_hearsAll 2 [some (.ref 83), some (.int h), some (.int (nI b))] [] M Q := by
  have h8 := hV.2.1
  have h10 := hV.2.2.2.1
  intro k
  induction k with
  | zero =>
    intro b M hk hM h1
    obtain rfl : b = n := by omega
    refine V.iload_n dX10_hearsAll_2 rfl (i := 2) rfl ?_
    refine V.aload_n dX10_hearsAll_3 rfl (i := 0) rfl ?_
    refine V.getR dX10_hearsAll_4 rfl flRX10_7 rfl ⟨by decide, by decide⟩ ?_
    refine V.bipush dX10_hearsAll_7 (v := 103) (by decide) ?_
    refine V.top (x' := nI 103) (by decide) ?_
    refine V.ialdN dX10_hearsAll_9 rfl ⟨by decide, by decide⟩ (by first | assumption | decide | omega) (by decide) ?_
    refine V.top (x' := (nI b)) ((by rw [hM.d]; exact hV.1)) ?_
    refine V.ic_ge (tgt := 25) dX10_hearsAll_10 (by decide) (fun c10 => ?_) (fun q => absurd ((Int32.le_refl _)) q)
    exact V.vret dX10_hearsAll_25 rfl (hQ M hM h1)
  | succ k ih =>
    intro b M hk hM h1
    have hVM := hV.eq hM.d
    refine V.iload_n dX10_hearsAll_2 rfl (i := 2) rfl ?_
    refine V.aload_n dX10_hearsAll_3 rfl (i := 0) rfl ?_
    refine V.getR dX10_hearsAll_4 rfl flRX10_7 rfl ⟨by decide, by decide⟩ ?_
    refine V.bipush dX10_hearsAll_7 (v := 103) (by decide) ?_
    refine V.top (x' := nI 103) (by decide) ?_
    refine V.ialdN dX10_hearsAll_9 rfl ⟨by decide, by decide⟩ (by first | assumption | decide | omega) (by decide) ?_
    refine V.top (x' := (nI n)) (hVM.1) ?_
    refine V.ic_ge (tgt := 25) dX10_hearsAll_10 (by decide) (fun q => absurd q ((nI_ge (a := b) (b := n) (by omega) (by omega)))) (fun c10 => ?_)
    refine V.aload_n dX10_hearsAll_13 rfl (i := 0) rfl ?_
    refine V.iload_n dX10_hearsAll_14 rfl (i := 2) rfl ?_
    refine V.iload_n dX10_hearsAll_15 rfl (i := 1) rfl ?_
    refine V.invv (z := mX10_hears) (As := [_, _]) dX10_hearsAll_16 rfl mlRX10_227 okX10_hears npX10_hears rfl rfl rfl ⟨by decide, by decide⟩ (Nat.le_of_ble_eq_true rfl) rfl (Nat.le_of_ble_eq_true rfl) (c_hears hVM (by omega) (hVM.2.2.2.2.2.2.1 b (by omega)) (fun M1 hM1 g1 g2 => ?_))
    show V rS g (d + 65) mX10_hearsAll 19 [some (.ref 83), some (.int h), some (.int (nI b))] [] M1 Q
    refine V.iinc dX10_hearsAll_19 rfl (v := (nI (b + 1))) (nI_1 _) (by decide) (fun _ h => by cases h; exact Or.inl rfl) rfl ?_
    refine V.goto dX10_hearsAll_22 (tgt := 2) (by decide) ?_
    refine ih (b + 1) M1 (by omega) (hM.tr hM1) (fun b' e hb' he => ?_)
    by_cases q : b' = b
    · subst q
      have := g1 e he
      rw [hpR_eq hM.d, wyR_eq hM.d] at this
      exact this
    · rw [(g2 (10 * b' + e) (by omega)).1, (g2 (10 * b' + e) (by omega)).2]
      exact h1 b' e (by omega) he
set_option maxHeartbeats 4000000 in
set_option maxRecDepth 100000 in
theorem c_all {g : GG} {d : Nat} {M : Mem} {Q : Option Value → Mem → Prop} {S : List Int32} {n ne : Nat} {h : Int32} (hV : VR S M n ne) (hQ : ∀ M', KpH M M' → HdR M' (hpR S M h) (wyR M) n ne → Q none M') : V rS g (d + 65) mX10_hearsAll 0 [some (.ref 83), some (.int h), none] [] M Q := by
  refine V.iconst dX10_hearsAll_0 (v := 0) (by decide) ?_
  refine V.istore_n dX10_hearsAll_1 rfl (i := 2) (by decide) (fun _ h => by cases h; exact Or.inl rfl) rfl ?_
  exact l_all hV hQ n 0 M (by omega) KpH.rf (fun _ _ z => absurd z (Nat.not_lt_zero _))
theorem bI_ore {p : Nat → Bool} {b : Nat} (hb : b < 31) : bI p b ||| (if b2i (p b = true) = (0 : Int32) then (0 : Int32) else ((1 : Int32) <<< ((nI b) &&& (31 : Int32)))) = bI p (b + 1) := by
  by_cases h : p b = true
  · rw [b2i_t h, if_neg (by decide), bI_t hb h]
  · rw [b2i_f h, if_pos rfl, bI_f h, Int32.or_zero]

set_option maxHeartbeats 4000000 in
set_option maxRecDepth 100000 in
theorem l_heardR {g : GG} {d : Nat} {Q : Option Value → Mem → Prop} {M0 : Mem} {S : List Int32} {n ne e : Nat} {h : Int32} (hV : VR S M0 n ne) (he : e < ne) (hQ : ∀ M', KpR M0 M' → Q (some (.int (bI (fun b => hpR S M0 h b e) n))) M') : ∀ (k b : Nat) (M : Mem), b + k = n → KpR M0 M → V rS g (d + 64) mX10_heard 26 [some (.ref 83), some (.int (nI e)), some (.int h), some (.int (bI (fun b => hpR S M0 h b e) b)), some (.int (nI b))] [] M Q := by
  have h8 := hV.2.1
  have h10 := hV.2.2.2.1
  intro k
  induction k with
  | zero =>
    intro b M hk hM
    obtain rfl : b = n := by omega
    refine V.iload dX10_heard_26 rfl ?_
    refine V.aload_n dX10_heard_28 rfl (i := 0) rfl ?_
    refine V.getR dX10_heard_29 rfl flRX10_7 rfl ⟨by decide, by decide⟩ ?_
    refine V.bipush dX10_heard_32 (v := 103) (by decide) ?_
    refine V.top (x' := nI 103) (by decide) ?_
    refine V.ialdN dX10_heard_34 rfl ⟨by decide, by decide⟩ (by first | assumption | decide | omega) (by decide) ?_
    refine V.top (x' := (nI b)) ((by rw [hM.up.d]; exact hV.1)) ?_
    refine V.ic_ge (tgt := 66) dX10_heard_35 (by decide) (fun c35 => ?_) (fun q => absurd ((Int32.le_refl _)) q)
    refine V.iload_n dX10_heard_66 rfl (i := 3) rfl ?_
    exact V.ret dX10_heard_67 rfl (hQ M hM)
  | succ k ih =>
    intro b M hk hM
    have hVM := hV.eq hM.up.d
    refine V.iload dX10_heard_26 rfl ?_
    refine V.aload_n dX10_heard_28 rfl (i := 0) rfl ?_
    refine V.getR dX10_heard_29 rfl flRX10_7 rfl ⟨by decide, by decide⟩ ?_
    refine V.bipush dX10_heard_32 (v := 103) (by decide) ?_
    refine V.top (x' := nI 103) (by decide) ?_
    refine V.ialdN dX10_heard_34 rfl ⟨by decide, by decide⟩ (by first | assumption | decide | omega) (by decide) ?_
    refine V.top (x' := (nI n)) (hVM.1) ?_
    refine V.ic_ge (tgt := 66) dX10_heard_35 (by decide) (fun q => absurd q ((nI_ge (a := b) (b := n) (by omega) (by omega)))) (fun c35 => ?_)
    refine V.iload_n dX10_heard_38 rfl (i := 3) rfl ?_
    refine V.aload_n dX10_heard_39 rfl (i := 0) rfl ?_
    refine V.iload dX10_heard_40 rfl ?_
    refine V.iload_n dX10_heard_42 rfl (i := 1) rfl ?_
    refine V.iload_n dX10_heard_43 rfl (i := 2) rfl ?_
    refine V.invv (z := mX10_isHeard) (As := [_, _, _]) dX10_heard_44 rfl mlRX10_223 okX10_isHeard npX10_isHeard rfl rfl rfl ⟨by decide, by decide⟩ (Nat.le_of_ble_eq_true rfl) rfl (Nat.le_of_ble_eq_true rfl) (c_isHeard (S := S) hVM.2.2.2.2.2.1 (by omega) (by omega) (hVM.2.2.2.2.2.2.1 b (by omega)) (hVM.2.2.2.2.2.2.2 e he) (fun M1 hM1 => ?_))
    show V rS g (d + 64) mX10_heard 47 [some (.ref 83), some (.int (nI e)), some (.int h), some (.int (bI (fun b => hpR S M0 h b e) b)), some (.int (nI b))] [.int (b2i (hpR S M h b e = true)), .int (bI (fun b => hpR S M0 h b e) b)] M1 Q
    refine V.top (x' := (b2i (hpR S M0 h b e = true))) ((by rw [hpR_eq hM.up.d])) ?_
    suffices kJ47 : V rS g (d + 64) mX10_heard 58 [some (.ref 83), some (.int (nI e)), some (.int h), some (.int (bI (fun b => hpR S M0 h b e) b)), some (.int (nI b))] [.int (if (b2i (hpR S M0 h b e = true)) = (0 : Int32) then (0 : Int32) else ((1 : Int32) <<< ((nI b) &&& 31))), .int (bI (fun b => hpR S M0 h b e) b)] M1 Q by
      refine V.if_eq (tgt := 57) dX10_heard_47 (by decide) (fun c47 => ?_) (fun c47 => ?_)
      · refine V.iconst dX10_heard_57 (v := 0) (by decide) ?_
        rw [if_pos c47] at kJ47; exact kJ47
      · refine V.iconst dX10_heard_50 (v := 1) (by decide) ?_
        refine V.iload dX10_heard_51 rfl ?_
        refine V.ishl dX10_heard_53 ?_
        refine V.goto dX10_heard_54 (tgt := 58) (by decide) ?_
        rw [if_neg c47] at kJ47; exact kJ47
    refine V.ior dX10_heard_58 ?_
    refine V.top (x' := (bI (fun b => hpR S M0 h b e) (b + 1))) ((bI_ore (p := fun b => hpR S M0 h b e) (by omega))) ?_
    refine V.istore_n dX10_heard_59 rfl (i := 3) (by decide) (fun _ h => by cases h; exact Or.inl rfl) rfl ?_
    refine V.iinc dX10_heard_60 rfl (v := (nI (b + 1))) (nI_1 _) (by decide) (fun _ h => by cases h; exact Or.inl rfl) rfl ?_
    refine V.goto dX10_heard_63 (tgt := 26) (by decide) ?_
    exact ih (b + 1) M1 (by omega) (hM.tr hM1)
set_option maxHeartbeats 4000000 in
set_option maxRecDepth 100000 in
theorem c10_heard {g : GG} {d : Nat} {M : Mem} {Q : Option Value → Mem → Prop} {a w : Int32} {S : List Int32} {n ne : Nat} (hV : VR S M n ne) (hbad : ¬ ((0 ≤ a ∧ a < nI ne) ∧ 0 ≤ w ∧ w ≤ 23) → Q (some (.int (-1000000001))) (put M 87 1 (M 87 1 + 1))) (hok : ((0 ≤ a ∧ a < nI ne) ∧ 0 ≤ w ∧ w ≤ 23) → ∀ e, e < ne → a = nI e → ∀ M', KpR M M' → Q (some (.int (bI (fun b => hpR S M w b e) n))) M') : V rS g (d + 64) mX10_heard 0 [some (.ref 83), some (.int a), some (.int w), none, none] [] M Q := by
  have h10 := hV.2.2.2.1
  by_cases h : ((0 ≤ a ∧ a < nI ne) ∧ 0 ≤ w ∧ w ≤ 23)
  · obtain ⟨e, he, rfl⟩ := nI_ex (n := ne) (by omega) h.1.1 h.1.2
    refine V.aload_n dX10_heard_0 rfl (i := 0) rfl ?_
    refine V.iload_n dX10_heard_1 rfl (i := 1) rfl ?_
    refine V.invv (z := mX10_isEar) (As := [_]) dX10_heard_2 rfl mlRX10_212 okX10_isEar npX10_isEar rfl rfl rfl ⟨by decide, by decide⟩ (Nat.le_of_ble_eq_true rfl) rfl (Nat.le_of_ble_eq_true rfl) (c_earR hV.2.2.1 h10 ?_)
    show V rS g (d + 64) mX10_heard 5 [some (.ref 83), some (.int (nI e)), some (.int w), none, none] [.int (b2i (0 ≤ nI e ∧ nI e < nI ne))] M Q
    refine V.if_eq (tgt := 15) dX10_heard_5 (by decide) (fun q => absurd q ((fun z => b2i_0.mp z h.1))) (fun c5 => ?_)
    refine V.iload_n dX10_heard_8 rfl (i := 2) rfl ?_
    refine V.invs (z := mX10_isHour) (As := [_]) dX10_heard_9 rfl mlRX10_191 okX10_isHour npX10_isHour rfl (Nat.le_of_ble_eq_true rfl) rfl (Nat.le_of_ble_eq_true rfl) (c_hourR   ?_)
    show V rS g (d + 64) mX10_heard 12 [some (.ref 83), some (.int (nI e)), some (.int w), none, none] [.int (b2i (0 ≤ w ∧ w ≤ 23))] (M) Q
    refine V.if_ne (tgt := 21) dX10_heard_12 (by decide) (fun c12 => ?_) (fun q => absurd q ((fun z => b2i_0.mp z h.2)))
    refine V.iconst dX10_heard_21 (v := 0) (by decide) ?_
    refine V.istore_n dX10_heard_22 rfl (i := 3) (by decide) (fun _ h => by cases h; exact Or.inl rfl) rfl ?_
    refine V.iconst dX10_heard_23 (v := 0) (by decide) ?_
    refine V.istore dX10_heard_24 (i := 4) (by decide) (fun _ h => by cases h; exact Or.inl rfl) rfl ?_
    exact l_heardR hV he (hok h e he rfl) n 0 M (by omega) KpR.rf
  · skip
    refine V.aload_n dX10_heard_0 rfl (i := 0) rfl ?_
    refine V.iload_n dX10_heard_1 rfl (i := 1) rfl ?_
    refine V.invv (z := mX10_isEar) (As := [_]) dX10_heard_2 rfl mlRX10_212 okX10_isEar npX10_isEar rfl rfl rfl ⟨by decide, by decide⟩ (Nat.le_of_ble_eq_true rfl) rfl (Nat.le_of_ble_eq_true rfl) (c_earR hV.2.2.1 h10 ?_)
    show V rS g (d + 64) mX10_heard 5 [some (.ref 83), some (.int a), some (.int w), none, none] [.int (b2i (0 ≤ a ∧ a < nI ne))] M Q
    refine V.if_eq (tgt := 15) dX10_heard_5 (by decide) (fun c5 => ?_) (fun c5 => ?_)
    · refine V.aload_n dX10_heard_15 rfl (i := 0) rfl ?_
      refine V.iconst dX10_heard_16 (v := 1) (by decide) ?_
      refine V.invv (z := mX10_finds) (As := [_]) dX10_heard_17 rfl mlRX10_131 okX10_finds npX10_finds rfl rfl rfl ⟨by decide, by decide⟩ (Nat.le_of_ble_eq_true rfl) rfl (Nat.le_of_ble_eq_true rfl) (c_fnd1   ?_)
      show V rS g (d + 64) mX10_heard 20 [some (.ref 83), some (.int a), some (.int w), none, none] [.int (-1000000001 : Int32)] (put M 87 1 (M 87 1 + 1)) Q
      exact V.ret dX10_heard_20 rfl (hbad h)
    · refine V.iload_n dX10_heard_8 rfl (i := 2) rfl ?_
      refine V.invs (z := mX10_isHour) (As := [_]) dX10_heard_9 rfl mlRX10_191 okX10_isHour npX10_isHour rfl (Nat.le_of_ble_eq_true rfl) rfl (Nat.le_of_ble_eq_true rfl) (c_hourR   ?_)
      show V rS g (d + 64) mX10_heard 12 [some (.ref 83), some (.int a), some (.int w), none, none] [.int (b2i (0 ≤ w ∧ w ≤ 23))] (M) Q
      refine V.if_ne (tgt := 21) dX10_heard_12 (by decide) (fun c12 => ?_) (fun c12 => ?_)
      · exact absurd ⟨(Classical.byContradiction fun z => c5 (b2i_f z)), (Classical.byContradiction fun z => c12 (b2i_f z))⟩ h
      · refine V.aload_n dX10_heard_15 rfl (i := 0) rfl ?_
        refine V.iconst dX10_heard_16 (v := 1) (by decide) ?_
        refine V.invv (z := mX10_finds) (As := [_]) dX10_heard_17 rfl mlRX10_131 okX10_finds npX10_finds rfl rfl rfl ⟨by decide, by decide⟩ (Nat.le_of_ble_eq_true rfl) rfl (Nat.le_of_ble_eq_true rfl) (c_fnd1   ?_)
        show V rS g (d + 64) mX10_heard 20 [some (.ref 83), some (.int a), some (.int w), none, none] [.int (-1000000001 : Int32)] (put (M) 87 1 ((M) 87 1 + 1)) Q
        exact V.ret dX10_heard_20 rfl (hbad h)

