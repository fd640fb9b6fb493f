theorem V.copyN {sd : Nat × Nat} {g : GG} {d : Nat} {y : XM} {pc : Nat} {ls : List (Option Value)} {st : List Value} {M : Mem} {Q : Option Value → Mem → Prop} {own : String} {idx a a0 n0 n1 b0 b1 : Nat} {sp dp n : Int32} {sp' dp' n' : Nat} (hd : decode y.2.1 pc = .ok (.invokestatic idx, 3)) (ho : y.1.cls = own) (hw : Cond.methodLink own idx arraycopyName ∈ lwG) (h1 : Cond.native arraycopyName ∈ lwG) (h2 : Cond.static arraycopyName ∈ lwG) (h3 : Cond.initialized "java/lang/System" ∈ lwG)
    (ha0 : lay a0 = .inr (0, n0, b0)) (hs0 : inS sd a0) (ha : lay a = .inr (0, n1, b1)) (hs : inS sd a) (e1 : sp = nI sp') (e2 : dp = nI dp') (e3 : n = nI n') (c4 : sp' + n' ≤ n0) (c5 : dp' + n' ≤ n1) (l0 : n0 < 1000000) (l1 : n1 < 1000000) (hst : stS st ≤ 8)
    (k : V sd g (d + 1) y (pc + 3) ls st (um M a (va_cpy (M a0) (M a) sp' dp' n')) Q) : V sd g (d + 1) y pc ls (.int n :: .int dp :: .ref a :: .int sp :: .ref a0 :: st) M Q := by
  subst e1; subst e2; subst e3
  refine V.copy hd ho hw h1 h2 h3 ha0 hs0 ha hs (nI_pos (by omega)) (nI_pos (by omega)) (nI_pos (by omega)) ?_ ?_ hst ?_
  · rw [nI_clamp (by omega), nI_clamp (by omega)]; exact c4
  · rw [nI_clamp (by omega), nI_clamp (by omega)]; exact c5
  · rw [nI_clamp (by omega), nI_clamp (by omega), nI_clamp (by omega)]; exact k
/-! ===== Bell's parts, Sheets, the common divisor ===== -/
set_option maxHeartbeats 4000000 in
set_option maxRecDepth 100000 in
theorem c_part {g : GG} {d : Nat} {M : Mem} {Q : Option Value → Mem → Prop} {b : Nat} {w : Int32} (hb : b < 8) (hQ : Q (some (.int (if w = 0 then M (30 + b) 0 else if w = 1 then M (30 + b) 1 else if w = 2 then M (30 + b) 2 else if w = 3 then M (30 + b) 3 else if w = 4 then M (30 + b) 4 else if w = 5 then M (30 + b) 5 else M (30 + b) 6))) (M)) : V cS g d mX0_part 0 [some (.ref (30 + b)), some (.int w)] [] M Q := by
  refine V.iload_n dX0_part_0 rfl (i := 1) rfl ?_
  by_cases s1_0 : w = (0 : Int32)
  · refine V.tabIn (tgt := 40) dX0_part_1 (by rw [s1_0]; decide) (by rw [s1_0]; decide) (by rw [s1_0]; rfl) (by decide) ?_
    refine V.aload_n dX0_part_40 rfl (i := 0) rfl ?_
    refine V.getI dX0_part_41 rfl flRX0_18 (fkB30 (by first | assumption | decide | omega) (by decide)) (inB30 (by first | assumption | decide | omega)) ?_
    exact V.ret dX0_part_44 rfl (Qi hQ (by simp_all))
  by_cases s1_1 : w = (1 : Int32)
  · refine V.tabIn (tgt := 45) dX0_part_1 (by rw [s1_1]; decide) (by rw [s1_1]; decide) (by rw [s1_1]; rfl) (by decide) ?_
    refine V.aload_n dX0_part_45 rfl (i := 0) rfl ?_
    refine V.getI dX0_part_46 rfl flRX0_22 (fkB30 (by first | assumption | decide | omega) (by decide)) (inB30 (by first | assumption | decide | omega)) ?_
    exact V.ret dX0_part_49 rfl (Qi hQ (by simp_all))
  by_cases s1_2 : w = (2 : Int32)
  · refine V.tabIn (tgt := 50) dX0_part_1 (by rw [s1_2]; decide) (by rw [s1_2]; decide) (by rw [s1_2]; rfl) (by decide) ?_
    refine V.aload_n dX0_part_50 rfl (i := 0) rfl ?_
    refine V.getI dX0_part_51 rfl flRX0_25 (fkB30 (by first | assumption | decide | omega) (by decide)) (inB30 (by first | assumption | decide | omega)) ?_
    exact V.ret dX0_part_54 rfl (Qi hQ (by simp_all))
  by_cases s1_3 : w = (3 : Int32)
  · refine V.tabIn (tgt := 55) dX0_part_1 (by rw [s1_3]; decide) (by rw [s1_3]; decide) (by rw [s1_3]; rfl) (by decide) ?_
    refine V.aload_n dX0_part_55 rfl (i := 0) rfl ?_
    refine V.getI dX0_part_56 rfl flRX0_28 (fkB30 (by first | assumption | decide | omega) (by decide)) (inB30 (by first | assumption | decide | omega)) ?_
    exact V.ret dX0_part_59 rfl (Qi hQ (by simp_all))
  by_cases s1_4 : w = (4 : Int32)
  · refine V.tabIn (tgt := 60) dX0_part_1 (by rw [s1_4]; decide) (by rw [s1_4]; decide) (by rw [s1_4]; rfl) (by decide) ?_
    refine V.aload_n dX0_part_60 rfl (i := 0) rfl ?_
    refine V.getI dX0_part_61 rfl flRX0_31 (fkB30 (by first | assumption | decide | omega) (by decide)) (inB30 (by first | assumption | decide | omega)) ?_
    exact V.ret dX0_part_64 rfl (Qi hQ (by simp_all))
  by_cases s1_5 : w = (5 : Int32)
  · refine V.tabIn (tgt := 65) dX0_part_1 (by rw [s1_5]; decide) (by rw [s1_5]; decide) (by rw [s1_5]; rfl) (by decide) ?_
    refine V.aload_n dX0_part_65 rfl (i := 0) rfl ?_
    refine V.getI dX0_part_66 rfl flRX0_34 (fkB30 (by first | assumption | decide | omega) (by decide)) (inB30 (by first | assumption | decide | omega)) ?_
    exact V.ret dX0_part_69 rfl (Qi hQ (by simp_all))
  · refine V.tabOut (tgt := 70) dX0_part_1 (by have z0 := lv_neT (a := 0) s1_0 (by decide); have z1 := lv_neT (a := 1) s1_1 (by decide); have z2 := lv_neT (a := 2) s1_2 (by decide); have z3 := lv_neT (a := 3) s1_3 (by decide); have z4 := lv_neT (a := 4) s1_4 (by decide); have z5 := lv_neT (a := 5) s1_5 (by decide); omega) (by decide) ?_
    refine V.aload_n dX0_part_70 rfl (i := 0) rfl ?_
    refine V.getI dX0_part_71 rfl flRX0_37 (fkB30 (by first | assumption | decide | omega) (by decide)) (inB30 (by first | assumption | decide | omega)) ?_
    exact V.ret dX0_part_74 rfl (Qi hQ (by simp_all))
set_option maxHeartbeats 4000000 in
set_option maxRecDepth 100000 in
theorem c_changePart {g : GG} {d : Nat} {M : Mem} {Q : Option Value → Mem → Prop} {b : Nat} {w v : Int32} (hb : b < 8) (hQ : Q none (put M (30 + b) (if w = 2 then 2 else if w = 3 then 3 else if w = 4 then 4 else if w = 5 then 5 else 6) v)) : V cS g d mX0_changePart 0 [some (.ref (30 + b)), some (.int w), some (.int v)] [] M Q := by
  refine V.iload_n dX0_changePart_0 rfl (i := 1) rfl ?_
  by_cases s1_2 : w = (2 : Int32)
  · refine V.tabIn (tgt := 32) dX0_changePart_1 (by rw [s1_2]; decide) (by rw [s1_2]; decide) (by rw [s1_2]; rfl) (by decide) ?_
    refine V.aload_n dX0_changePart_32 rfl (i := 0) rfl ?_
    refine V.iload_n dX0_changePart_33 rfl (i := 2) rfl ?_
    refine V.putI dX0_changePart_34 rfl fpRX0_25 (fkB30 (by first | assumption | decide | omega) (by decide)) (inB30 (by first | assumption | decide | omega)) ?_
    refine V.goto dX0_changePart_37 (tgt := 69) (by decide) ?_
    exact V.vret dX0_changePart_69 rfl (Qm hQ (by simp_all))
  by_cases s1_3 : w = (3 : Int32)
  · refine V.tabIn (tgt := 40) dX0_changePart_1 (by rw [s1_3]; decide) (by rw [s1_3]; decide) (by rw [s1_3]; rfl) (by decide) ?_
    refine V.aload_n dX0_changePart_40 rfl (i := 0) rfl ?_
    refine V.iload_n dX0_changePart_41 rfl (i := 2) rfl ?_
    refine V.putI dX0_changePart_42 rfl fpRX0_28 (fkB30 (by first | assumption | decide | omega) (by decide)) (inB30 (by first | assumption | decide | omega)) ?_
    refine V.goto dX0_changePart_45 (tgt := 69) (by decide) ?_
    exact V.vret dX0_changePart_69 rfl (Qm hQ (by simp_all))
  by_cases s1_4 : w = (4 : Int32)
  · refine V.tabIn (tgt := 48) dX0_changePart_1 (by rw [s1_4]; decide) (by rw [s1_4]; decide) (by rw [s1_4]; rfl) (by decide) ?_
    refine V.aload_n dX0_changePart_48 rfl (i := 0) rfl ?_
    refine V.iload_n dX0_changePart_49 rfl (i := 2) rfl ?_
    refine V.putI dX0_changePart_50 rfl fpRX0_31 (fkB30 (by first | assumption | decide | omega) (by decide)) (inB30 (by first | assumption | decide | omega)) ?_
    refine V.goto dX0_changePart_53 (tgt := 69) (by decide) ?_
    exact V.vret dX0_changePart_69 rfl (Qm hQ (by simp_all))
  by_cases s1_5 : w = (5 : Int32)
  · refine V.tabIn (tgt := 56) dX0_changePart_1 (by rw [s1_5]; decide) (by rw [s1_5]; decide) (by rw [s1_5]; rfl) (by decide) ?_
    refine V.aload_n dX0_changePart_56 rfl (i := 0) rfl ?_
    refine V.iload_n dX0_changePart_57 rfl (i := 2) rfl ?_
    refine V.putI dX0_changePart_58 rfl fpRX0_34 (fkB30 (by first | assumption | decide | omega) (by decide)) (inB30 (by first | assumption | decide | omega)) ?_
    refine V.goto dX0_changePart_61 (tgt := 69) (by decide) ?_
    exact V.vret dX0_changePart_69 rfl (Qm hQ (by simp_all))
  · refine V.tabOut (tgt := 64) dX0_changePart_1 (by have z0 := lv_neT (a := 2) s1_2 (by decide); have z1 := lv_neT (a := 3) s1_3 (by decide); have z2 := lv_neT (a := 4) s1_4 (by decide); have z3 := lv_neT (a := 5) s1_5 (by decide); omega) (by decide) ?_
    refine V.aload_n dX0_changePart_64 rfl (i := 0) rfl ?_
    refine V.iload_n dX0_changePart_65 rfl (i := 2) rfl ?_
    refine V.putI dX0_changePart_66 rfl fpRX0_37 (fkB30 (by first | assumption | decide | omega) (by decide)) (inB30 (by first | assumption | decide | omega)) ?_
    exact V.vret dX0_changePart_69 rfl (Qm hQ (by simp_all))
set_option maxHeartbeats 4000000 in
set_option maxRecDepth 100000 in
theorem c_mayBecome {g : GG} {d : Nat} {M : Mem} {Q : Option Value → Mem → Prop} {w v : Int32} (hQ : Q (some (.int (b2i (mayB w v = true)))) M) : V cS g d mX0_mayBecome 0 [some (.int w), some (.int v)] [] M Q := by
  by_cases h2 : w = 2
  · subst h2
    refine V.iload_n dX0_mayBecome_0 rfl (i := 0) rfl ?_
    refine V.iconst dX0_mayBecome_1 (v := 2) (by decide) ?_
    refine V.ic_lt (tgt := 33) dX0_mayBecome_2 (by decide) (fun q => absurd q ((by decide))) (fun c2 => ?_)
    refine V.iload_n dX0_mayBecome_5 rfl (i := 0) rfl ?_
    refine V.bipush dX0_mayBecome_6 (v := 7) (by decide) ?_
    refine V.ic_ge (tgt := 33) dX0_mayBecome_8 (by decide) (fun q => absurd q ((by decide))) (fun c8 => ?_)
    refine V.iload_n dX0_mayBecome_11 rfl (i := 1) rfl ?_
    refine V.gets (j := 1) dX0_mayBecome_12 rfl rfl slRX0_11 ?_
    refine V.iload_n dX0_mayBecome_15 rfl (i := 0) rfl ?_
    refine V.iaTb (j := 1) dX0_mayBecome_16 rfl (by unfold vp_in; decide) ?_
    refine V.top (x' := (0 : Int32)) ((by decide)) ?_
    refine V.ic_lt (tgt := 33) dX0_mayBecome_17 (by decide) (fun c17 => ?_) (fun c17 => ?_)
    · refine V.iconst dX0_mayBecome_33 (v := 0) (by decide) ?_
      exact V.zret dX0_mayBecome_34 rfl (by first | exact Or.inl rfl | exact Or.inr rfl | assumption | exact b2i_zo _ | (repeat' split) <;> first | exact Or.inl rfl | exact Or.inr rfl | assumption | exact b2i_zo _) (Qi hQ (by unfold b2i mayB; (repeat' split) <;> (try simp_all [Int32.not_le, Int32.not_lt]) <;> (try (simp only [Int32.lt_iff_toInt_lt, Int32.le_iff_toInt_le, ← Int32.toInt_inj, Int32.reduceToInt] at *; omega))))
    · refine V.iload_n dX0_mayBecome_20 rfl (i := 1) rfl ?_
      refine V.gets (j := 2) dX0_mayBecome_21 rfl rfl slRX0_15 ?_
      refine V.iload_n dX0_mayBecome_24 rfl (i := 0) rfl ?_
      refine V.iaTb (j := 2) dX0_mayBecome_25 rfl (by unfold vp_in; decide) ?_
      refine V.top (x' := (99 : Int32)) ((by decide)) ?_
      suffices kJ26 : V cS g d mX0_mayBecome 34 [some (.int (2 : Int32)), some (.int v)] [.int (if (99 : Int32) < v then (0 : Int32) else (1 : Int32))] M Q by
        refine V.top (x' := (99 : Int32)) ((by decide)) ?_
        refine V.ic_gt (tgt := 33) dX0_mayBecome_26 (by decide) (fun c26 => ?_) (fun c26 => ?_)
        · refine V.iconst dX0_mayBecome_33 (v := 0) (by decide) ?_
          rw [if_pos c26] at kJ26; exact kJ26
        · refine V.iconst dX0_mayBecome_29 (v := 1) (by decide) ?_
          refine V.goto dX0_mayBecome_30 (tgt := 34) (by decide) ?_
          rw [if_neg c26] at kJ26; exact kJ26
      exact V.zret dX0_mayBecome_34 rfl (by first | exact Or.inl rfl | exact Or.inr rfl | assumption | exact b2i_zo _ | (repeat' split) <;> first | exact Or.inl rfl | exact Or.inr rfl | assumption | exact b2i_zo _) (Qi hQ (by unfold b2i mayB; (repeat' split) <;> (try simp_all [Int32.not_le, Int32.not_lt]) <;> (try (simp only [Int32.lt_iff_toInt_lt, Int32.le_iff_toInt_le, ← Int32.toInt_inj, Int32.reduceToInt] at *; omega))))
  by_cases h3 : w = 3
  · subst h3
    refine V.iload_n dX0_mayBecome_0 rfl (i := 0) rfl ?_
    refine V.iconst dX0_mayBecome_1 (v := 2) (by decide) ?_
    refine V.ic_lt (tgt := 33) dX0_mayBecome_2 (by decide) (fun q => absurd q ((by decide))) (fun c2 => ?_)
    refine V.iload_n dX0_mayBecome_5 rfl (i := 0) rfl ?_
    refine V.bipush dX0_mayBecome_6 (v := 7) (by decide) ?_
    refine V.ic_ge (tgt := 33) dX0_mayBecome_8 (by decide) (fun q => absurd q ((by decide))) (fun c8 => ?_)
    refine V.iload_n dX0_mayBecome_11 rfl (i := 1) rfl ?_
    refine V.gets (j := 1) dX0_mayBecome_12 rfl rfl slRX0_11 ?_
    refine V.iload_n dX0_mayBecome_15 rfl (i := 0) rfl ?_
    refine V.iaTb (j := 1) dX0_mayBecome_16 rfl (by unfold vp_in; decide) ?_
    refine V.top (x' := (0 : Int32)) ((by decide)) ?_
    refine V.ic_lt (tgt := 33) dX0_mayBecome_17 (by decide) (fun c17 => ?_) (fun c17 => ?_)
    · refine V.iconst dX0_mayBecome_33 (v := 0) (by decide) ?_
      exact V.zret dX0_mayBecome_34 rfl (by first | exact Or.inl rfl | exact Or.inr rfl | assumption | exact b2i_zo _ | (repeat' split) <;> first | exact Or.inl rfl | exact Or.inr rfl | assumption | exact b2i_zo _) (Qi hQ (by unfold b2i mayB; (repeat' split) <;> (try simp_all [Int32.not_le, Int32.not_lt]) <;> (try (simp only [Int32.lt_iff_toInt_lt, Int32.le_iff_toInt_le, ← Int32.toInt_inj, Int32.reduceToInt] at *; omega))))
    · refine V.iload_n dX0_mayBecome_20 rfl (i := 1) rfl ?_
      refine V.gets (j := 2) dX0_mayBecome_21 rfl rfl slRX0_15 ?_
      refine V.iload_n dX0_mayBecome_24 rfl (i := 0) rfl ?_
      refine V.iaTb (j := 2) dX0_mayBecome_25 rfl (by unfold vp_in; decide) ?_
      refine V.top (x' := (99 : Int32)) ((by decide)) ?_
      suffices kJ26 : V cS g d mX0_mayBecome 34 [some (.int (3 : Int32)), some (.int v)] [.int (if (99 : Int32) < v then (0 : Int32) else (1 : Int32))] M Q by
        refine V.top (x' := (99 : Int32)) ((by decide)) ?_
        refine V.ic_gt (tgt := 33) dX0_mayBecome_26 (by decide) (fun c26 => ?_) (fun c26 => ?_)
        · refine V.iconst dX0_mayBecome_33 (v := 0) (by decide) ?_
          rw [if_pos c26] at kJ26; exact kJ26
        · refine V.iconst dX0_mayBecome_29 (v := 1) (by decide) ?_
          refine V.goto dX0_mayBecome_30 (tgt := 34) (by decide) ?_
          rw [if_neg c26] at kJ26; exact kJ26
      exact V.zret dX0_mayBecome_34 rfl (by first | exact Or.inl rfl | exact Or.inr rfl | assumption | exact b2i_zo _ | (repeat' split) <;> first | exact Or.inl rfl | exact Or.inr rfl | assumption | exact b2i_zo _) (Qi hQ (by unfold b2i mayB; (repeat' split) <;> (try simp_all [Int32.not_le, Int32.not_lt]) <;> (try (simp only [Int32.lt_iff_toInt_lt, Int32.le_iff_toInt_le, ← Int32.toInt_inj, Int32.reduceToInt] at *; omega))))
  by_cases h4 : w = 4
  · subst h4
    refine V.iload_n dX0_mayBecome_0 rfl (i := 0) rfl ?_
    refine V.iconst dX0_mayBecome_1 (v := 2) (by decide) ?_
    refine V.ic_lt (tgt := 33) dX0_mayBecome_2 (by decide) (fun q => absurd q ((by decide))) (fun c2 => ?_)
    refine V.iload_n dX0_mayBecome_5 rfl (i := 0) rfl ?_
    refine V.bipush dX0_mayBecome_6 (v := 7) (by decide) ?_
    refine V.ic_ge (tgt := 33) dX0_mayBecome_8 (by decide) (fun q => absurd q ((by decide))) (fun c8 => ?_)
    refine V.iload_n dX0_mayBecome_11 rfl (i := 1) rfl ?_
    refine V.gets (j := 1) dX0_mayBecome_12 rfl rfl slRX0_11 ?_
    refine V.iload_n dX0_mayBecome_15 rfl (i := 0) rfl ?_
    refine V.iaTb (j := 1) dX0_mayBecome_16 rfl (by unfold vp_in; decide) ?_
    refine V.top (x' := (-900 : Int32)) ((by decide)) ?_
    refine V.ic_lt (tgt := 33) dX0_mayBecome_17 (by decide) (fun c17 => ?_) (fun c17 => ?_)
    · refine V.iconst dX0_mayBecome_33 (v := 0) (by decide) ?_
      exact V.zret dX0_mayBecome_34 rfl (by first | exact Or.inl rfl | exact Or.inr rfl | assumption | exact b2i_zo _ | (repeat' split) <;> first | exact Or.inl rfl | exact Or.inr rfl | assumption | exact b2i_zo _) (Qi hQ (by unfold b2i mayB; (repeat' split) <;> (try simp_all [Int32.not_le, Int32.not_lt]) <;> (try (simp only [Int32.lt_iff_toInt_lt, Int32.le_iff_toInt_le, ← Int32.toInt_inj, Int32.reduceToInt] at *; omega))))
    · refine V.iload_n dX0_mayBecome_20 rfl (i := 1) rfl ?_
      refine V.gets (j := 2) dX0_mayBecome_21 rfl rfl slRX0_15 ?_
      refine V.iload_n dX0_mayBecome_24 rfl (i := 0) rfl ?_
      refine V.iaTb (j := 2) dX0_mayBecome_25 rfl (by unfold vp_in; decide) ?_
      refine V.top (x' := (900 : Int32)) ((by decide)) ?_
      suffices kJ26 : V cS g d mX0_mayBecome 34 [some (.int (4 : Int32)), some (.int v)] [.int (if (900 : Int32) < v then (0 : Int32) else (1 : Int32))] M Q by
        refine V.top (x' := (900 : Int32)) ((by decide)) ?_
        refine V.ic_gt (tgt := 33) dX0_mayBecome_26 (by decide) (fun c26 => ?_) (fun c26 => ?_)
        · refine V.iconst dX0_mayBecome_33 (v := 0) (by decide) ?_
          rw [if_pos c26] at kJ26; exact kJ26
        · refine V.iconst dX0_mayBecome_29 (v := 1) (by decide) ?_
          refine V.goto dX0_mayBecome_30 (tgt := 34) (by decide) ?_
          rw [if_neg c26] at kJ26; exact kJ26
      exact V.zret dX0_mayBecome_34 rfl (by first | exact Or.inl rfl | exact Or.inr rfl | assumption | exact b2i_zo _ | (repeat' split) <;> first | exact Or.inl rfl | exact Or.inr rfl | assumption | exact b2i_zo _) (Qi hQ (by unfold b2i mayB; (repeat' split) <;> (try simp_all [Int32.not_le, Int32.not_lt]) <;> (try (simp only [Int32.lt_iff_toInt_lt, Int32.le_iff_toInt_le, ← Int32.toInt_inj, Int32.reduceToInt] at *; omega))))
  by_cases h5 : w = 5
  · subst h5
    refine V.iload_n dX0_mayBecome_0 rfl (i := 0) rfl ?_
    refine V.iconst dX0_mayBecome_1 (v := 2) (by decide) ?_
    refine V.ic_lt (tgt := 33) dX0_mayBecome_2 (by decide) (fun q => absurd q ((by decide))) (fun c2 => ?_)
    refine V.iload_n dX0_mayBecome_5 rfl (i := 0) rfl ?_
    refine V.bipush dX0_mayBecome_6 (v := 7) (by decide) ?_
    refine V.ic_ge (tgt := 33) dX0_mayBecome_8 (by decide) (fun q => absurd q ((by decide))) (fun c8 => ?_)
    refine V.iload_n dX0_mayBecome_11 rfl (i := 1) rfl ?_
    refine V.gets (j := 1) dX0_mayBecome_12 rfl rfl slRX0_11 ?_
    refine V.iload_n dX0_mayBecome_15 rfl (i := 0) rfl ?_
    refine V.iaTb (j := 1) dX0_mayBecome_16 rfl (by unfold vp_in; decide) ?_
    refine V.top (x' := (0 : Int32)) ((by decide)) ?_
    refine V.ic_lt (tgt := 33) dX0_mayBecome_17 (by decide) (fun c17 => ?_) (fun c17 => ?_)
    · refine V.iconst dX0_mayBecome_33 (v := 0) (by decide) ?_
      exact V.zret dX0_mayBecome_34 rfl (by first | exact Or.inl rfl | exact Or.inr rfl | assumption | exact b2i_zo _ | (repeat' split) <;> first | exact Or.inl rfl | exact Or.inr rfl | assumption | exact b2i_zo _) (Qi hQ (by unfold b2i mayB; (repeat' split) <;> (try simp_all [Int32.not_le, Int32.not_lt]) <;> (try (simp only [Int32.lt_iff_toInt_lt, Int32.le_iff_toInt_le, ← Int32.toInt_inj, Int32.reduceToInt] at *; omega))))
    · refine V.iload_n dX0_mayBecome_20 rfl (i := 1) rfl ?_
      refine V.gets (j := 2) dX0_mayBecome_21 rfl rfl slRX0_15 ?_
      refine V.iload_n dX0_mayBecome_24 rfl (i := 0) rfl ?_
      refine V.iaTb (j := 2) dX0_mayBecome_25 rfl (by unfold vp_in; decide) ?_
      refine V.top (x' := (99 : Int32)) ((by decide)) ?_
      suffices kJ26 : V cS g d mX0_mayBecome 34 [some (.int (5 : Int32)), some (.int v)] [.int (if (99 : Int32) < v then (0 : Int32) else (1 : Int32))] M Q by
        refine V.top (x' := (99 : Int32)) ((by decide)) ?_
        refine V.ic_gt (tgt := 33) dX0_mayBecome_26 (by decide) (fun c26 => ?_) (fun c26 => ?_)
        · refine V.iconst dX0_mayBecome_33 (v := 0) (by decide) ?_
          rw [if_pos c26] at kJ26; exact kJ26
        · refine V.iconst dX0_mayBecome_29 (v := 1) (by decide) ?_
          refine V.goto dX0_mayBecome_30 (tgt := 34) (by decide) ?_
          rw [if_neg c26] at kJ26; exact kJ26
      exact V.zret dX0_mayBecome_34 rfl (by first | exact Or.inl rfl | exact Or.inr rfl | assumption | exact b2i_zo _ | (repeat' split) <;> first | exact Or.inl rfl | exact Or.inr rfl | assumption | exact b2i_zo _) (Qi hQ (by unfold b2i mayB; (repeat' split) <;> (try simp_all [Int32.not_le, Int32.not_lt]) <;> (try (simp only [Int32.lt_iff_toInt_lt, Int32.le_iff_toInt_le, ← Int32.toInt_inj, Int32.reduceToInt] at *; omega))))
  by_cases h6 : w = 6
  · subst h6
    refine V.iload_n dX0_mayBecome_0 rfl (i := 0) rfl ?_
    refine V.iconst dX0_mayBecome_1 (v := 2) (by decide) ?_
    refine V.ic_lt (tgt := 33) dX0_mayBecome_2 (by decide) (fun q => absurd q ((by decide))) (fun c2 => ?_)
    refine V.iload_n dX0_mayBecome_5 rfl (i := 0) rfl ?_
    refine V.bipush dX0_mayBecome_6 (v := 7) (by decide) ?_
    refine V.ic_ge (tgt := 33) dX0_mayBecome_8 (by decide) (fun q => absurd q ((by decide))) (fun c8 => ?_)
    refine V.iload_n dX0_mayBecome_11 rfl (i := 1) rfl ?_
    refine V.gets (j := 1) dX0_mayBecome_12 rfl rfl slRX0_11 ?_
    refine V.iload_n dX0_mayBecome_15 rfl (i := 0) rfl ?_
    refine V.iaTb (j := 1) dX0_mayBecome_16 rfl (by unfold vp_in; decide) ?_
    refine V.top (x' := (0 : Int32)) ((by decide)) ?_
    refine V.ic_lt (tgt := 33) dX0_mayBecome_17 (by decide) (fun c17 => ?_) (fun c17 => ?_)
    · refine V.iconst dX0_mayBecome_33 (v := 0) (by decide) ?_
      exact V.zret dX0_mayBecome_34 rfl (by first | exact Or.inl rfl | exact Or.inr rfl | assumption | exact b2i_zo _ | (repeat' split) <;> first | exact Or.inl rfl | exact Or.inr rfl | assumption | exact b2i_zo _) (Qi hQ (by unfold b2i mayB; (repeat' split) <;> (try simp_all [Int32.not_le, Int32.not_lt]) <;> (try (simp only [Int32.lt_iff_toInt_lt, Int32.le_iff_toInt_le, ← Int32.toInt_inj, Int32.reduceToInt] at *; omega))))
    · refine V.iload_n dX0_mayBecome_20 rfl (i := 1) rfl ?_
      refine V.gets (j := 2) dX0_mayBecome_21 rfl rfl slRX0_15 ?_
      refine V.iload_n dX0_mayBecome_24 rfl (i := 0) rfl ?_
      refine V.iaTb (j := 2) dX0_mayBecome_25 rfl (by unfold vp_in; decide) ?_
      refine V.top (x' := (1 : Int32)) ((by decide)) ?_
      suffices kJ26 : V cS g d mX0_mayBecome 34 [some (.int (6 : Int32)), some (.int v)] [.int (if (1 : Int32) < v then (0 : Int32) else (1 : Int32))] M Q by
        refine V.top (x' := (1 : Int32)) ((by decide)) ?_
        refine V.ic_gt (tgt := 33) dX0_mayBecome_26 (by decide) (fun c26 => ?_) (fun c26 => ?_)
        · refine V.iconst dX0_mayBecome_33 (v := 0) (by decide) ?_
          rw [if_pos c26] at kJ26; exact kJ26
        · refine V.iconst dX0_mayBecome_29 (v := 1) (by decide) ?_
          refine V.goto dX0_mayBecome_30 (tgt := 34) (by decide) ?_
          rw [if_neg c26] at kJ26; exact kJ26
      exact V.zret dX0_mayBecome_34 rfl (by first | exact Or.inl rfl | exact Or.inr rfl | assumption | exact b2i_zo _ | (repeat' split) <;> first | exact Or.inl rfl | exact Or.inr rfl | assumption | exact b2i_zo _) (Qi hQ (by unfold b2i mayB; (repeat' split) <;> (try simp_all [Int32.not_le, Int32.not_lt]) <;> (try (simp only [Int32.lt_iff_toInt_lt, Int32.le_iff_toInt_le, ← Int32.toInt_inj, Int32.reduceToInt] at *; omega))))
  by_cases hl : w < 2
  · skip
    refine V.iload_n dX0_mayBecome_0 rfl (i := 0) rfl ?_
    refine V.iconst dX0_mayBecome_1 (v := 2) (by decide) ?_
    refine V.ic_lt (tgt := 33) dX0_mayBecome_2 (by decide) (fun c2 => ?_) (fun q => absurd (hl) q)
    refine V.iconst dX0_mayBecome_33 (v := 0) (by decide) ?_
    exact V.zret dX0_mayBecome_34 rfl (by first | exact Or.inl rfl | exact Or.inr rfl | assumption | exact b2i_zo _ | (repeat' split) <;> first | exact Or.inl rfl | exact Or.inr rfl | assumption | exact b2i_zo _) (Qi hQ (by unfold b2i mayB; (repeat' split) <;> (try simp_all [Int32.not_le, Int32.not_lt]) <;> (try (simp only [Int32.lt_iff_toInt_lt, Int32.le_iff_toInt_le, ← Int32.toInt_inj, Int32.reduceToInt] at *; omega))))
  · skip
    refine V.iload_n dX0_mayBecome_0 rfl (i := 0) rfl ?_
    refine V.iconst dX0_mayBecome_1 (v := 2) (by decide) ?_
    refine V.ic_lt (tgt := 33) dX0_mayBecome_2 (by decide) (fun q => absurd q (hl)) (fun c2 => ?_)
    refine V.iload_n dX0_mayBecome_5 rfl (i := 0) rfl ?_
    refine V.bipush dX0_mayBecome_6 (v := 7) (by decide) ?_
    refine V.ic_ge (tgt := 33) dX0_mayBecome_8 (by decide) (fun c8 => ?_) (fun q => absurd ((by simp only [Int32.lt_iff_toInt_lt, Int32.le_iff_toInt_le, ← Int32.toInt_inj, Int32.reduceToInt] at *; omega)) q)
    refine V.iconst dX0_mayBecome_33 (v := 0) (by decide) ?_
    exact V.zret dX0_mayBecome_34 rfl (by first | exact Or.inl rfl | exact Or.inr rfl | assumption | exact b2i_zo _ | (repeat' split) <;> first | exact Or.inl rfl | exact Or.inr rfl | assumption | exact b2i_zo _) (Qi hQ (by unfold b2i mayB; (repeat' split) <;> (try simp_all [Int32.not_le, Int32.not_lt]) <;> (try (simp only [Int32.lt_iff_toInt_lt, Int32.le_iff_toInt_le, ← Int32.toInt_inj, Int32.reduceToInt] at *; omega))))
set_option maxHeartbeats 4000000 in
set_option maxRecDepth 100000 in
theorem c_beginB {g : GG} {d : Nat} {M : Mem} {Q : Option Value → Mem → Prop} {c : Nat} {k m s l : Int32} (hf_c : ∀ j, j < 7 → fk c 0 j = some 0) (hi_c : inS cS c) (hQ : Q none (put (put (put (put (put (put (put M c 0 k) c 1 m) c 2 s) c 3 l) c 4 0) c 5 1) c 6 0)) : V cS g d mX0_begin 0 [some (.ref c), some (.int k), some (.int m), some (.int s), some (.int l)] [] M Q := by
  refine V.aload_n dX0_begin_0 rfl (i := 0) rfl ?_
  refine V.iload_n dX0_begin_1 rfl (i := 1) rfl ?_
  refine V.putI dX0_begin_2 rfl fpRX0_18 (hf_c _ (by decide)) hi_c ?_
  refine V.aload_n dX0_begin_5 rfl (i := 0) rfl ?_
  refine V.iload_n dX0_begin_6 rfl (i := 2) rfl ?_
  refine V.putI dX0_begin_7 rfl fpRX0_22 (hf_c _ (by decide)) hi_c ?_
  refine V.aload_n dX0_begin_10 rfl (i := 0) rfl ?_
  refine V.iload_n dX0_begin_11 rfl (i := 3) rfl ?_
  refine V.putI dX0_begin_12 rfl fpRX0_25 (hf_c _ (by decide)) hi_c ?_
  refine V.aload_n dX0_begin_15 rfl (i := 0) rfl ?_
  refine V.iload dX0_begin_16 rfl ?_
  refine V.putI dX0_begin_18 rfl fpRX0_28 (hf_c _ (by decide)) hi_c ?_
  refine V.aload_n dX0_begin_21 rfl (i := 0) rfl ?_
  refine V.iconst dX0_begin_22 (v := 0) (by decide) ?_
  refine V.putI dX0_begin_23 rfl fpRX0_31 (hf_c _ (by decide)) hi_c ?_
  refine V.aload_n dX0_begin_26 rfl (i := 0) rfl ?_
  refine V.iconst dX0_begin_27 (v := 1) (by decide) ?_
  refine V.putI dX0_begin_28 rfl fpRX0_34 (hf_c _ (by decide)) hi_c ?_
  refine V.aload_n dX0_begin_31 rfl (i := 0) rfl ?_
  refine V.iconst dX0_begin_32 (v := 0) (by decide) ?_
  refine V.putI dX0_begin_33 rfl fpRX0_37 (hf_c _ (by decide)) hi_c ?_
  exact V.vret dX0_begin_36 rfl (hQ)
theorem c_begin {g : GG} {d : Nat} {M : Mem} {Q : Option Value → Mem → Prop} {b : Nat} {k m s l : Int32} (hb : b < 8) (hQ : Q none (put (put (put (put (put (put (put M (30 + b) 0 k) (30 + b) 1 m) (30 + b) 2 s) (30 + b) 3 l) (30 + b) 4 0) (30 + b) 5 1) (30 + b) 6 0)) : V cS g d mX0_begin 0 [some (.ref (30 + b)), some (.int k), some (.int m), some (.int s), some (.int l)] [] M Q := c_beginB (fun j hj => fkB30 hb hj) (inB30 hb) hQ
set_option maxHeartbeats 4000000 in
set_option maxRecDepth 100000 in
theorem c_canBe {g : GG} {d : Nat} {M : Mem} {Q : Option Value → Mem → Prop} {a : Int32}  (hQ : Q (some (.int (b2i (0 ≤ a ∧ a ≤ 3)))) (M)) : V cS g d mX4_canBe 0 [some (.int a)] [] M Q := by
  refine V.iload_n dX4_canBe_0 rfl (i := 0) rfl ?_
  suffices kJ1 : V cS g d mX4_canBe 14 [some (.int a)] [.int (if a < (0 : Int32) then (0 : Int32) else (if (4 : Int32) ≤ a then (0 : Int32) else (1 : Int32)))] M Q by
    refine V.if_lt (tgt := 13) dX4_canBe_1 (by decide) (fun c1 => ?_) (fun c1 => ?_)
    · refine V.iconst dX4_canBe_13 (v := 0) (by decide) ?_
      rw [if_pos c1] at kJ1; exact kJ1
    · refine V.iload_n dX4_canBe_4 rfl (i := 0) rfl ?_
      refine V.iconst dX4_canBe_5 (v := 4) (by decide) ?_
      refine V.ic_ge (tgt := 13) dX4_canBe_6 (by decide) (fun c6 => ?_) (fun c6 => ?_)
      · refine V.iconst dX4_canBe_13 (v := 0) (by decide) ?_
        rw [if_neg c1, if_pos c6] at kJ1; exact kJ1
      · refine V.iconst dX4_canBe_9 (v := 1) (by decide) ?_
        refine V.goto dX4_canBe_10 (tgt := 14) (by decide) ?_
        rw [if_neg c1, if_neg c6] at kJ1; exact kJ1
  exact V.zret dX4_canBe_14 rfl (by first | exact Or.inl rfl | exact Or.inr rfl | assumption | exact b2i_zo _ | (repeat' split) <;> first | exact Or.inl rfl | exact Or.inr rfl | assumption | exact b2i_zo _) (Qi hQ (by unfold b2i; (repeat' split) <;> (try simp_all [Int32.not_le, Int32.not_lt]) <;> (try (simp only [Int32.lt_iff_toInt_lt, Int32.le_iff_toInt_le, ← Int32.toInt_inj, Int32.reduceToInt] at *; omega))))
set_option maxHeartbeats 4000000 in
set_option maxRecDepth 100000 in
theorem c_canHave {g : GG} {d : Nat} {M : Mem} {Q : Option Value → Mem → Prop} {a : Int32}  (hQ : Q (some (.int (b2i (a = 0 ∨ a = 8 ∨ a = 16 ∨ a = 32)))) (M)) : V cS g d mX4_canHave 0 [some (.int a)] [] M Q := by
  refine V.iload_n dX4_canHave_0 rfl (i := 0) rfl ?_
  suffices kJ1 : V cS g d mX4_canHave 27 [some (.int a)] [.int (if a = (0 : Int32) then (1 : Int32) else (if a = (8 : Int32) then (1 : Int32) else (if a = (16 : Int32) then (1 : Int32) else (if a = (32 : Int32) then (1 : Int32) else (0 : Int32)))))] M Q by
    refine V.if_eq (tgt := 22) dX4_canHave_1 (by decide) (fun c1 => ?_) (fun c1 => ?_)
    · refine V.iconst dX4_canHave_22 (v := 1) (by decide) ?_
      refine V.goto dX4_canHave_23 (tgt := 27) (by decide) ?_
      rw [if_pos c1] at kJ1; exact kJ1
    · refine V.iload_n dX4_canHave_4 rfl (i := 0) rfl ?_
      refine V.bipush dX4_canHave_5 (v := 8) (by decide) ?_
      refine V.ic_eq (tgt := 22) dX4_canHave_7 (by decide) (fun c7 => ?_) (fun c7 => ?_)
      · refine V.iconst dX4_canHave_22 (v := 1) (by decide) ?_
        refine V.goto dX4_canHave_23 (tgt := 27) (by decide) ?_
        rw [if_neg c1, if_pos c7] at kJ1; exact kJ1
      · refine V.iload_n dX4_canHave_10 rfl (i := 0) rfl ?_
        refine V.bipush dX4_canHave_11 (v := 16) (by decide) ?_
        refine V.ic_eq (tgt := 22) dX4_canHave_13 (by decide) (fun c13 => ?_) (fun c13 => ?_)
        · refine V.iconst dX4_canHave_22 (v := 1) (by decide) ?_
          refine V.goto dX4_canHave_23 (tgt := 27) (by decide) ?_
          rw [if_neg c1, if_neg c7, if_pos c13] at kJ1; exact kJ1
        · refine V.iload_n dX4_canHave_16 rfl (i := 0) rfl ?_
          refine V.bipush dX4_canHave_17 (v := 32) (by decide) ?_
          refine V.ic_ne (tgt := 26) dX4_canHave_19 (by decide) (fun c19 => ?_) (fun c19 => ?_)
          · refine V.iconst dX4_canHave_26 (v := 0) (by decide) ?_
            rw [if_neg c1, if_neg c7, if_neg c13, if_neg c19] at kJ1; exact kJ1
          · refine V.iconst dX4_canHave_22 (v := 1) (by decide) ?_
            refine V.goto dX4_canHave_23 (tgt := 27) (by decide) ?_
            rw [if_neg c1, if_neg c7, if_neg c13, if_pos c19] at kJ1; exact kJ1
  exact V.zret dX4_canHave_27 rfl (by first | exact Or.inl rfl | exact Or.inr rfl | assumption | exact b2i_zo _ | (repeat' split) <;> first | exact Or.inl rfl | exact Or.inr rfl | assumption | exact b2i_zo _) (Qi hQ (by unfold b2i; (repeat' split) <;> (try simp_all [Int32.not_le, Int32.not_lt]) <;> (try (simp only [Int32.lt_iff_toInt_lt, Int32.le_iff_toInt_le, ← Int32.toInt_inj, Int32.reduceToInt] at *; omega))))
set_option maxHeartbeats 4000000 in
set_option maxRecDepth 100000 in
theorem c_isMissing {g : GG} {d : Nat} {M : Mem} {Q : Option Value → Mem → Prop} {s : Nat} (hs : s < 4) (hQ : Q (some (.int (b2i (M 62 s = 0)))) (M)) : V cS g d mX4_isMissing 0 [some (.ref 8), some (.int (nI s))] [] M Q := by
  refine V.aload_n dX4_isMissing_0 rfl (i := 0) rfl ?_
  refine V.getR dX4_isMissing_1 rfl flRX4_14 rfl ⟨by decide, by decide⟩ ?_
  refine V.iload_n dX4_isMissing_4 rfl (i := 1) rfl ?_
  refine V.ialdN dX4_isMissing_5 rfl ⟨by decide, by decide⟩ (by first | assumption | decide | omega) (by decide) ?_
  suffices kJ6 : V cS g d mX4_isMissing 14 [some (.ref 8), some (.int (nI s))] [.int (if (M 62 s) = (0 : Int32) then (1 : Int32) else (0 : Int32))] M Q by
    refine V.if_ne (tgt := 13) dX4_isMissing_6 (by decide) (fun c6 => ?_) (fun c6 => ?_)
    · refine V.iconst dX4_isMissing_13 (v := 0) (by decide) ?_
      rw [if_neg c6] at kJ6; exact kJ6
    · refine V.iconst dX4_isMissing_9 (v := 1) (by decide) ?_
      refine V.goto dX4_isMissing_10 (tgt := 14) (by decide) ?_
      rw [if_pos c6] at kJ6; exact kJ6
  exact V.zret dX4_isMissing_14 rfl (by first | exact Or.inl rfl | exact Or.inr rfl | assumption | exact b2i_zo _ | (repeat' split) <;> first | exact Or.inl rfl | exact Or.inr rfl | assumption | exact b2i_zo _) (Qi hQ (by unfold b2i; (repeat' split) <;> (try simp_all [Int32.not_le, Int32.not_lt]) <;> (try (simp only [Int32.lt_iff_toInt_lt, Int32.le_iff_toInt_le, ← Int32.toInt_inj, Int32.reduceToInt] at *; omega))))
set_option maxHeartbeats 4000000 in
set_option maxRecDepth 100000 in
theorem c_areAlike {g : GG} {d : Nat} {M : Mem} {Q : Option Value → Mem → Prop} {s t : Nat} (hs : s < 4) (ht : t < 4) (hQ : Q (some (.int (b2i (M 62 s = M 62 t)))) (M)) : V cS g d mX4_areAlike 0 [some (.ref 8), some (.int (nI s)), some (.int (nI t))] [] M Q := by
  refine V.aload_n dX4_areAlike_0 rfl (i := 0) rfl ?_
  refine V.getR dX4_areAlike_1 rfl flRX4_14 rfl ⟨by decide, by decide⟩ ?_
  refine V.iload_n dX4_areAlike_4 rfl (i := 1) rfl ?_
  refine V.ialdN dX4_areAlike_5 rfl ⟨by decide, by decide⟩ (by first | assumption | decide | omega) (by decide) ?_
  refine V.aload_n dX4_areAlike_6 rfl (i := 0) rfl ?_
  refine V.getR dX4_areAlike_7 rfl flRX4_14 rfl ⟨by decide, by decide⟩ ?_
  refine V.iload_n dX4_areAlike_10 rfl (i := 2) rfl ?_
  refine V.ialdN dX4_areAlike_11 rfl ⟨by decide, by decide⟩ (by first | assumption | decide | omega) (by decide) ?_
  suffices kJ12 : V cS g d mX4_areAlike 20 [some (.ref 8), some (.int (nI s)), some (.int (nI t))] [.int (if (M 62 s) = (M 62 t) then (1 : Int32) else (0 : Int32))] M Q by
    refine V.ic_ne (tgt := 19) dX4_areAlike_12 (by decide) (fun c12 => ?_) (fun c12 => ?_)
    · refine V.iconst dX4_areAlike_19 (v := 0) (by decide) ?_
      rw [if_neg c12] at kJ12; exact kJ12
    · refine V.iconst dX4_areAlike_15 (v := 1) (by decide) ?_
      refine V.goto dX4_areAlike_16 (tgt := 20) (by decide) ?_
      rw [if_pos c12] at kJ12; exact kJ12
  exact V.zret dX4_areAlike_20 rfl (by first | exact Or.inl rfl | exact Or.inr rfl | assumption | exact b2i_zo _ | (repeat' split) <;> first | exact Or.inl rfl | exact Or.inr rfl | assumption | exact b2i_zo _) (Qi hQ (by unfold b2i; (repeat' split) <;> (try simp_all [Int32.not_le, Int32.not_lt]) <;> (try (simp only [Int32.lt_iff_toInt_lt, Int32.le_iff_toInt_le, ← Int32.toInt_inj, Int32.reduceToInt] at *; omega))))
set_option maxHeartbeats 4000000 in
set_option maxRecDepth 100000 in
theorem c_sizeOf {g : GG} {d : Nat} {M : Mem} {Q : Option Value → Mem → Prop} {s : Nat} (hs : s < 4) (hQ : Q (some (.int (M 63 s))) (M)) : V cS g d mX4_sizeOf 0 [some (.ref 8), some (.int (nI s))] [] M Q := by
  refine V.aload_n dX4_sizeOf_0 rfl (i := 0) rfl ?_
  refine V.getR dX4_sizeOf_1 rfl flRX4_18 rfl ⟨by decide, by decide⟩ ?_
  refine V.iload_n dX4_sizeOf_4 rfl (i := 1) rfl ?_
  refine V.ialdN dX4_sizeOf_5 rfl ⟨by decide, by decide⟩ (by first | assumption | decide | omega) (by decide) ?_
  exact V.ret dX4_sizeOf_6 rfl (hQ)
set_option maxHeartbeats 4000000 in
set_option maxRecDepth 100000 in
theorem c_number {g : GG} {d : Nat} {M : Mem} {Q : Option Value → Mem → Prop} {s i : Nat} (hs : s < 4) (hi : i < 40) (hQ : Q (some (.int (M (64 + s) i))) (M)) : V cS g d mX4_number 0 [some (.ref 8), some (.int (nI s)), some (.int (nI i))] [] M Q := by
  refine V.aload_n dX4_number_0 rfl (i := 0) rfl ?_
  refine V.getR dX4_number_1 rfl flRX4_11 rfl ⟨by decide, by decide⟩ ?_
  refine V.iload_n dX4_number_4 rfl (i := 1) rfl ?_
  refine V.aaldIN dX4_number_5 rfl ⟨by decide, by decide⟩ (by first | assumption | decide | omega) (by decide) ?_
  refine V.iload_n dX4_number_6 rfl (i := 2) rfl ?_
  refine V.ialdN dX4_number_7 (layA64 (by first | assumption | decide | omega)) (inB64 (by first | assumption | decide | omega)) (by first | assumption | decide | omega) (by decide) ?_
  exact V.ret dX4_number_8 rfl (hQ)
set_option maxHeartbeats 4000000 in
set_option maxRecDepth 100000 in
theorem c_stand {g : GG} {d : Nat} {M : Mem} {Q : Option Value → Mem → Prop} {s : Nat} {i n : Int32} (hs : s < 4) (hQ : Q (some (.int (b2i (0 ≤ n ∧ 0 ≤ i ∧ i ≤ M 63 s ∧ n ≤ M 63 s - i)))) (M)) : V cS g d mX4_stand 0 [some (.ref 8), some (.int (nI s)), some (.int i), some (.int n)] [] M Q := by
  refine V.iload_n dX4_stand_0 rfl (i := 3) rfl ?_
  refine V.if_lt (tgt := 34) dX4_stand_1 (by decide) (fun c1 => ?_) (fun c1 => ?_)
  · refine V.iconst dX4_stand_34 (v := 0) (by decide) ?_
    exact V.zret dX4_stand_35 rfl (by first | exact Or.inl rfl | exact Or.inr rfl | assumption | exact b2i_zo _ | (repeat' split) <;> first | exact Or.inl rfl | exact Or.inr rfl | assumption | exact b2i_zo _) (Qi hQ (by unfold b2i; (repeat' split) <;> (try simp_all [Int32.not_le, Int32.not_lt]) <;> (try (simp only [Int32.lt_iff_toInt_lt, Int32.le_iff_toInt_le, ← Int32.toInt_inj, Int32.reduceToInt] at *; omega))))
  · refine V.iload_n dX4_stand_4 rfl (i := 2) rfl ?_
    refine V.if_lt (tgt := 34) dX4_stand_5 (by decide) (fun c5 => ?_) (fun c5 => ?_)
    · refine V.iconst dX4_stand_34 (v := 0) (by decide) ?_
      exact V.zret dX4_stand_35 rfl (by first | exact Or.inl rfl | exact Or.inr rfl | assumption | exact b2i_zo _ | (repeat' split) <;> first | exact Or.inl rfl | exact Or.inr rfl | assumption | exact b2i_zo _) (Qi hQ (by unfold b2i; (repeat' split) <;> (try simp_all [Int32.not_le, Int32.not_lt]) <;> (try (simp only [Int32.lt_iff_toInt_lt, Int32.le_iff_toInt_le, ← Int32.toInt_inj, Int32.reduceToInt] at *; omega))))
    · refine V.iload_n dX4_stand_8 rfl (i := 2) rfl ?_
      refine V.aload_n dX4_stand_9 rfl (i := 0) rfl ?_
      refine V.getR dX4_stand_10 rfl flRX4_18 rfl ⟨by decide, by decide⟩ ?_
      refine V.iload_n dX4_stand_13 rfl (i := 1) rfl ?_
      refine V.ialdN dX4_stand_14 rfl ⟨by decide, by decide⟩ (by first | assumption | decide | omega) (by decide) ?_
      refine V.ic_gt (tgt := 34) dX4_stand_15 (by decide) (fun c15 => ?_) (fun c15 => ?_)
      · refine V.iconst dX4_stand_34 (v := 0) (by decide) ?_
        exact V.zret dX4_stand_35 rfl (by first | exact Or.inl rfl | exact Or.inr rfl | assumption | exact b2i_zo _ | (repeat' split) <;> first | exact Or.inl rfl | exact Or.inr rfl | assumption | exact b2i_zo _) (Qi hQ (by unfold b2i; (repeat' split) <;> (try simp_all [Int32.not_le, Int32.not_lt]) <;> (try (simp only [Int32.lt_iff_toInt_lt, Int32.le_iff_toInt_le, ← Int32.toInt_inj, Int32.reduceToInt] at *; omega))))
      · refine V.iload_n dX4_stand_18 rfl (i := 3) rfl ?_
        refine V.aload_n dX4_stand_19 rfl (i := 0) rfl ?_
        refine V.getR dX4_stand_20 rfl flRX4_18 rfl ⟨by decide, by decide⟩ ?_
        refine V.iload_n dX4_stand_23 rfl (i := 1) rfl ?_
        refine V.ialdN dX4_stand_24 rfl ⟨by decide, by decide⟩ (by first | assumption | decide | omega) (by decide) ?_
        refine V.iload_n dX4_stand_25 rfl (i := 2) rfl ?_
        refine V.isub dX4_stand_26 ?_
        suffices kJ27 : V cS g d mX4_stand 35 [some (.ref 8), some (.int (nI s)), some (.int i), some (.int n)] [.int (if ((M 63 s) - i) < n then (0 : Int32) else (1 : Int32))] M Q by
          refine V.ic_gt (tgt := 34) dX4_stand_27 (by decide) (fun c27 => ?_) (fun c27 => ?_)
          · refine V.iconst dX4_stand_34 (v := 0) (by decide) ?_
            rw [if_pos c27] at kJ27; exact kJ27
          · refine V.iconst dX4_stand_30 (v := 1) (by decide) ?_
            refine V.goto dX4_stand_31 (tgt := 35) (by decide) ?_
            rw [if_neg c27] at kJ27; exact kJ27
        exact V.zret dX4_stand_35 rfl (by first | exact Or.inl rfl | exact Or.inr rfl | assumption | exact b2i_zo _ | (repeat' split) <;> first | exact Or.inl rfl | exact Or.inr rfl | assumption | exact b2i_zo _) (Qi hQ (by unfold b2i; (repeat' split) <;> (try simp_all [Int32.not_le, Int32.not_lt]) <;> (try (simp only [Int32.lt_iff_toInt_lt, Int32.le_iff_toInt_le, ← Int32.toInt_inj, Int32.reduceToInt] at *; omega))))
set_option maxHeartbeats 4000000 in
set_option maxRecDepth 100000 in
theorem c_write {g : GG} {d : Nat} {M : Mem} {Q : Option Value → Mem → Prop} {s i : Nat} {v : Int32} (hs : s < 4) (hi : i < 40) (hQ : Q none (put M (64 + s) i (if M 62 s = 32 then v else v &&& ((1 <<< (M 62 s &&& 31)) - 1)))) : V cS g d mX4_write 0 [some (.ref 8), some (.int (nI s)), some (.int (nI i)), some (.int v)] [] M Q := by
  refine V.aload_n dX4_write_0 rfl (i := 0) rfl ?_
  refine V.getR dX4_write_1 rfl flRX4_11 rfl ⟨by decide, by decide⟩ ?_
  refine V.iload_n dX4_write_4 rfl (i := 1) rfl ?_
  refine V.aaldIN dX4_write_5 rfl ⟨by decide, by decide⟩ (by first | assumption | decide | omega) (by decide) ?_
  refine V.iload_n dX4_write_6 rfl (i := 2) rfl ?_
  refine V.aload_n dX4_write_7 rfl (i := 0) rfl ?_
  refine V.getR dX4_write_8 rfl flRX4_14 rfl ⟨by decide, by decide⟩ ?_
  refine V.iload_n dX4_write_11 rfl (i := 1) rfl ?_
  refine V.ialdN dX4_write_12 rfl ⟨by decide, by decide⟩ (by first | assumption | decide | omega) (by decide) ?_
  refine V.bipush dX4_write_13 (v := 32) (by decide) ?_
  refine V.ic_ne (tgt := 22) dX4_write_15 (by decide) (fun c15 => ?_) (fun c15 => ?_)
  · refine V.iload_n dX4_write_22 rfl (i := 3) rfl ?_
    refine V.iconst dX4_write_23 (v := 1) (by decide) ?_
    refine V.aload_n dX4_write_24 rfl (i := 0) rfl ?_
    refine V.getR dX4_write_25 rfl flRX4_14 rfl ⟨by decide, by decide⟩ ?_
    refine V.iload_n dX4_write_28 rfl (i := 1) rfl ?_
    refine V.ialdN dX4_write_29 rfl ⟨by decide, by decide⟩ (by first | assumption | decide | omega) (by decide) ?_
    refine V.ishl dX4_write_30 ?_
    refine V.iconst dX4_write_31 (v := 1) (by decide) ?_
    refine V.isub dX4_write_32 ?_
    refine V.iand dX4_write_33 ?_
    refine V.iastN dX4_write_34 (layA64 (by first | assumption | decide | omega)) (inB64 (by first | assumption | decide | omega)) (by first | assumption | decide | omega) (by decide) ?_
    exact V.vret dX4_write_35 rfl (Qm hQ (by simp_all))
  · refine V.iload_n dX4_write_18 rfl (i := 3) rfl ?_
    refine V.goto dX4_write_19 (tgt := 34) (by decide) ?_
    refine V.iastN dX4_write_34 (layA64 (by first | assumption | decide | omega)) (inB64 (by first | assumption | decide | omega)) (by first | assumption | decide | omega) (by decide) ?_
    exact V.vret dX4_write_35 rfl (Qm hQ (by simp_all))
set_option maxHeartbeats 4000000 in
set_option maxRecDepth 100000 in
theorem c_carry {g : GG} {d : Nat} {M : Mem} {Q : Option Value → Mem → Prop} {s t i j n : Nat} (hs : s < 4) (ht : t < 4) (h1 : i + n ≤ 40) (h2 : j + n ≤ 40) (hQ : Q none (um M (64 + t) (va_cpy (M (64 + s)) (M (64 + t)) i j n))) : V cS g (d + 1) mX4_carry 0 [some (.ref 8), some (.int (nI s)), some (.int (nI i)), some (.int (nI t)), some (.int (nI j)), some (.int (nI n))] [] M Q := by
  refine V.aload_n dX4_carry_0 rfl (i := 0) rfl ?_
  refine V.getR dX4_carry_1 rfl flRX4_11 rfl ⟨by decide, by decide⟩ ?_
  refine V.iload_n dX4_carry_4 rfl (i := 1) rfl ?_
  refine V.aaldIN dX4_carry_5 rfl ⟨by decide, by decide⟩ (by first | assumption | decide | omega) (by decide) ?_
  refine V.iload_n dX4_carry_6 rfl (i := 2) rfl ?_
  refine V.aload_n dX4_carry_7 rfl (i := 0) rfl ?_
  refine V.getR dX4_carry_8 rfl flRX4_11 rfl ⟨by decide, by decide⟩ ?_
  refine V.iload_n dX4_carry_11 rfl (i := 3) rfl ?_
  refine V.aaldIN dX4_carry_12 rfl ⟨by decide, by decide⟩ (by first | assumption | decide | omega) (by decide) ?_
  refine V.iload dX4_carry_13 rfl ?_
  refine V.iload dX4_carry_15 rfl ?_
  refine V.copyN (sp' := i) (dp' := j) (n' := n) dX4_carry_17 rfl mlRX4_21 ac_n ac_s ac_i (layA64 (by first | assumption | decide | omega)) (inB64 (by first | assumption | decide | omega)) (layA64 (by first | assumption | decide | omega)) (inB64 (by first | assumption | decide | omega)) (by first | rfl | decide) (by first | rfl | decide) (by first | rfl | decide) (by first | assumption | decide | omega) (by first | assumption | decide | omega) (by decide) (by decide) (Nat.le_of_ble_eq_true rfl) ?_
  exact V.vret dX4_carry_20 rfl (hQ)
set_option maxHeartbeats 4000000 in
set_option maxRecDepth 100000 in
theorem l_sheetBegin {g : GG} {d : Nat} {Q : Option Value → Mem → Prop} {s : Nat} {nb sz : Int32} (hs : s < 4) : ∀ (n k : Nat) (M : Mem), k + n = 40 → Q none (um M (64 + s) (fun i => if k ≤ i ∧ i < 40 then 0 else M (64 + s) i)) → V cS g d mX4_begin 17 [some (.ref 8), some (.int (nI s)), some (.int nb), some (.int sz), some (.int (nI k))] [] M Q := by
  intro n
  induction n with
  | zero =>
    intro k M hk hQ
    obtain rfl : k = 40 := by omega
    refine V.iload dX4_begin_17 rfl ?_
    refine V.bipush dX4_begin_19 (v := 40) (by decide) ?_
    refine V.ic_ge (tgt := 40) dX4_begin_21 (by decide) (fun c21 => ?_) (fun q => absurd ((by decide)) q)
    exact V.vret dX4_begin_40 rfl (Qm hQ (by funext c i; unfold um; by_cases hc : c = 64 + s <;> simp [hc]; intro h1 h2; omega))
  | succ n ih =>
    intro k M hk hQ
    refine V.iload dX4_begin_17 rfl ?_
    refine V.bipush dX4_begin_19 (v := 40) (by decide) ?_
    refine V.ic_ge (tgt := 40) dX4_begin_21 (by decide) (fun q => absurd q ((nI_ge (a := k) (b := 40) (by omega) (by omega)))) (fun c21 => ?_)
    refine V.aload_n dX4_begin_24 rfl (i := 0) rfl ?_
    refine V.getR dX4_begin_25 rfl flRX4_11 rfl ⟨by decide, by decide⟩ ?_
    refine V.iload_n dX4_begin_28 rfl (i := 1) rfl ?_
    refine V.aaldIN dX4_begin_29 rfl ⟨by decide, by decide⟩ (by first | assumption | decide | omega) (by decide) ?_
    refine V.iload dX4_begin_30 rfl ?_
    refine V.iconst dX4_begin_32 (v := 0) (by decide) ?_
    refine V.iastN dX4_begin_33 (layA64 (by first | assumption | decide | omega)) (inB64 (by first | assumption | decide | omega)) (by first | assumption | decide | omega) (by decide) ?_
    refine V.iinc dX4_begin_34 rfl (v := (nI (k + 1))) (nI_1 _) (by decide) (fun _ h => by cases h; exact Or.inl rfl) rfl ?_
    refine V.goto dX4_begin_37 (tgt := 17) (by decide) ?_
    exact ih (k + 1) _ (by omega) (Qm hQ (by funext c i; unfold um put; by_cases hc : c = 64 + s <;> simp [hc]; (repeat' split) <;> (try rfl) <;> (try omega) <;> simp_all <;> omega))
theorem sheet_um {M : Mem} {s : Nat} {nb sz : Int32} : um (put (put M 62 s nb) 63 s sz) (64 + s) (fun i => if 0 ≤ i ∧ i < 40 then 0 else put (put M 62 s nb) 63 s sz (64 + s) i) = um (put (put M 62 s nb) 63 s sz) (64 + s) (fun i => if i < 40 then 0 else M (64 + s) i) := by
  have e1 : ¬ 64 + s = 62 := by omega
  have e2 : ¬ 64 + s = 63 := by omega
  congr 1
  funext i
  simp [put, e1, e2]
set_option maxHeartbeats 4000000 in
set_option maxRecDepth 100000 in
theorem c_sheetBegin {g : GG} {d : Nat} {M : Mem} {Q : Option Value → Mem → Prop} {s : Nat} {nb sz : Int32} (hs : s < 4) (hQ : Q none (um (put (put M 62 s nb) 63 s sz) (64 + s) (fun i => if i < 40 then 0 else M (64 + s) i))) : V cS g d mX4_begin 0 [some (.ref 8), some (.int (nI s)), some (.int nb), some (.int sz), none] [] M Q := by
  refine V.aload_n dX4_begin_0 rfl (i := 0) rfl ?_
  refine V.getR dX4_begin_1 rfl flRX4_14 rfl ⟨by decide, by decide⟩ ?_
  refine V.iload_n dX4_begin_4 rfl (i := 1) rfl ?_
  refine V.iload_n dX4_begin_5 rfl (i := 2) rfl ?_
  refine V.iastN dX4_begin_6 rfl ⟨by decide, by decide⟩ (by first | assumption | decide | omega) (by decide) ?_
  refine V.aload_n dX4_begin_7 rfl (i := 0) rfl ?_
  refine V.getR dX4_begin_8 rfl flRX4_18 rfl ⟨by decide, by decide⟩ ?_
  refine V.iload_n dX4_begin_11 rfl (i := 1) rfl ?_
  refine V.iload_n dX4_begin_12 rfl (i := 3) rfl ?_
  refine V.iastN dX4_begin_13 rfl ⟨by decide, by decide⟩ (by first | assumption | decide | omega) (by decide) ?_
  refine V.iconst dX4_begin_14 (v := 0) (by decide) ?_
  refine V.istore dX4_begin_15 (i := 4) (by decide) (fun _ h => by cases h; exact Or.inl rfl) rfl ?_
  exact l_sheetBegin (nb := nb) (sz := sz) hs 40 0 _ (by omega) (Qm hQ sheet_um)
set_option maxHeartbeats 4000000 in
set_option maxRecDepth 100000 in
theorem l_cd {g : GG} {d : Nat} {M : Mem} {Q : Option Value → Mem → Prop} {x y : Int32} : ∀ (b a t : Nat) (l5 : Option Value), a < 1000 → t + b ≤ 100 → Q (some (.int (nI (Nat.gcd a b)))) M → V cS g d mX9_commonDivisor 7 [some (.int x), some (.int y), some (.int (nI a)), some (.int (nI b)), some (.int (nI t)), l5] [] M Q := by
  intro b
  induction b using Nat.strongRecOn with
  | ind b ih =>
    intro a t l5 ha ht hQ
    refine V.fg (ls' := [some (.int x), some (.int y), some (.int (nI a)), some (.int (nI b)), some (.int (nI t)), none]) ⟨rfl, rfl, rfl, rfl, rfl, trivial⟩ ?_
    by_cases hb : b = 0
    · subst hb
      by_cases h1 : 100 ≤ t
      · skip
        refine V.iload dX9_commonDivisor_7 rfl ?_
        refine V.bipush dX9_commonDivisor_9 (v := 100) (by decide) ?_
        refine V.ic_ge (tgt := 34) dX9_commonDivisor_11 (by decide) (fun c11 => ?_) (fun q => absurd ((nI_le (a := 100) (b := t) (by omega) (by omega))) q)
        refine V.iload_n dX9_commonDivisor_34 rfl (i := 2) rfl ?_
        exact V.ret dX9_commonDivisor_35 rfl (Qi hQ (by rw [Nat.gcd_zero_right]))
      · skip
        refine V.iload dX9_commonDivisor_7 rfl ?_
        refine V.bipush dX9_commonDivisor_9 (v := 100) (by decide) ?_
        refine V.ic_ge (tgt := 34) dX9_commonDivisor_11 (by decide) (fun q => absurd q ((nI_ge (a := t) (b := 100) (by omega) (by omega)))) (fun c11 => ?_)
        refine V.iload_n dX9_commonDivisor_14 rfl (i := 3) rfl ?_
        refine V.if_eq (tgt := 34) dX9_commonDivisor_15 (by decide) (fun c15 => ?_) (fun q => absurd ((by decide)) q)
        refine V.iload_n dX9_commonDivisor_34 rfl (i := 2) rfl ?_
        exact V.ret dX9_commonDivisor_35 rfl (Qi hQ (by rw [Nat.gcd_zero_right]))
    · skip
      refine V.iload dX9_commonDivisor_7 rfl ?_
      refine V.bipush dX9_commonDivisor_9 (v := 100) (by decide) ?_
      refine V.ic_ge (tgt := 34) dX9_commonDivisor_11 (by decide) (fun q => absurd q ((nI_ge (a := t) (b := 100) (by omega) (by omega)))) (fun c11 => ?_)
      refine V.iload_n dX9_commonDivisor_14 rfl (i := 3) rfl ?_
      refine V.if_eq (tgt := 34) dX9_commonDivisor_15 (by decide) (fun q => absurd q ((nI_ne0 (by omega) (by omega)))) (fun c15 => ?_)
      refine V.iload_n dX9_commonDivisor_18 rfl (i := 2) rfl ?_
      refine V.iload_n dX9_commonDivisor_19 rfl (i := 3) rfl ?_
      refine V.irem dX9_commonDivisor_20 (nI_ne0 (by omega) (by omega)) ?_
      refine V.top (x' := (nI (a % b))) ((pk_rem (by omega) (by omega) (by omega))) ?_
      refine V.istore dX9_commonDivisor_21 (i := 5) (by decide) (fun _ h => by cases h; exact Or.inl rfl) rfl ?_
      refine V.iload_n dX9_commonDivisor_23 rfl (i := 3) rfl ?_
      refine V.istore_n dX9_commonDivisor_24 rfl (i := 2) (by decide) (fun _ h => by cases h; exact Or.inl rfl) rfl ?_
      refine V.iload dX9_commonDivisor_25 rfl ?_
      refine V.istore_n dX9_commonDivisor_27 rfl (i := 3) (by decide) (fun _ h => by cases h; exact Or.inl rfl) rfl ?_
      refine V.iinc dX9_commonDivisor_28 rfl (v := (nI (t + 1))) (nI_1 _) (by decide) (fun _ h => by cases h; exact Or.inl rfl) rfl ?_
      refine V.goto dX9_commonDivisor_31 (tgt := 7) (by decide) ?_
      exact ih (a % b) (Nat.mod_lt a (by omega)) b (t + 1) _ (by omega) (by have := Nat.mod_lt a (show b > 0 by omega); omega) (Qi hQ (by rw [Nat.gcd_comm b (a % b), ← Nat.gcd_rec, Nat.gcd_comm]))
set_option maxHeartbeats 4000000 in
set_option maxRecDepth 100000 in
theorem c_commonDivisor {g : GG} {d : Nat} {M : Mem} {Q : Option Value → Mem → Prop} {a b : Nat} (ha : a < 1000) (hb : b ≤ 100) (hQ : Q (some (.int (nI (Nat.gcd a b)))) (M)) : V cS g d mX9_commonDivisor 0 [some (.int (nI a)), some (.int (nI b)), none, none, none, none] [] M Q := by
  refine V.iload_n dX9_commonDivisor_0 rfl (i := 0) rfl ?_
  refine V.istore_n dX9_commonDivisor_1 rfl (i := 2) (by decide) (fun _ h => by cases h; exact Or.inl rfl) rfl ?_
  refine V.iload_n dX9_commonDivisor_2 rfl (i := 1) rfl ?_
  refine V.istore_n dX9_commonDivisor_3 rfl (i := 3) (by decide) (fun _ h => by cases h; exact Or.inl rfl) rfl ?_
  refine V.iconst dX9_commonDivisor_4 (v := 0) (by decide) ?_
  refine V.istore dX9_commonDivisor_5 (i := 4) (by decide) (fun _ h => by cases h; exact Or.inl rfl) rfl ?_
  exact l_cd b a 0 none ha (by omega) hQ

