/-! ===== the reference: its small acts ===== -/
theorem to64_le {a b : Int32} : a.toInt64 ≤ b.toInt64 ↔ a ≤ b := by
  rw [Int64.le_iff_toInt_le, Int32.le_iff_toInt_le, Int32.toInt_toInt64, Int32.toInt_toInt64]
theorem neg0 (x : Int32) : -x = 0 - x := by rw [Int32.zero_sub]
def heldR (v lo hi : Int32) : Int32 := if v < lo then lo else if hi < v then hi else v

set_option maxHeartbeats 4000000 in
set_option maxRecDepth 100000 in
theorem c_in32 {g : GG} {d : Nat} {M : Mem} {Q : Option Value → Mem → Prop} {v lo hi : Int32} {b c : Int64} (h1 : lo.toInt64 = b) (h2 : hi.toInt64 = c) (hQ : Q (some (.int (b2i (lo ≤ v ∧ v ≤ hi)))) M) : V rS g d mX10_in 0 [some (.long v.toInt64), none, some (.long b), none, some (.long c), none] [] M Q := by
  subst h1
  subst h2
  refine V.lload_n dX10_in_0 rfl (i := 0) rfl ?_
  refine V.lload_n dX10_in_1 rfl (i := 2) rfl ?_
  refine V.lcmp dX10_in_2 ?_
  suffices kJ3 : V rS g d mX10_in 18 [some (.long (Int32.toInt64 v)), none, some (.long (Int32.toInt64 lo)), none, some (.long (Int32.toInt64 hi)), none] [.int (if (lg_cmp (Int32.toInt64 v) (Int32.toInt64 lo)) < (0 : Int32) then (0 : Int32) else (if (0 : Int32) < (lg_cmp (Int32.toInt64 v) (Int32.toInt64 hi)) then (0 : Int32) else (1 : Int32)))] M Q by
    refine V.if_lt (tgt := 17) dX10_in_3 (by decide) (fun c3 => ?_) (fun c3 => ?_)
    · refine V.iconst dX10_in_17 (v := 0) (by decide) ?_
      rw [if_pos c3] at kJ3; exact kJ3
    · refine V.lload_n dX10_in_6 rfl (i := 0) rfl ?_
      refine V.lload dX10_in_7 rfl ?_
      refine V.lcmp dX10_in_9 ?_
      refine V.if_gt (tgt := 17) dX10_in_10 (by decide) (fun c10 => ?_) (fun c10 => ?_)
      · refine V.iconst dX10_in_17 (v := 0) (by decide) ?_
        rw [if_neg c3, if_pos c10] at kJ3; exact kJ3
      · refine V.iconst dX10_in_13 (v := 1) (by decide) ?_
        refine V.goto dX10_in_14 (tgt := 18) (by decide) ?_
        rw [if_neg c3, if_neg c10] at kJ3; exact kJ3
  exact V.zret dX10_in_18 rfl (by first | exact Or.inl rfl | exact Or.inr rfl | assumption | exact b2i_zo _ | (repeat' split) <;> first | exact Or.inl rfl | exact Or.inr rfl | assumption | exact b2i_zo _) (Qi hQ (by simp only [lg_cmp_lt, lg_cmp_gt, ← Int64.not_le, to64_le]; unfold b2i; (repeat' split) <;> simp_all))
set_option maxHeartbeats 4000000 in
set_option maxRecDepth 100000 in
theorem c_fnd1 {g : GG} {d : Nat} {M : Mem} {Q : Option Value → Mem → Prop}   (hQ : Q (some (.int ((-1000000001 : Int32)))) (put M 87 1 (M 87 1 + 1))) : V rS g d mX10_finds 0 [some (.ref 83), some (.int (1 : Int32))] [] M Q := by
  refine V.aload_n dX10_finds_0 rfl (i := 0) rfl ?_
  refine V.getR dX10_finds_1 rfl flRX10_19 rfl ⟨by decide, by decide⟩ ?_
  refine V.iload_n dX10_finds_4 rfl (i := 1) rfl ?_
  refine V.top (x' := (nI 1)) ((by decide)) ?_
  refine V.dup2 dX10_finds_5 rfl rfl ?_
  refine V.ialdN dX10_finds_6 rfl ⟨by decide, by decide⟩ (by first | assumption | decide | omega) (by decide) ?_
  refine V.iconst dX10_finds_7 (v := 1) (by decide) ?_
  refine V.iadd dX10_finds_8 ?_
  refine V.iastN dX10_finds_9 rfl ⟨by decide, by decide⟩ (by first | assumption | decide | omega) (by decide) ?_
  refine V.ldc dX10_finds_10 rfl ctRX10_65 ?_
  refine V.iload_n dX10_finds_12 rfl (i := 1) rfl ?_
  refine V.isub dX10_finds_13 ?_
  exact V.ret dX10_finds_14 rfl (hQ)
set_option maxHeartbeats 4000000 in
set_option maxRecDepth 100000 in
theorem c_fnd2 {g : GG} {d : Nat} {M : Mem} {Q : Option Value → Mem → Prop}   (hQ : Q (some (.int ((-1000000002 : Int32)))) (put M 87 2 (M 87 2 + 1))) : V rS g d mX10_finds 0 [some (.ref 83), some (.int (2 : Int32))] [] M Q := by
  refine V.aload_n dX10_finds_0 rfl (i := 0) rfl ?_
  refine V.getR dX10_finds_1 rfl flRX10_19 rfl ⟨by decide, by decide⟩ ?_
  refine V.iload_n dX10_finds_4 rfl (i := 1) rfl ?_
  refine V.top (x' := (nI 2)) ((by decide)) ?_
  refine V.dup2 dX10_finds_5 rfl rfl ?_
  refine V.ialdN dX10_finds_6 rfl ⟨by decide, by decide⟩ (by first | assumption | decide | omega) (by decide) ?_
  refine V.iconst dX10_finds_7 (v := 1) (by decide) ?_
  refine V.iadd dX10_finds_8 ?_
  refine V.iastN dX10_finds_9 rfl ⟨by decide, by decide⟩ (by first | assumption | decide | omega) (by decide) ?_
  refine V.ldc dX10_finds_10 rfl ctRX10_65 ?_
  refine V.iload_n dX10_finds_12 rfl (i := 1) rfl ?_
  refine V.isub dX10_finds_13 ?_
  exact V.ret dX10_finds_14 rfl (hQ)
set_option maxHeartbeats 4000000 in
set_option maxRecDepth 100000 in
theorem c_fnd3 {g : GG} {d : Nat} {M : Mem} {Q : Option Value → Mem → Prop}   (hQ : Q (some (.int ((-1000000003 : Int32)))) (put M 87 3 (M 87 3 + 1))) : V rS g d mX10_finds 0 [some (.ref 83), some (.int (3 : Int32))] [] M Q := by
  refine V.aload_n dX10_finds_0 rfl (i := 0) rfl ?_
  refine V.getR dX10_finds_1 rfl flRX10_19 rfl ⟨by decide, by decide⟩ ?_
  refine V.iload_n dX10_finds_4 rfl (i := 1) rfl ?_
  refine V.top (x' := (nI 3)) ((by decide)) ?_
  refine V.dup2 dX10_finds_5 rfl rfl ?_
  refine V.ialdN dX10_finds_6 rfl ⟨by decide, by decide⟩ (by first | assumption | decide | omega) (by decide) ?_
  refine V.iconst dX10_finds_7 (v := 1) (by decide) ?_
  refine V.iadd dX10_finds_8 ?_
  refine V.iastN dX10_finds_9 rfl ⟨by decide, by decide⟩ (by first | assumption | decide | omega) (by decide) ?_
  refine V.ldc dX10_finds_10 rfl ctRX10_65 ?_
  refine V.iload_n dX10_finds_12 rfl (i := 1) rfl ?_
  refine V.isub dX10_finds_13 ?_
  exact V.ret dX10_finds_14 rfl (hQ)
set_option maxHeartbeats 4000000 in
set_option maxRecDepth 100000 in
theorem c_fnd4 {g : GG} {d : Nat} {M : Mem} {Q : Option Value → Mem → Prop}   (hQ : Q (some (.int ((-1000000004 : Int32)))) (put M 87 4 (M 87 4 + 1))) : V rS g d mX10_finds 0 [some (.ref 83), some (.int (4 : Int32))] [] M Q := by
  refine V.aload_n dX10_finds_0 rfl (i := 0) rfl ?_
  refine V.getR dX10_finds_1 rfl flRX10_19 rfl ⟨by decide, by decide⟩ ?_
  refine V.iload_n dX10_finds_4 rfl (i := 1) rfl ?_
  refine V.top (x' := (nI 4)) ((by decide)) ?_
  refine V.dup2 dX10_finds_5 rfl rfl ?_
  refine V.ialdN dX10_finds_6 rfl ⟨by decide, by decide⟩ (by first | assumption | decide | omega) (by decide) ?_
  refine V.iconst dX10_finds_7 (v := 1) (by decide) ?_
  refine V.iadd dX10_finds_8 ?_
  refine V.iastN dX10_finds_9 rfl ⟨by decide, by decide⟩ (by first | assumption | decide | omega) (by decide) ?_
  refine V.ldc dX10_finds_10 rfl ctRX10_65 ?_
  refine V.iload_n dX10_finds_12 rfl (i := 1) rfl ?_
  refine V.isub dX10_finds_13 ?_
  exact V.ret dX10_finds_14 rfl (hQ)
set_option maxHeartbeats 4000000 in
set_option maxRecDepth 100000 in
theorem c_fnd5 {g : GG} {d : Nat} {M : Mem} {Q : Option Value → Mem → Prop}   (hQ : Q (some (.int ((-1000000005 : Int32)))) (put M 87 5 (M 87 5 + 1))) : V rS g d mX10_finds 0 [some (.ref 83), some (.int (5 : Int32))] [] M Q := by
  refine V.aload_n dX10_finds_0 rfl (i := 0) rfl ?_
  refine V.getR dX10_finds_1 rfl flRX10_19 rfl ⟨by decide, by decide⟩ ?_
  refine V.iload_n dX10_finds_4 rfl (i := 1) rfl ?_
  refine V.top (x' := (nI 5)) ((by decide)) ?_
  refine V.dup2 dX10_finds_5 rfl rfl ?_
  refine V.ialdN dX10_finds_6 rfl ⟨by decide, by decide⟩ (by first | assumption | decide | omega) (by decide) ?_
  refine V.iconst dX10_finds_7 (v := 1) (by decide) ?_
  refine V.iadd dX10_finds_8 ?_
  refine V.iastN dX10_finds_9 rfl ⟨by decide, by decide⟩ (by first | assumption | decide | omega) (by decide) ?_
  refine V.ldc dX10_finds_10 rfl ctRX10_65 ?_
  refine V.iload_n dX10_finds_12 rfl (i := 1) rfl ?_
  refine V.isub dX10_finds_13 ?_
  exact V.ret dX10_finds_14 rfl (hQ)
set_option maxHeartbeats 4000000 in
set_option maxRecDepth 100000 in
theorem c_heldR {g : GG} {d : Nat} {M : Mem} {Q : Option Value → Mem → Prop} {v lo hi : Int32}  (hQ : Q (some (.int (heldR v lo hi))) (M)) : V rS g d mX10_held 0 [some (.int v), some (.int lo), some (.int hi)] [] M Q := by
  refine V.iload_n dX10_held_0 rfl (i := 0) rfl ?_
  refine V.iload_n dX10_held_1 rfl (i := 1) rfl ?_
  suffices kJ2 : V rS g d mX10_held 19 [some (.int v), some (.int lo), some (.int hi)] [.int (if lo ≤ v then (if v ≤ hi then v else hi) else lo)] M Q by
    refine V.ic_ge (tgt := 9) dX10_held_2 (by decide) (fun c2 => ?_) (fun c2 => ?_)
    · refine V.iload_n dX10_held_9 rfl (i := 0) rfl ?_
      refine V.iload_n dX10_held_10 rfl (i := 2) rfl ?_
      refine V.ic_le (tgt := 18) dX10_held_11 (by decide) (fun c11 => ?_) (fun c11 => ?_)
      · refine V.iload_n dX10_held_18 rfl (i := 0) rfl ?_
        rw [if_pos c2, if_pos c11] at kJ2; exact kJ2
      · refine V.iload_n dX10_held_14 rfl (i := 2) rfl ?_
        refine V.goto dX10_held_15 (tgt := 19) (by decide) ?_
        rw [if_pos c2, if_neg c11] at kJ2; exact kJ2
    · refine V.iload_n dX10_held_5 rfl (i := 1) rfl ?_
      refine V.goto dX10_held_6 (tgt := 19) (by decide) ?_
      rw [if_neg c2] at kJ2; exact kJ2
  exact V.ret dX10_held_19 rfl (Qi hQ (by unfold heldR; (repeat' split) <;> (try simp_all [Int32.not_le, Int32.not_lt]) <;> (try (simp only [Int32.lt_iff_toInt_lt, Int32.le_iff_toInt_le, ← Int32.toInt_inj, Int32.reduceToInt] at *; omega))))
set_option maxHeartbeats 4000000 in
set_option maxRecDepth 100000 in
theorem c_sizeR {g : GG} {d : Nat} {M : Mem} {Q : Option Value → Mem → Prop} {v : Int32}  (hQ : Q (some (.int (absI v))) (M)) : V rS g d mX10_size 0 [some (.int v)] [] M Q := by
  refine V.iload_n dX10_size_0 rfl (i := 0) rfl ?_
  suffices kJ1 : V rS g d mX10_size 10 [some (.int v)] [.int (if (0 : Int32) ≤ v then v else (-v))] M Q by
    refine V.if_ge (tgt := 9) dX10_size_1 (by decide) (fun c1 => ?_) (fun c1 => ?_)
    · refine V.iload_n dX10_size_9 rfl (i := 0) rfl ?_
      rw [if_pos c1] at kJ1; exact kJ1
    · refine V.iload_n dX10_size_4 rfl (i := 0) rfl ?_
      refine V.ineg dX10_size_5 ?_
      refine V.goto dX10_size_6 (tgt := 10) (by decide) ?_
      rw [if_neg c1] at kJ1; exact kJ1
  exact V.ret dX10_size_10 rfl (Qi hQ (by unfold absI; (repeat' split) <;> (try rw [neg0]) <;> (try simp_all [Int32.not_le, Int32.not_lt]) <;> (try (simp only [Int32.lt_iff_toInt_lt, Int32.le_iff_toInt_le, ← Int32.toInt_inj, Int32.reduceToInt] at *; omega))))
set_option maxHeartbeats 4000000 in
set_option maxRecDepth 100000 in
theorem c_hourR {g : GG} {d : Nat} {M : Mem} {Q : Option Value → Mem → Prop} {a : Int32}  (hQ : Q (some (.int (b2i (0 ≤ a ∧ a ≤ 23)))) (M)) : V rS g (d + 1) mX10_isHour 0 [some (.int a)] [] M Q := by
  refine V.iload_n dX10_isHour_0 rfl (i := 0) rfl ?_
  refine V.i2l dX10_isHour_1 ?_
  refine V.lconst dX10_isHour_2 (v := 0) (by decide) ?_
  refine V.ldc2 dX10_isHour_3 rfl clRX10_70 ?_
  refine V.invs (z := mX10_in) (As := [_, _, _]) dX10_isHour_6 rfl mlRX10_66 okX10_in npX10_in rfl (Nat.le_of_ble_eq_true rfl) rfl (Nat.le_of_ble_eq_true rfl) (c_in32 (v := a) (lo := (0 : Int32)) (hi := (23 : Int32)) (by first | rfl | decide) (by first | rfl | decide)   ?_)
  show V rS g (d + 1) mX10_isHour 9 [some (.int a)] [.int (b2i ((0 : Int32) ≤ a ∧ a ≤ (23 : Int32)))] M Q
  exact V.zret dX10_isHour_9 rfl (by first | exact Or.inl rfl | exact Or.inr rfl | assumption | exact b2i_zo _ | (repeat' split) <;> first | exact Or.inl rfl | exact Or.inr rfl | assumption | exact b2i_zo _) (hQ)
set_option maxHeartbeats 4000000 in
set_option maxRecDepth 100000 in
theorem c_sheetR {g : GG} {d : Nat} {M : Mem} {Q : Option Value → Mem → Prop} {a : Int32}  (hQ : Q (some (.int (b2i (0 ≤ a ∧ a ≤ 3)))) (M)) : V rS g (d + 1) mX10_isSheet 0 [some (.int a)] [] M Q := by
  refine V.iload_n dX10_isSheet_0 rfl (i := 0) rfl ?_
  refine V.i2l dX10_isSheet_1 ?_
  refine V.lconst dX10_isSheet_2 (v := 0) (by decide) ?_
  refine V.ldc2 dX10_isSheet_3 rfl clRX10_317 ?_
  refine V.invs (z := mX10_in) (As := [_, _, _]) dX10_isSheet_6 rfl mlRX10_66 okX10_in npX10_in rfl (Nat.le_of_ble_eq_true rfl) rfl (Nat.le_of_ble_eq_true rfl) (c_in32 (v := a) (lo := (0 : Int32)) (hi := (3 : Int32)) (by first | rfl | decide) (by first | rfl | decide)   ?_)
  show V rS g (d + 1) mX10_isSheet 9 [some (.int a)] [.int (b2i ((0 : Int32) ≤ a ∧ a ≤ (3 : Int32)))] M Q
  exact V.zret dX10_isSheet_9 rfl (by first | exact Or.inl rfl | exact Or.inr rfl | assumption | exact b2i_zo _ | (repeat' split) <;> first | exact Or.inl rfl | exact Or.inr rfl | assumption | exact b2i_zo _) (hQ)
theorem le_pred {b : Int32} {n : Nat} (h : n < 1000) : b ≤ nI n - 1 ↔ b < nI n := by
  have e : (nI n - 1).toInt = (n : Int) - 1 := pk_sub_toInt (a := n) (b := 1) (by omega) (by omega)
  rw [Int32.le_iff_toInt_le, Int32.lt_iff_toInt_lt, e, nI_toInt (by omega)]
  omega
theorem b2i_iff {p q : Prop} [Decidable p] [Decidable q] (h : p ↔ q) : b2i p = b2i q := by unfold b2i; by_cases c : p; rw [if_pos c, if_pos (h.mp c)]; rw [if_neg c, if_neg (fun z => c (h.mpr z))]

set_option maxHeartbeats 4000000 in
set_option maxRecDepth 100000 in
theorem c_bellR {g : GG} {d : Nat} {M : Mem} {Q : Option Value → Mem → Prop} {a : Int32} {n : Nat} (hn : M 84 103 = nI n) (h8 : n ≤ 8) (hQ : Q (some (.int (b2i (0 ≤ a ∧ a < nI n)))) (M)) : V rS g (d + 1) mX10_isBell 0 [some (.ref 83), some (.int a)] [] M Q := by
  refine V.iload_n dX10_isBell_0 rfl (i := 1) rfl ?_
  refine V.i2l dX10_isBell_1 ?_
  refine V.lconst dX10_isBell_2 (v := 0) (by decide) ?_
  refine V.aload_n dX10_isBell_3 rfl (i := 0) rfl ?_
  refine V.getR dX10_isBell_4 rfl flRX10_7 rfl ⟨by decide, by decide⟩ ?_
  refine V.bipush dX10_isBell_7 (v := 103) (by decide) ?_
  refine V.top (x' := nI 103) (by decide) ?_
  refine V.ialdN dX10_isBell_9 rfl ⟨by decide, by decide⟩ (by first | assumption | decide | omega) (by decide) ?_
  refine V.top (x' := (nI n)) (hn) ?_
  refine V.iconst dX10_isBell_10 (v := 1) (by decide) ?_
  refine V.isub dX10_isBell_11 ?_
  refine V.i2l dX10_isBell_12 ?_
  refine V.invs (z := mX10_in) (As := [_, _, _]) dX10_isBell_13 rfl mlRX10_66 okX10_in npX10_in rfl (Nat.le_of_ble_eq_true rfl) rfl (Nat.le_of_ble_eq_true rfl) (c_in32 (v := a) (lo := 0) (hi := nI n - 1) rfl rfl ?_)
  show V rS g (d + 1) mX10_isBell 16 [some (.ref 83), some (.int a)] [.int (b2i (0 ≤ a ∧ a ≤ nI n - 1))] M Q
  exact V.zret dX10_isBell_16 rfl (by first | exact Or.inl rfl | exact Or.inr rfl | assumption | exact b2i_zo _ | (repeat' split) <;> first | exact Or.inl rfl | exact Or.inr rfl | assumption | exact b2i_zo _) (Qi hQ (b2i_iff (and_congr_right fun _ => le_pred (by omega))))
set_option maxHeartbeats 4000000 in
set_option maxRecDepth 100000 in
theorem c_earR {g : GG} {d : Nat} {M : Mem} {Q : Option Value → Mem → Prop} {a : Int32} {n : Nat} (hn : M 84 104 = nI n) (h8 : n ≤ 10) (hQ : Q (some (.int (b2i (0 ≤ a ∧ a < nI n)))) (M)) : V rS g (d + 1) mX10_isEar 0 [some (.ref 83), some (.int a)] [] M Q := by
  refine V.iload_n dX10_isEar_0 rfl (i := 1) rfl ?_
  refine V.i2l dX10_isEar_1 ?_
  refine V.lconst dX10_isEar_2 (v := 0) (by decide) ?_
  refine V.aload_n dX10_isEar_3 rfl (i := 0) rfl ?_
  refine V.getR dX10_isEar_4 rfl flRX10_7 rfl ⟨by decide, by decide⟩ ?_
  refine V.bipush dX10_isEar_7 (v := 104) (by decide) ?_
  refine V.top (x' := nI 104) (by decide) ?_
  refine V.ialdN dX10_isEar_9 rfl ⟨by decide, by decide⟩ (by first | assumption | decide | omega) (by decide) ?_
  refine V.top (x' := (nI n)) (hn) ?_
  refine V.iconst dX10_isEar_10 (v := 1) (by decide) ?_
  refine V.isub dX10_isEar_11 ?_
  refine V.i2l dX10_isEar_12 ?_
  refine V.invs (z := mX10_in) (As := [_, _, _]) dX10_isEar_13 rfl mlRX10_66 okX10_in npX10_in rfl (Nat.le_of_ble_eq_true rfl) rfl (Nat.le_of_ble_eq_true rfl) (c_in32 (v := a) (lo := 0) (hi := nI n - 1) rfl rfl ?_)
  show V rS g (d + 1) mX10_isEar 16 [some (.ref 83), some (.int a)] [.int (b2i (0 ≤ a ∧ a ≤ nI n - 1))] M Q
  exact V.zret dX10_isEar_16 rfl (by first | exact Or.inl rfl | exact Or.inr rfl | assumption | exact b2i_zo _ | (repeat' split) <;> first | exact Or.inl rfl | exact Or.inr rfl | assumption | exact b2i_zo _) (Qi hQ (b2i_iff (and_congr_right fun _ => le_pred (by omega))))
set_option maxHeartbeats 4000000 in
set_option maxRecDepth 100000 in
theorem c_of {g : GG} {d : Nat} {M : Mem} {Q : Option Value → Mem → Prop} {b w : Nat} (hb : b ≤ 8) (hw : w < 7) (hQ : Q (some (.int (M 84 (108 + 7 * b + w)))) (M)) : V rS g d mX10_of 0 [some (.ref 83), some (.int (nI b)), some (.int (nI w))] [] M Q := by
  refine V.aload_n dX10_of_0 rfl (i := 0) rfl ?_
  refine V.getR dX10_of_1 rfl flRX10_7 rfl ⟨by decide, by decide⟩ ?_
  refine V.bipush dX10_of_4 (v := 108) (by decide) ?_
  refine V.bipush dX10_of_6 (v := 7) (by decide) ?_
  refine V.iload_n dX10_of_8 rfl (i := 1) rfl ?_
  refine V.imul dX10_of_9 ?_
  refine V.top (x' := (nI (7 * b))) (pk_mul 7 b) ?_
  refine V.iadd dX10_of_10 ?_
  refine V.top (x' := (nI (108 + (7 * b)))) (nI_add 108 (7 * b)) ?_
  refine V.iload_n dX10_of_11 rfl (i := 2) rfl ?_
  refine V.iadd dX10_of_12 ?_
  refine V.top (x' := (nI ((108 + (7 * b)) + w))) (nI_add (108 + (7 * b)) w) ?_
  refine V.ialdN dX10_of_13 rfl ⟨by decide, by decide⟩ (by first | assumption | decide | omega) (by decide) ?_
  exact V.ret dX10_of_14 rfl (hQ)
set_option maxHeartbeats 4000000 in
set_option maxRecDepth 100000 in
theorem c_bec {g : GG} {d : Nat} {M : Mem} {Q : Option Value → Mem → Prop} {b w : Nat} {v : Int32} (hb : b ≤ 8) (hw : w < 7) (hQ : Q none (put M 84 (108 + 7 * b + w) v)) : V rS g d mX10_becomes 0 [some (.ref 83), some (.int (nI b)), some (.int (nI w)), some (.int v)] [] M Q := by
  refine V.aload_n dX10_becomes_0 rfl (i := 0) rfl ?_
  refine V.getR dX10_becomes_1 rfl flRX10_7 rfl ⟨by decide, by decide⟩ ?_
  refine V.bipush dX10_becomes_4 (v := 108) (by decide) ?_
  refine V.bipush dX10_becomes_6 (v := 7) (by decide) ?_
  refine V.iload_n dX10_becomes_8 rfl (i := 1) rfl ?_
  refine V.imul dX10_becomes_9 ?_
  refine V.top (x' := (nI (7 * b))) (pk_mul 7 b) ?_
  refine V.iadd dX10_becomes_10 ?_
  refine V.top (x' := (nI (108 + (7 * b)))) (nI_add 108 (7 * b)) ?_
  refine V.iload_n dX10_becomes_11 rfl (i := 2) rfl ?_
  refine V.iadd dX10_becomes_12 ?_
  refine V.top (x' := (nI ((108 + (7 * b)) + w))) (nI_add (108 + (7 * b)) w) ?_
  refine V.iload_n dX10_becomes_13 rfl (i := 3) rfl ?_
  refine V.iastN dX10_becomes_14 rfl ⟨by decide, by decide⟩ (by first | assumption | decide | omega) (by decide) ?_
  exact V.vret dX10_becomes_15 rfl (hQ)
set_option maxHeartbeats 4000000 in
set_option maxRecDepth 100000 in
theorem c_lays {g : GG} {d : Nat} {M : Mem} {Q : Option Value → Mem → Prop} {b : Nat} {k m s l : Int32} (hb : b ≤ 8) (hQ : Q none (put (put (put (put (put (put (put M 84 (108 + 7 * b + 0) k) 84 (108 + 7 * b + 1) m) 84 (108 + 7 * b + 2) s) 84 (108 + 7 * b + 3) l) 84 (108 + 7 * b + 4) 0) 84 (108 + 7 * b + 5) 1) 84 (108 + 7 * b + 6) 0)) : V rS g (d + 1) mX10_lays 0 [some (.ref 83), some (.int (nI b)), some (.int k), some (.int m), some (.int s), some (.int l)] [] M Q := by
  refine V.aload_n dX10_lays_0 rfl (i := 0) rfl ?_
  refine V.iload_n dX10_lays_1 rfl (i := 1) rfl ?_
  refine V.iconst dX10_lays_2 (v := 0) (by decide) ?_
  refine V.iload_n dX10_lays_3 rfl (i := 2) rfl ?_
  refine V.invv (z := mX10_becomes) (As := [_, _, _]) dX10_lays_4 rfl mlRX10_162 okX10_becomes npX10_becomes rfl rfl rfl ⟨by decide, by decide⟩ (Nat.le_of_ble_eq_true rfl) rfl (Nat.le_of_ble_eq_true rfl) (c_bec  (by first | assumption | decide | omega) (by first | assumption | decide | omega) ?_)
  show V rS g (d + 1) mX10_lays 7 [some (.ref 83), some (.int (nI b)), some (.int k), some (.int m), some (.int s), some (.int l)] [] (put M 84 (108 + 7 * b + 0) k) Q
  refine V.aload_n dX10_lays_7 rfl (i := 0) rfl ?_
  refine V.iload_n dX10_lays_8 rfl (i := 1) rfl ?_
  refine V.iconst dX10_lays_9 (v := 1) (by decide) ?_
  refine V.iload_n dX10_lays_10 rfl (i := 3) rfl ?_
  refine V.invv (z := mX10_becomes) (As := [_, _, _]) dX10_lays_11 rfl mlRX10_162 okX10_becomes npX10_becomes rfl rfl rfl ⟨by decide, by decide⟩ (Nat.le_of_ble_eq_true rfl) rfl (Nat.le_of_ble_eq_true rfl) (c_bec  (by first | assumption | decide | omega) (by first | assumption | decide | omega) ?_)
  show V rS g (d + 1) mX10_lays 14 [some (.ref 83), some (.int (nI b)), some (.int k), some (.int m), some (.int s), some (.int l)] [] (put (put M 84 (108 + 7 * b + 0) k) 84 (108 + 7 * b + 1) m) Q
  refine V.aload_n dX10_lays_14 rfl (i := 0) rfl ?_
  refine V.iload_n dX10_lays_15 rfl (i := 1) rfl ?_
  refine V.iconst dX10_lays_16 (v := 2) (by decide) ?_
  refine V.iload dX10_lays_17 rfl ?_
  refine V.invv (z := mX10_becomes) (As := [_, _, _]) dX10_lays_19 rfl mlRX10_162 okX10_becomes npX10_becomes rfl rfl rfl ⟨by decide, by decide⟩ (Nat.le_of_ble_eq_true rfl) rfl (Nat.le_of_ble_eq_true rfl) (c_bec  (by first | assumption | decide | omega) (by first | assumption | decide | omega) ?_)
  show V rS g (d + 1) mX10_lays 22 [some (.ref 83), some (.int (nI b)), some (.int k), some (.int m), some (.int s), some (.int l)] [] (put (put (put M 84 (108 + 7 * b + 0) k) 84 (108 + 7 * b + 1) m) 84 (108 + 7 * b + 2) s) Q
  refine V.aload_n dX10_lays_22 rfl (i := 0) rfl ?_
  refine V.iload_n dX10_lays_23 rfl (i := 1) rfl ?_
  refine V.iconst dX10_lays_24 (v := 3) (by decide) ?_
  refine V.iload dX10_lays_25 rfl ?_
  refine V.invv (z := mX10_becomes) (As := [_, _, _]) dX10_lays_27 rfl mlRX10_162 okX10_becomes npX10_becomes rfl rfl rfl ⟨by decide, by decide⟩ (Nat.le_of_ble_eq_true rfl) rfl (Nat.le_of_ble_eq_true rfl) (c_bec  (by first | assumption | decide | omega) (by first | assumption | decide | omega) ?_)
  show V rS g (d + 1) mX10_lays 30 [some (.ref 83), some (.int (nI b)), some (.int k), some (.int m), some (.int s), some (.int l)] [] (put (put (put (put M 84 (108 + 7 * b + 0) k) 84 (108 + 7 * b + 1) m) 84 (108 + 7 * b + 2) s) 84 (108 + 7 * b + 3) l) Q
  refine V.aload_n dX10_lays_30 rfl (i := 0) rfl ?_
  refine V.iload_n dX10_lays_31 rfl (i := 1) rfl ?_
  refine V.iconst dX10_lays_32 (v := 4) (by decide) ?_
  refine V.iconst dX10_lays_33 (v := 0) (by decide) ?_
  refine V.invv (z := mX10_becomes) (As := [_, _, _]) dX10_lays_34 rfl mlRX10_162 okX10_becomes npX10_becomes rfl rfl rfl ⟨by decide, by decide⟩ (Nat.le_of_ble_eq_true rfl) rfl (Nat.le_of_ble_eq_true rfl) (c_bec  (by first | assumption | decide | omega) (by first | assumption | decide | omega) ?_)
  show V rS g (d + 1) mX10_lays 37 [some (.ref 83), some (.int (nI b)), some (.int k), some (.int m), some (.int s), some (.int l)] [] (put (put (put (put (put M 84 (108 + 7 * b + 0) k) 84 (108 + 7 * b + 1) m) 84 (108 + 7 * b + 2) s) 84 (108 + 7 * b + 3) l) 84 (108 + 7 * b + 4) (0 : Int32)) Q
  refine V.aload_n dX10_lays_37 rfl (i := 0) rfl ?_
  refine V.iload_n dX10_lays_38 rfl (i := 1) rfl ?_
  refine V.iconst dX10_lays_39 (v := 5) (by decide) ?_
  refine V.iconst dX10_lays_40 (v := 1) (by decide) ?_
  refine V.invv (z := mX10_becomes) (As := [_, _, _]) dX10_lays_41 rfl mlRX10_162 okX10_becomes npX10_becomes rfl rfl rfl ⟨by decide, by decide⟩ (Nat.le_of_ble_eq_true rfl) rfl (Nat.le_of_ble_eq_true rfl) (c_bec  (by first | assumption | decide | omega) (by first | assumption | decide | omega) ?_)
  show V rS g (d + 1) mX10_lays 44 [some (.ref 83), some (.int (nI b)), some (.int k), some (.int m), some (.int s), some (.int l)] [] (put (put (put (put (put (put M 84 (108 + 7 * b + 0) k) 84 (108 + 7 * b + 1) m) 84 (108 + 7 * b + 2) s) 84 (108 + 7 * b + 3) l) 84 (108 + 7 * b + 4) (0 : Int32)) 84 (108 + 7 * b + 5) (1 : Int32)) Q
  refine V.aload_n dX10_lays_44 rfl (i := 0) rfl ?_
  refine V.iload_n dX10_lays_45 rfl (i := 1) rfl ?_
  refine V.bipush dX10_lays_46 (v := 6) (by decide) ?_
  refine V.iconst dX10_lays_48 (v := 0) (by decide) ?_
  refine V.invv (z := mX10_becomes) (As := [_, _, _]) dX10_lays_49 rfl mlRX10_162 okX10_becomes npX10_becomes rfl rfl rfl ⟨by decide, by decide⟩ (Nat.le_of_ble_eq_true rfl) rfl (Nat.le_of_ble_eq_true rfl) (c_bec  (by first | assumption | decide | omega) (by first | assumption | decide | omega) ?_)
  show V rS g (d + 1) mX10_lays 52 [some (.ref 83), some (.int (nI b)), some (.int k), some (.int m), some (.int s), some (.int l)] [] (put (put (put (put (put (put (put M 84 (108 + 7 * b + 0) k) 84 (108 + 7 * b + 1) m) 84 (108 + 7 * b + 2) s) 84 (108 + 7 * b + 3) l) 84 (108 + 7 * b + 4) (0 : Int32)) 84 (108 + 7 * b + 5) (1 : Int32)) 84 (108 + 7 * b + 6) (0 : Int32)) Q
  exact V.vret dX10_lays_52 rfl (hQ)
set_option maxHeartbeats 4000000 in
set_option maxRecDepth 100000 in
theorem c_isOfR {g : GG} {d : Nat} {M : Mem} {Q : Option Value → Mem → Prop} {a k : Int32}  (hQ : Q (some (.int (b2i (isOfB a k = true)))) (M)) : V rS g d mX10_isOf 0 [some (.int a), some (.int k)] [] M Q := by
  refine V.iload_n dX10_isOf_0 rfl (i := 1) rfl ?_
  suffices kJ1 : V rS g d mX10_isOf 40 [some (.int a), some (.int k)] [.int (if k = (0 : Int32) then (1 : Int32) else (if k = a then (1 : Int32) else (if k = (1 : Int32) then (if a = (4 : Int32) then (1 : Int32) else (if a = (5 : Int32) then (1 : Int32) else (if k = (3 : Int32) then (if a = (6 : Int32) then (1 : Int32) else (0 : Int32)) else (0 : Int32)))) else (if k = (3 : Int32) then (if a = (6 : Int32) then (1 : Int32) else (0 : Int32)) else (0 : Int32)))))] M Q by
    refine V.if_eq (tgt := 35) dX10_isOf_1 (by decide) (fun c1 => ?_) (fun c1 => ?_)
    · refine V.iconst dX10_isOf_35 (v := 1) (by decide) ?_
      refine V.goto dX10_isOf_36 (tgt := 40) (by decide) ?_
      rw [if_pos c1] at kJ1; exact kJ1
    · refine V.iload_n dX10_isOf_4 rfl (i := 1) rfl ?_
      refine V.iload_n dX10_isOf_5 rfl (i := 0) rfl ?_
      refine V.ic_eq (tgt := 35) dX10_isOf_6 (by decide) (fun c6 => ?_) (fun c6 => ?_)
      · refine V.iconst dX10_isOf_35 (v := 1) (by decide) ?_
        refine V.goto dX10_isOf_36 (tgt := 40) (by decide) ?_
        rw [if_neg c1, if_pos c6] at kJ1; exact kJ1
      · refine V.iload_n dX10_isOf_9 rfl (i := 1) rfl ?_
        refine V.iconst dX10_isOf_10 (v := 1) (by decide) ?_
        refine V.ic_ne (tgt := 24) dX10_isOf_11 (by decide) (fun c11 => ?_) (fun c11 => ?_)
        · refine V.iload_n dX10_isOf_24 rfl (i := 1) rfl ?_
          refine V.iconst dX10_isOf_25 (v := 3) (by decide) ?_
          refine V.ic_ne (tgt := 39) dX10_isOf_26 (by decide) (fun c26 => ?_) (fun c26 => ?_)
          · refine V.iconst dX10_isOf_39 (v := 0) (by decide) ?_
            rw [if_neg c1, if_neg c6, if_neg c11, if_neg c26] at kJ1; exact kJ1
          · refine V.iload_n dX10_isOf_29 rfl (i := 0) rfl ?_
            refine V.bipush dX10_isOf_30 (v := 6) (by decide) ?_
            refine V.ic_ne (tgt := 39) dX10_isOf_32 (by decide) (fun c32 => ?_) (fun c32 => ?_)
            · refine V.iconst dX10_isOf_39 (v := 0) (by decide) ?_
              rw [if_neg c1, if_neg c6, if_neg c11, if_pos c26, if_neg c32] at kJ1; exact kJ1
            · refine V.iconst dX10_isOf_35 (v := 1) (by decide) ?_
              refine V.goto dX10_isOf_36 (tgt := 40) (by decide) ?_
              rw [if_neg c1, if_neg c6, if_neg c11, if_pos c26, if_pos c32] at kJ1; exact kJ1
        · refine V.iload_n dX10_isOf_14 rfl (i := 0) rfl ?_
          refine V.iconst dX10_isOf_15 (v := 4) (by decide) ?_
          refine V.ic_eq (tgt := 35) dX10_isOf_16 (by decide) (fun c16 => ?_) (fun c16 => ?_)
          · refine V.iconst dX10_isOf_35 (v := 1) (by decide) ?_
            refine V.goto dX10_isOf_36 (tgt := 40) (by decide) ?_
            rw [if_neg c1, if_neg c6, if_pos c11, if_pos c16] at kJ1; exact kJ1
          · refine V.iload_n dX10_isOf_19 rfl (i := 0) rfl ?_
            refine V.iconst dX10_isOf_20 (v := 5) (by decide) ?_
            refine V.ic_eq (tgt := 35) dX10_isOf_21 (by decide) (fun c21 => ?_) (fun c21 => ?_)
            · refine V.iconst dX10_isOf_35 (v := 1) (by decide) ?_
              refine V.goto dX10_isOf_36 (tgt := 40) (by decide) ?_
              rw [if_neg c1, if_neg c6, if_pos c11, if_neg c16, if_pos c21] at kJ1; exact kJ1
            · refine V.iload_n dX10_isOf_24 rfl (i := 1) rfl ?_
              refine V.iconst dX10_isOf_25 (v := 3) (by decide) ?_
              refine V.ic_ne (tgt := 39) dX10_isOf_26 (by decide) (fun c26 => ?_) (fun c26 => ?_)
              · refine V.iconst dX10_isOf_39 (v := 0) (by decide) ?_
                rw [if_neg c1, if_neg c6, if_pos c11, if_neg c16, if_neg c21, if_neg c26] at kJ1; exact kJ1
              · refine V.iload_n dX10_isOf_29 rfl (i := 0) rfl ?_
                refine V.bipush dX10_isOf_30 (v := 6) (by decide) ?_
                refine V.ic_ne (tgt := 39) dX10_isOf_32 (by decide) (fun c32 => ?_) (fun c32 => ?_)
                · refine V.iconst dX10_isOf_39 (v := 0) (by decide) ?_
                  rw [if_neg c1, if_neg c6, if_pos c11, if_neg c16, if_neg c21, if_pos c26, if_neg c32] at kJ1; exact kJ1
                · refine V.iconst dX10_isOf_35 (v := 1) (by decide) ?_
                  refine V.goto dX10_isOf_36 (tgt := 40) (by decide) ?_
                  rw [if_neg c1, if_neg c6, if_pos c11, if_neg c16, if_neg c21, if_pos c26, if_pos c32] at kJ1; exact kJ1
  exact V.zret dX10_isOf_40 rfl (by first | exact Or.inl rfl | exact Or.inr rfl | assumption | exact b2i_zo _ | (repeat' split) <;> first | exact Or.inl rfl | exact Or.inr rfl | assumption | exact b2i_zo _) (Qi hQ (by unfold b2i isOfB; (repeat' split) <;> (try simp_all [Int32.not_le, Int32.not_lt]) <;> (try (simp only [Int32.lt_iff_toInt_lt, Int32.le_iff_toInt_le, ← Int32.toInt_inj, Int32.reduceToInt] at *; omega))))
set_option maxHeartbeats 4000000 in
set_option maxRecDepth 100000 in
theorem c_struck {g : GG} {d : Nat} {M : Mem} {Q : Option Value → Mem → Prop} {b : Nat} {h : Int32} (hb : b ≤ 8) (hs : M 84 (108 + 7 * b + 6) = 0 ∨ M 84 (108 + 7 * b + 6) = 1) (hQ : Q (some (.int (b2i (strk (M 84 (108 + 7 * b + 0)) (M 84 (108 + 7 * b + 1)) (M 84 (108 + 7 * b + 6)) h = true)))) M) : V rS g (d + 1) mX10_isStruck 0 [some (.ref 83), some (.int (nI b)), some (.int h), none] [] M Q := by
  by_cases hd : 6 ≤ h ∧ h ≤ 22
  · skip
    refine V.iload_n dX10_isStruck_0 rfl (i := 2) rfl ?_
    refine V.i2l dX10_isStruck_1 ?_
    refine V.ldc2 dX10_isStruck_2 rfl clRX10_173 ?_
    refine V.ldc2 dX10_isStruck_5 rfl clRX10_189 ?_
    refine V.invs (z := mX10_in) (As := [_, _, _]) dX10_isStruck_8 rfl mlRX10_66 okX10_in npX10_in rfl (Nat.le_of_ble_eq_true rfl) rfl (Nat.le_of_ble_eq_true rfl) (c_in32 (v := h) (lo := (6 : Int32)) (hi := (22 : Int32)) (by first | rfl | decide) (by first | rfl | decide)   ?_)
    show V rS g (d + 1) mX10_isStruck 11 [some (.ref 83), some (.int (nI b)), some (.int h), none] [.int (b2i ((6 : Int32) ≤ h ∧ h ≤ (22 : Int32)))] M Q
    refine V.top (x' := (1 : Int32)) ((b2i_t hd)) ?_
    refine V.istore_n dX10_isStruck_11 rfl (i := 3) (by decide) (fun _ h => by cases h; exact Or.inl rfl) rfl ?_
    refine V.aload_n dX10_isStruck_12 rfl (i := 0) rfl ?_
    refine V.iload_n dX10_isStruck_13 rfl (i := 1) rfl ?_
    refine V.bipush dX10_isStruck_14 (v := 6) (by decide) ?_
    refine V.invv (z := mX10_of) (As := [_, _]) dX10_isStruck_16 rfl mlRX10_175 okX10_of npX10_of rfl rfl rfl ⟨by decide, by decide⟩ (Nat.le_of_ble_eq_true rfl) rfl (Nat.le_of_ble_eq_true rfl) (c_of  (by first | assumption | decide | omega) (by first | assumption | decide | omega) ?_)
    show V rS g (d + 1) mX10_isStruck 19 [some (.ref 83), some (.int (nI b)), some (.int h), some (.int (1 : Int32))] [.int (M 84 (108 + 7 * b + 6))] (M) Q
    refine V.iconst dX10_isStruck_19 (v := 1) (by decide) ?_
    refine V.ic_ne (tgt := 25) dX10_isStruck_20 (by decide) (fun c20 => ?_) (fun c20 => ?_)
    · refine V.aload_n dX10_isStruck_25 rfl (i := 0) rfl ?_
      refine V.iload_n dX10_isStruck_26 rfl (i := 1) rfl ?_
      refine V.iconst dX10_isStruck_27 (v := 0) (by decide) ?_
      refine V.invv (z := mX10_of) (As := [_, _]) dX10_isStruck_28 rfl mlRX10_175 okX10_of npX10_of rfl rfl rfl ⟨by decide, by decide⟩ (Nat.le_of_ble_eq_true rfl) rfl (Nat.le_of_ble_eq_true rfl) (c_of  (by first | assumption | decide | omega) (by first | assumption | decide | omega) ?_)
      show V rS g (d + 1) mX10_isStruck 31 [some (.ref 83), some (.int (nI b)), some (.int h), some (.int (1 : Int32))] [.int ((M) 84 (108 + 7 * b + 0))] ((M)) Q
      by_cases s31_1 : ((M) 84 (108 + 7 * b + 0)) = (1 : Int32)
      · refine V.tabIn (tgt := 68) dX10_isStruck_31 (by rw [s31_1]; decide) (by rw [s31_1]; decide) (by rw [s31_1]; rfl) (by decide) ?_
        refine V.iload_n dX10_isStruck_68 rfl (i := 3) rfl ?_
        exact V.zret dX10_isStruck_69 rfl (by first | exact Or.inl rfl | exact Or.inr rfl | assumption | exact b2i_zo _ | (repeat' split) <;> first | exact Or.inl rfl | exact Or.inr rfl | assumption | exact b2i_zo _) (Qi hQ (by unfold b2i strk; rcases hs with hs | hs <;> simp_all <;> (try intro q1 q2) <;> (try (repeat' split)) <;> first | rfl | (simp only [Int32.lt_iff_toInt_lt, Int32.le_iff_toInt_le, ← Int32.toInt_inj, Int32.reduceToInt] at *; omega)))
      by_cases s31_2 : ((M) 84 (108 + 7 * b + 0)) = (2 : Int32)
      · refine V.tabIn (tgt := 70) dX10_isStruck_31 (by rw [s31_2]; decide) (by rw [s31_2]; decide) (by rw [s31_2]; rfl) (by decide) ?_
        refine V.iload_n dX10_isStruck_70 rfl (i := 2) rfl ?_
        refine V.bipush dX10_isStruck_71 (v := 8) (by decide) ?_
        suffices kJ73 : V rS g (d + 1) mX10_isStruck 93 [some (.ref 83), some (.int (nI b)), some (.int h), some (.int (1 : Int32))] [.int (if h = (8 : Int32) then (1 : Int32) else (if h = (12 : Int32) then (1 : Int32) else (if h = (16 : Int32) then (1 : Int32) else (0 : Int32))))] ((M)) Q by
          refine V.ic_eq (tgt := 88) dX10_isStruck_73 (by decide) (fun c73 => ?_) (fun c73 => ?_)
          · refine V.iconst dX10_isStruck_88 (v := 1) (by decide) ?_
            refine V.goto dX10_isStruck_89 (tgt := 93) (by decide) ?_
            rw [if_pos c73] at kJ73; exact kJ73
          · refine V.iload_n dX10_isStruck_76 rfl (i := 2) rfl ?_
            refine V.bipush dX10_isStruck_77 (v := 12) (by decide) ?_
            refine V.ic_eq (tgt := 88) dX10_isStruck_79 (by decide) (fun c79 => ?_) (fun c79 => ?_)
            · refine V.iconst dX10_isStruck_88 (v := 1) (by decide) ?_
              refine V.goto dX10_isStruck_89 (tgt := 93) (by decide) ?_
              rw [if_neg c73, if_pos c79] at kJ73; exact kJ73
            · refine V.iload_n dX10_isStruck_82 rfl (i := 2) rfl ?_
              refine V.bipush dX10_isStruck_83 (v := 16) (by decide) ?_
              refine V.ic_ne (tgt := 92) dX10_isStruck_85 (by decide) (fun c85 => ?_) (fun c85 => ?_)
              · refine V.iconst dX10_isStruck_92 (v := 0) (by decide) ?_
                rw [if_neg c73, if_neg c79, if_neg c85] at kJ73; exact kJ73
              · refine V.iconst dX10_isStruck_88 (v := 1) (by decide) ?_
                refine V.goto dX10_isStruck_89 (tgt := 93) (by decide) ?_
                rw [if_neg c73, if_neg c79, if_pos c85] at kJ73; exact kJ73
        exact V.zret dX10_isStruck_93 rfl (by first | exact Or.inl rfl | exact Or.inr rfl | assumption | exact b2i_zo _ | (repeat' split) <;> first | exact Or.inl rfl | exact Or.inr rfl | assumption | exact b2i_zo _) (Qi hQ (by unfold b2i strk; rcases hs with hs | hs <;> simp_all <;> (try intro q1 q2) <;> (try (repeat' split)) <;> first | rfl | (simp only [Int32.lt_iff_toInt_lt, Int32.le_iff_toInt_le, ← Int32.toInt_inj, Int32.reduceToInt] at *; omega)))
      by_cases s31_3 : ((M) 84 (108 + 7 * b + 0)) = (3 : Int32)
      · refine V.tabIn (tgt := 144) dX10_isStruck_31 (by rw [s31_3]; decide) (by rw [s31_3]; decide) (by rw [s31_3]; rfl) (by decide) ?_
        refine V.iconst dX10_isStruck_144 (v := 1) (by decide) ?_
        exact V.zret dX10_isStruck_145 rfl (by first | exact Or.inl rfl | exact Or.inr rfl | assumption | exact b2i_zo _ | (repeat' split) <;> first | exact Or.inl rfl | exact Or.inr rfl | assumption | exact b2i_zo _) (Qi hQ (by unfold b2i strk; rcases hs with hs | hs <;> simp_all <;> (try intro q1 q2) <;> (try (repeat' split)) <;> first | rfl | (simp only [Int32.lt_iff_toInt_lt, Int32.le_iff_toInt_le, ← Int32.toInt_inj, Int32.reduceToInt] at *; omega)))
      by_cases s31_4 : ((M) 84 (108 + 7 * b + 0)) = (4 : Int32)
      · refine V.tabIn (tgt := 94) dX10_isStruck_31 (by rw [s31_4]; decide) (by rw [s31_4]; decide) (by rw [s31_4]; rfl) (by decide) ?_
        refine V.iload_n dX10_isStruck_94 rfl (i := 3) rfl ?_
        suffices kJ95 : V rS g (d + 1) mX10_isStruck 107 [some (.ref 83), some (.int (nI b)), some (.int h), some (.int (1 : Int32))] [.int (if (1 : Int32) = (0 : Int32) then (if h = (0 : Int32) then (1 : Int32) else (0 : Int32)) else (1 : Int32))] ((M)) Q by
          refine V.if_ne (tgt := 102) dX10_isStruck_95 (by decide) (fun c95 => ?_) (fun c95 => ?_)
          · refine V.iconst dX10_isStruck_102 (v := 1) (by decide) ?_
            refine V.goto dX10_isStruck_103 (tgt := 107) (by decide) ?_
            rw [if_neg c95] at kJ95; exact kJ95
          · refine V.iload_n dX10_isStruck_98 rfl (i := 2) rfl ?_
            refine V.if_ne (tgt := 106) dX10_isStruck_99 (by decide) (fun c99 => ?_) (fun c99 => ?_)
            · refine V.iconst dX10_isStruck_106 (v := 0) (by decide) ?_
              rw [if_pos c95, if_neg c99] at kJ95; exact kJ95
            · refine V.iconst dX10_isStruck_102 (v := 1) (by decide) ?_
              refine V.goto dX10_isStruck_103 (tgt := 107) (by decide) ?_
              rw [if_pos c95, if_pos c99] at kJ95; exact kJ95
        exact V.zret dX10_isStruck_107 rfl (by first | exact Or.inl rfl | exact Or.inr rfl | assumption | exact b2i_zo _ | (repeat' split) <;> first | exact Or.inl rfl | exact Or.inr rfl | assumption | exact b2i_zo _) (Qi hQ (by unfold b2i strk; rcases hs with hs | hs <;> simp_all <;> (try intro q1 q2) <;> (try (repeat' split)) <;> first | rfl | (simp only [Int32.lt_iff_toInt_lt, Int32.le_iff_toInt_le, ← Int32.toInt_inj, Int32.reduceToInt] at *; omega)))
      by_cases s31_5 : ((M) 84 (108 + 7 * b + 0)) = (5 : Int32)
      · refine V.tabIn (tgt := 108) dX10_isStruck_31 (by rw [s31_5]; decide) (by rw [s31_5]; decide) (by rw [s31_5]; rfl) (by decide) ?_
        refine V.iload_n dX10_isStruck_108 rfl (i := 3) rfl ?_
        refine V.if_eq (tgt := 126) dX10_isStruck_109 (by decide) (fun c109 => ?_) (fun c109 => ?_)
        · refine V.iconst dX10_isStruck_126 (v := 0) (by decide) ?_
          exact V.zret dX10_isStruck_127 rfl (by first | exact Or.inl rfl | exact Or.inr rfl | assumption | exact b2i_zo _ | (repeat' split) <;> first | exact Or.inl rfl | exact Or.inr rfl | assumption | exact b2i_zo _) (Qi hQ (by unfold b2i strk; rcases hs with hs | hs <;> simp_all <;> (try intro q1 q2) <;> (try (repeat' split)) <;> first | rfl | (simp only [Int32.lt_iff_toInt_lt, Int32.le_iff_toInt_le, ← Int32.toInt_inj, Int32.reduceToInt] at *; omega)))
        · refine V.iload_n dX10_isStruck_112 rfl (i := 2) rfl ?_
          refine V.aload_n dX10_isStruck_113 rfl (i := 0) rfl ?_
          refine V.iload_n dX10_isStruck_114 rfl (i := 1) rfl ?_
          refine V.iconst dX10_isStruck_115 (v := 1) (by decide) ?_
          refine V.invv (z := mX10_of) (As := [_, _]) dX10_isStruck_116 rfl mlRX10_175 okX10_of npX10_of rfl rfl rfl ⟨by decide, by decide⟩ (Nat.le_of_ble_eq_true rfl) rfl (Nat.le_of_ble_eq_true rfl) (c_of  (by first | assumption | decide | omega) (by first | assumption | decide | omega) ?_)
          show V rS g (d + 1) mX10_isStruck 119 [some (.ref 83), some (.int (nI b)), some (.int h), some (.int (1 : Int32))] [.int (((M)) 84 (108 + 7 * b + 1)), .int h] (((M))) Q
          suffices kJ119 : V rS g (d + 1) mX10_isStruck 127 [some (.ref 83), some (.int (nI b)), some (.int h), some (.int (1 : Int32))] [.int (if h = (((M)) 84 (108 + 7 * b + 1)) then (1 : Int32) else (0 : Int32))] (((M))) Q by
            refine V.ic_ne (tgt := 126) dX10_isStruck_119 (by decide) (fun c119 => ?_) (fun c119 => ?_)
            · refine V.iconst dX10_isStruck_126 (v := 0) (by decide) ?_
              rw [if_neg c119] at kJ119; exact kJ119
            · refine V.iconst dX10_isStruck_122 (v := 1) (by decide) ?_
              refine V.goto dX10_isStruck_123 (tgt := 127) (by decide) ?_
              rw [if_pos c119] at kJ119; exact kJ119
          exact V.zret dX10_isStruck_127 rfl (by first | exact Or.inl rfl | exact Or.inr rfl | assumption | exact b2i_zo _ | (repeat' split) <;> first | exact Or.inl rfl | exact Or.inr rfl | assumption | exact b2i_zo _) (Qi hQ (by unfold b2i strk; rcases hs with hs | hs <;> simp_all <;> (try intro q1 q2) <;> (try (repeat' split)) <;> first | rfl | (simp only [Int32.lt_iff_toInt_lt, Int32.le_iff_toInt_le, ← Int32.toInt_inj, Int32.reduceToInt] at *; omega)))
      by_cases s31_6 : ((M) 84 (108 + 7 * b + 0)) = (6 : Int32)
      · refine V.tabIn (tgt := 128) dX10_isStruck_31 (by rw [s31_6]; decide) (by rw [s31_6]; decide) (by rw [s31_6]; rfl) (by decide) ?_
        refine V.iload_n dX10_isStruck_128 rfl (i := 2) rfl ?_
        refine V.aload_n dX10_isStruck_129 rfl (i := 0) rfl ?_
        refine V.iload_n dX10_isStruck_130 rfl (i := 1) rfl ?_
        refine V.iconst dX10_isStruck_131 (v := 1) (by decide) ?_
        refine V.invv (z := mX10_of) (As := [_, _]) dX10_isStruck_132 rfl mlRX10_175 okX10_of npX10_of rfl rfl rfl ⟨by decide, by decide⟩ (Nat.le_of_ble_eq_true rfl) rfl (Nat.le_of_ble_eq_true rfl) (c_of  (by first | assumption | decide | omega) (by first | assumption | decide | omega) ?_)
        show V rS g (d + 1) mX10_isStruck 135 [some (.ref 83), some (.int (nI b)), some (.int h), some (.int (1 : Int32))] [.int (((M)) 84 (108 + 7 * b + 1)), .int h] (((M))) Q
        suffices kJ135 : V rS g (d + 1) mX10_isStruck 143 [some (.ref 83), some (.int (nI b)), some (.int h), some (.int (1 : Int32))] [.int (if h = (((M)) 84 (108 + 7 * b + 1)) then (0 : Int32) else (1 : Int32))] (((M))) Q by
          refine V.ic_eq (tgt := 142) dX10_isStruck_135 (by decide) (fun c135 => ?_) (fun c135 => ?_)
          · refine V.iconst dX10_isStruck_142 (v := 0) (by decide) ?_
            rw [if_pos c135] at kJ135; exact kJ135
          · refine V.iconst dX10_isStruck_138 (v := 1) (by decide) ?_
            refine V.goto dX10_isStruck_139 (tgt := 143) (by decide) ?_
            rw [if_neg c135] at kJ135; exact kJ135
        exact V.zret dX10_isStruck_143 rfl (by first | exact Or.inl rfl | exact Or.inr rfl | assumption | exact b2i_zo _ | (repeat' split) <;> first | exact Or.inl rfl | exact Or.inr rfl | assumption | exact b2i_zo _) (Qi hQ (by unfold b2i strk; rcases hs with hs | hs <;> simp_all <;> (try intro q1 q2) <;> (try (repeat' split)) <;> first | rfl | (simp only [Int32.lt_iff_toInt_lt, Int32.le_iff_toInt_le, ← Int32.toInt_inj, Int32.reduceToInt] at *; omega)))
      · refine V.tabOut (tgt := 144) dX10_isStruck_31 (by have z0 := lv_neT (a := 1) s31_1 (by decide); have z1 := lv_neT (a := 2) s31_2 (by decide); have z2 := lv_neT (a := 3) s31_3 (by decide); have z3 := lv_neT (a := 4) s31_4 (by decide); have z4 := lv_neT (a := 5) s31_5 (by decide); have z5 := lv_neT (a := 6) s31_6 (by decide); omega) (by decide) ?_
        refine V.iconst dX10_isStruck_144 (v := 1) (by decide) ?_
        exact V.zret dX10_isStruck_145 rfl (by first | exact Or.inl rfl | exact Or.inr rfl | assumption | exact b2i_zo _ | (repeat' split) <;> first | exact Or.inl rfl | exact Or.inr rfl | assumption | exact b2i_zo _) (Qi hQ (by unfold b2i strk; rcases hs with hs | hs <;> simp_all <;> (try intro q1 q2) <;> (try (repeat' split)) <;> first | rfl | (simp only [Int32.lt_iff_toInt_lt, Int32.le_iff_toInt_le, ← Int32.toInt_inj, Int32.reduceToInt] at *; omega)))
    · refine V.iconst dX10_isStruck_23 (v := 0) (by decide) ?_
      exact V.zret dX10_isStruck_24 rfl (by first | exact Or.inl rfl | exact Or.inr rfl | assumption | exact b2i_zo _ | (repeat' split) <;> first | exact Or.inl rfl | exact Or.inr rfl | assumption | exact b2i_zo _) (Qi hQ (by unfold b2i strk; rcases hs with hs | hs <;> simp_all <;> (try intro q1 q2) <;> (try (repeat' split)) <;> first | rfl | (simp only [Int32.lt_iff_toInt_lt, Int32.le_iff_toInt_le, ← Int32.toInt_inj, Int32.reduceToInt] at *; omega)))
  · skip
    refine V.iload_n dX10_isStruck_0 rfl (i := 2) rfl ?_
    refine V.i2l dX10_isStruck_1 ?_
    refine V.ldc2 dX10_isStruck_2 rfl clRX10_173 ?_
    refine V.ldc2 dX10_isStruck_5 rfl clRX10_189 ?_
    refine V.invs (z := mX10_in) (As := [_, _, _]) dX10_isStruck_8 rfl mlRX10_66 okX10_in npX10_in rfl (Nat.le_of_ble_eq_true rfl) rfl (Nat.le_of_ble_eq_true rfl) (c_in32 (v := h) (lo := (6 : Int32)) (hi := (22 : Int32)) (by first | rfl | decide) (by first | rfl | decide)   ?_)
    show V rS g (d + 1) mX10_isStruck 11 [some (.ref 83), some (.int (nI b)), some (.int h), none] [.int (b2i ((6 : Int32) ≤ h ∧ h ≤ (22 : Int32)))] M Q
    refine V.top (x' := (0 : Int32)) ((b2i_f hd)) ?_
    refine V.istore_n dX10_isStruck_11 rfl (i := 3) (by decide) (fun _ h => by cases h; exact Or.inl rfl) rfl ?_
    refine V.aload_n dX10_isStruck_12 rfl (i := 0) rfl ?_
    refine V.iload_n dX10_isStruck_13 rfl (i := 1) rfl ?_
    refine V.bipush dX10_isStruck_14 (v := 6) (by decide) ?_
    refine V.invv (z := mX10_of) (As := [_, _]) dX10_isStruck_16 rfl mlRX10_175 okX10_of npX10_of rfl rfl rfl ⟨by decide, by decide⟩ (Nat.le_of_ble_eq_true rfl) rfl (Nat.le_of_ble_eq_true rfl) (c_of  (by first | assumption | decide | omega) (by first | assumption | decide | omega) ?_)
    show V rS g (d + 1) mX10_isStruck 19 [some (.ref 83), some (.int (nI b)), some (.int h), some (.int (0 : Int32))] [.int (M 84 (108 + 7 * b + 6))] (M) Q
    refine V.iconst dX10_isStruck_19 (v := 1) (by decide) ?_
    refine V.ic_ne (tgt := 25) dX10_isStruck_20 (by decide) (fun c20 => ?_) (fun c20 => ?_)
    · refine V.aload_n dX10_isStruck_25 rfl (i := 0) rfl ?_
      refine V.iload_n dX10_isStruck_26 rfl (i := 1) rfl ?_
      refine V.iconst dX10_isStruck_27 (v := 0) (by decide) ?_
      refine V.invv (z := mX10_of) (As := [_, _]) dX10_isStruck_28 rfl mlRX10_175 okX10_of npX10_of rfl rfl rfl ⟨by decide, by decide⟩ (Nat.le_of_ble_eq_true rfl) rfl (Nat.le_of_ble_eq_true rfl) (c_of  (by first | assumption | decide | omega) (by first | assumption | decide | omega) ?_)
      show V rS g (d + 1) mX10_isStruck 31 [some (.ref 83), some (.int (nI b)), some (.int h), some (.int (0 : Int32))] [.int ((M) 84 (108 + 7 * b + 0))] ((M)) Q
      by_cases s31_1 : ((M) 84 (108 + 7 * b + 0)) = (1 : Int32)
      · refine V.tabIn (tgt := 68) dX10_isStruck_31 (by rw [s31_1]; decide) (by rw [s31_1]; decide) (by rw [s31_1]; rfl) (by decide) ?_
        refine V.iload_n dX10_isStruck_68 rfl (i := 3) rfl ?_
        exact V.zret dX10_isStruck_69 rfl (by first | exact Or.inl rfl | exact Or.inr rfl | assumption | exact b2i_zo _ | (repeat' split) <;> first | exact Or.inl rfl | exact Or.inr rfl | assumption | exact b2i_zo _) (Qi hQ (by unfold b2i strk; rcases hs with hs | hs <;> simp_all <;> (try intro q1 q2) <;> (try (repeat' split)) <;> first | rfl | (simp only [Int32.lt_iff_toInt_lt, Int32.le_iff_toInt_le, ← Int32.toInt_inj, Int32.reduceToInt] at *; omega)))
      by_cases s31_2 : ((M) 84 (108 + 7 * b + 0)) = (2 : Int32)
      · refine V.tabIn (tgt := 70) dX10_isStruck_31 (by rw [s31_2]; decide) (by rw [s31_2]; decide) (by rw [s31_2]; rfl) (by decide) ?_
        refine V.iload_n dX10_isStruck_70 rfl (i := 2) rfl ?_
        refine V.bipush dX10_isStruck_71 (v := 8) (by decide) ?_
        suffices kJ73 : V rS g (d + 1) mX10_isStruck 93 [some (.ref 83), some (.int (nI b)), some (.int h), some (.int (0 : Int32))] [.int (if h = (8 : Int32) then (1 : Int32) else (if h = (12 : Int32) then (1 : Int32) else (if h = (16 : Int32) then (1 : Int32) else (0 : Int32))))] ((M)) Q by
          refine V.ic_eq (tgt := 88) dX10_isStruck_73 (by decide) (fun c73 => ?_) (fun c73 => ?_)
          · refine V.iconst dX10_isStruck_88 (v := 1) (by decide) ?_
            refine V.goto dX10_isStruck_89 (tgt := 93) (by decide) ?_
            rw [if_pos c73] at kJ73; exact kJ73
          · refine V.iload_n dX10_isStruck_76 rfl (i := 2) rfl ?_
            refine V.bipush dX10_isStruck_77 (v := 12) (by decide) ?_
            refine V.ic_eq (tgt := 88) dX10_isStruck_79 (by decide) (fun c79 => ?_) (fun c79 => ?_)
            · refine V.iconst dX10_isStruck_88 (v := 1) (by decide) ?_
              refine V.goto dX10_isStruck_89 (tgt := 93) (by decide) ?_
              rw [if_neg c73, if_pos c79] at kJ73; exact kJ73
            · refine V.iload_n dX10_isStruck_82 rfl (i := 2) rfl ?_
              refine V.bipush dX10_isStruck_83 (v := 16) (by decide) ?_
              refine V.ic_ne (tgt := 92) dX10_isStruck_85 (by decide) (fun c85 => ?_) (fun c85 => ?_)
              · refine V.iconst dX10_isStruck_92 (v := 0) (by decide) ?_
                rw [if_neg c73, if_neg c79, if_neg c85] at kJ73; exact kJ73
              · refine V.iconst dX10_isStruck_88 (v := 1) (by decide) ?_
                refine V.goto dX10_isStruck_89 (tgt := 93) (by decide) ?_
                rw [if_neg c73, if_neg c79, if_pos c85] at kJ73; exact kJ73
        exact V.zret dX10_isStruck_93 rfl (by first | exact Or.inl rfl | exact Or.inr rfl | assumption | exact b2i_zo _ | (repeat' split) <;> first | exact Or.inl rfl | exact Or.inr rfl | assumption | exact b2i_zo _) (Qi hQ (by unfold b2i strk; rcases hs with hs | hs <;> simp_all <;> (try intro q1 q2) <;> (try (repeat' split)) <;> first | rfl | (simp only [Int32.lt_iff_toInt_lt, Int32.le_iff_toInt_le, ← Int32.toInt_inj, Int32.reduceToInt] at *; omega)))
      by_cases s31_3 : ((M) 84 (108 + 7 * b + 0)) = (3 : Int32)
      · refine V.tabIn (tgt := 144) dX10_isStruck_31 (by rw [s31_3]; decide) (by rw [s31_3]; decide) (by rw [s31_3]; rfl) (by decide) ?_
        refine V.iconst dX10_isStruck_144 (v := 1) (by decide) ?_
        exact V.zret dX10_isStruck_145 rfl (by first | exact Or.inl rfl | exact Or.inr rfl | assumption | exact b2i_zo _ | (repeat' split) <;> first | exact Or.inl rfl | exact Or.inr rfl | assumption | exact b2i_zo _) (Qi hQ (by unfold b2i strk; rcases hs with hs | hs <;> simp_all <;> (try intro q1 q2) <;> (try (repeat' split)) <;> first | rfl | (simp only [Int32.lt_iff_toInt_lt, Int32.le_iff_toInt_le, ← Int32.toInt_inj, Int32.reduceToInt] at *; omega)))
      by_cases s31_4 : ((M) 84 (108 + 7 * b + 0)) = (4 : Int32)
      · refine V.tabIn (tgt := 94) dX10_isStruck_31 (by rw [s31_4]; decide) (by rw [s31_4]; decide) (by rw [s31_4]; rfl) (by decide) ?_
        refine V.iload_n dX10_isStruck_94 rfl (i := 3) rfl ?_
        suffices kJ95 : V rS g (d + 1) mX10_isStruck 107 [some (.ref 83), some (.int (nI b)), some (.int h), some (.int (0 : Int32))] [.int (if (0 : Int32) = (0 : Int32) then (if h = (0 : Int32) then (1 : Int32) else (0 : Int32)) else (1 : Int32))] ((M)) Q by
          refine V.if_ne (tgt := 102) dX10_isStruck_95 (by decide) (fun c95 => ?_) (fun c95 => ?_)
          · refine V.iconst dX10_isStruck_102 (v := 1) (by decide) ?_
            refine V.goto dX10_isStruck_103 (tgt := 107) (by decide) ?_
            rw [if_neg c95] at kJ95; exact kJ95
          · refine V.iload_n dX10_isStruck_98 rfl (i := 2) rfl ?_
            refine V.if_ne (tgt := 106) dX10_isStruck_99 (by decide) (fun c99 => ?_) (fun c99 => ?_)
            · refine V.iconst dX10_isStruck_106 (v := 0) (by decide) ?_
              rw [if_pos c95, if_neg c99] at kJ95; exact kJ95
            · refine V.iconst dX10_isStruck_102 (v := 1) (by decide) ?_
              refine V.goto dX10_isStruck_103 (tgt := 107) (by decide) ?_
              rw [if_pos c95, if_pos c99] at kJ95; exact kJ95
        exact V.zret dX10_isStruck_107 rfl (by first | exact Or.inl rfl | exact Or.inr rfl | assumption | exact b2i_zo _ | (repeat' split) <;> first | exact Or.inl rfl | exact Or.inr rfl | assumption | exact b2i_zo _) (Qi hQ (by unfold b2i strk; rcases hs with hs | hs <;> simp_all <;> (try intro q1 q2) <;> (try (repeat' split)) <;> first | rfl | (simp only [Int32.lt_iff_toInt_lt, Int32.le_iff_toInt_le, ← Int32.toInt_inj, Int32.reduceToInt] at *; omega)))
      by_cases s31_5 : ((M) 84 (108 + 7 * b + 0)) = (5 : Int32)
      · refine V.tabIn (tgt := 108) dX10_isStruck_31 (by rw [s31_5]; decide) (by rw [s31_5]; decide) (by rw [s31_5]; rfl) (by decide) ?_
        refine V.iload_n dX10_isStruck_108 rfl (i := 3) rfl ?_
        refine V.if_eq (tgt := 126) dX10_isStruck_109 (by decide) (fun c109 => ?_) (fun c109 => ?_)
        · refine V.iconst dX10_isStruck_126 (v := 0) (by decide) ?_
          exact V.zret dX10_isStruck_127 rfl (by first | exact Or.inl rfl | exact Or.inr rfl | assumption | exact b2i_zo _ | (repeat' split) <;> first | exact Or.inl rfl | exact Or.inr rfl | assumption | exact b2i_zo _) (Qi hQ (by unfold b2i strk; rcases hs with hs | hs <;> simp_all <;> (try intro q1 q2) <;> (try (repeat' split)) <;> first | rfl | (simp only [Int32.lt_iff_toInt_lt, Int32.le_iff_toInt_le, ← Int32.toInt_inj, Int32.reduceToInt] at *; omega)))
        · refine V.iload_n dX10_isStruck_112 rfl (i := 2) rfl ?_
          refine V.aload_n dX10_isStruck_113 rfl (i := 0) rfl ?_
          refine V.iload_n dX10_isStruck_114 rfl (i := 1) rfl ?_
          refine V.iconst dX10_isStruck_115 (v := 1) (by decide) ?_
          refine V.invv (z := mX10_of) (As := [_, _]) dX10_isStruck_116 rfl mlRX10_175 okX10_of npX10_of rfl rfl rfl ⟨by decide, by decide⟩ (Nat.le_of_ble_eq_true rfl) rfl (Nat.le_of_ble_eq_true rfl) (c_of  (by first | assumption | decide | omega) (by first | assumption | decide | omega) ?_)
          show V rS g (d + 1) mX10_isStruck 119 [some (.ref 83), some (.int (nI b)), some (.int h), some (.int (0 : Int32))] [.int (((M)) 84 (108 + 7 * b + 1)), .int h] (((M))) Q
          suffices kJ119 : V rS g (d + 1) mX10_isStruck 127 [some (.ref 83), some (.int (nI b)), some (.int h), some (.int (0 : Int32))] [.int (if h = (((M)) 84 (108 + 7 * b + 1)) then (1 : Int32) else (0 : Int32))] (((M))) Q by
            refine V.ic_ne (tgt := 126) dX10_isStruck_119 (by decide) (fun c119 => ?_) (fun c119 => ?_)
            · refine V.iconst dX10_isStruck_126 (v := 0) (by decide) ?_
              rw [if_neg c119] at kJ119; exact kJ119
            · refine V.iconst dX10_isStruck_122 (v := 1) (by decide) ?_
              refine V.goto dX10_isStruck_123 (tgt := 127) (by decide) ?_
              rw [if_pos c119] at kJ119; exact kJ119
          exact V.zret dX10_isStruck_127 rfl (by first | exact Or.inl rfl | exact Or.inr rfl | assumption | exact b2i_zo _ | (repeat' split) <;> first | exact Or.inl rfl | exact Or.inr rfl | assumption | exact b2i_zo _) (Qi hQ (by unfold b2i strk; rcases hs with hs | hs <;> simp_all <;> (try intro q1 q2) <;> (try (repeat' split)) <;> first | rfl | (simp only [Int32.lt_iff_toInt_lt, Int32.le_iff_toInt_le, ← Int32.toInt_inj, Int32.reduceToInt] at *; omega)))
      by_cases s31_6 : ((M) 84 (108 + 7 * b + 0)) = (6 : Int32)
      · refine V.tabIn (tgt := 128) dX10_isStruck_31 (by rw [s31_6]; decide) (by rw [s31_6]; decide) (by rw [s31_6]; rfl) (by decide) ?_
        refine V.iload_n dX10_isStruck_128 rfl (i := 2) rfl ?_
        refine V.aload_n dX10_isStruck_129 rfl (i := 0) rfl ?_
        refine V.iload_n dX10_isStruck_130 rfl (i := 1) rfl ?_
        refine V.iconst dX10_isStruck_131 (v := 1) (by decide) ?_
        refine V.invv (z := mX10_of) (As := [_, _]) dX10_isStruck_132 rfl mlRX10_175 okX10_of npX10_of rfl rfl rfl ⟨by decide, by decide⟩ (Nat.le_of_ble_eq_true rfl) rfl (Nat.le_of_ble_eq_true rfl) (c_of  (by first | assumption | decide | omega) (by first | assumption | decide | omega) ?_)
        show V rS g (d + 1) mX10_isStruck 135 [some (.ref 83), some (.int (nI b)), some (.int h), some (.int (0 : Int32))] [.int (((M)) 84 (108 + 7 * b + 1)), .int h] (((M))) Q
        suffices kJ135 : V rS g (d + 1) mX10_isStruck 143 [some (.ref 83), some (.int (nI b)), some (.int h), some (.int (0 : Int32))] [.int (if h = (((M)) 84 (108 + 7 * b + 1)) then (0 : Int32) else (1 : Int32))] (((M))) Q by
          refine V.ic_eq (tgt := 142) dX10_isStruck_135 (by decide) (fun c135 => ?_) (fun c135 => ?_)
          · refine V.iconst dX10_isStruck_142 (v := 0) (by decide) ?_
            rw [if_pos c135] at kJ135; exact kJ135
          · refine V.iconst dX10_isStruck_138 (v := 1) (by decide) ?_
            refine V.goto dX10_isStruck_139 (tgt := 143) (by decide) ?_
            rw [if_neg c135] at kJ135; exact kJ135
        exact V.zret dX10_isStruck_143 rfl (by first | exact Or.inl rfl | exact Or.inr rfl | assumption | exact b2i_zo _ | (repeat' split) <;> first | exact Or.inl rfl | exact Or.inr rfl | assumption | exact b2i_zo _) (Qi hQ (by unfold b2i strk; rcases hs with hs | hs <;> simp_all <;> (try intro q1 q2) <;> (try (repeat' split)) <;> first | rfl | (simp only [Int32.lt_iff_toInt_lt, Int32.le_iff_toInt_le, ← Int32.toInt_inj, Int32.reduceToInt] at *; omega)))
      · refine V.tabOut (tgt := 144) dX10_isStruck_31 (by have z0 := lv_neT (a := 1) s31_1 (by decide); have z1 := lv_neT (a := 2) s31_2 (by decide); have z2 := lv_neT (a := 3) s31_3 (by decide); have z3 := lv_neT (a := 4) s31_4 (by decide); have z4 := lv_neT (a := 5) s31_5 (by decide); have z5 := lv_neT (a := 6) s31_6 (by decide); omega) (by decide) ?_
        refine V.iconst dX10_isStruck_144 (v := 1) (by decide) ?_
        exact V.zret dX10_isStruck_145 rfl (by first | exact Or.inl rfl | exact Or.inr rfl | assumption | exact b2i_zo _ | (repeat' split) <;> first | exact Or.inl rfl | exact Or.inr rfl | assumption | exact b2i_zo _) (Qi hQ (by unfold b2i strk; rcases hs with hs | hs <;> simp_all <;> (try intro q1 q2) <;> (try (repeat' split)) <;> first | rfl | (simp only [Int32.lt_iff_toInt_lt, Int32.le_iff_toInt_le, ← Int32.toInt_inj, Int32.reduceToInt] at *; omega)))
    · refine V.iconst dX10_isStruck_23 (v := 0) (by decide) ?_
      exact V.zret dX10_isStruck_24 rfl (by first | exact Or.inl rfl | exact Or.inr rfl | assumption | exact b2i_zo _ | (repeat' split) <;> first | exact Or.inl rfl | exact Or.inr rfl | assumption | exact b2i_zo _) (Qi hQ (by unfold b2i strk; rcases hs with hs | hs <;> simp_all <;> (try intro q1 q2) <;> (try (repeat' split)) <;> first | rfl | (simp only [Int32.lt_iff_toInt_lt, Int32.le_iff_toInt_le, ← Int32.toInt_inj, Int32.reduceToInt] at *; omega)))
set_option maxHeartbeats 4000000 in
set_option maxRecDepth 100000 in
theorem c_farOf {g : GG} {d : Nat} {M : Mem} {Q : Option Value → Mem → Prop} {b e : Nat} (hb : b ≤ 8) (he : e < 10) (hQ : Q (some (.int (farF (M 84 (108 + 7 * b + 2)) (M 84 (171 + e))))) (M)) : V rS g (d + 1) mX10_farOf 0 [some (.ref 83), some (.int (nI b)), some (.int (nI e))] [] M Q := by
  refine V.aload_n dX10_farOf_0 rfl (i := 0) rfl ?_
  refine V.iload_n dX10_farOf_1 rfl (i := 1) rfl ?_
  refine V.iconst dX10_farOf_2 (v := 2) (by decide) ?_
  refine V.invv (z := mX10_of) (As := [_, _]) dX10_farOf_3 rfl mlRX10_175 okX10_of npX10_of rfl rfl rfl ⟨by decide, by decide⟩ (Nat.le_of_ble_eq_true rfl) rfl (Nat.le_of_ble_eq_true rfl) (c_of  (by first | assumption | decide | omega) (by first | assumption | decide | omega) ?_)
  show V rS g (d + 1) mX10_farOf 6 [some (.ref 83), some (.int (nI b)), some (.int (nI e))] [.int (M 84 (108 + 7 * b + 2))] (M) Q
  refine V.aload_n dX10_farOf_6 rfl (i := 0) rfl ?_
  refine V.getR dX10_farOf_7 rfl flRX10_7 rfl ⟨by decide, by decide⟩ ?_
  refine V.sipush dX10_farOf_10 (v := 171) (by decide) ?_
  refine V.iload_n dX10_farOf_13 rfl (i := 2) rfl ?_
  refine V.iadd dX10_farOf_14 ?_
  refine V.top (x' := (nI (171 + e))) (nI_add 171 e) ?_
  refine V.ialdN dX10_farOf_15 rfl ⟨by decide, by decide⟩ (by first | assumption | decide | omega) (by decide) ?_
  refine V.isub dX10_farOf_16 ?_
  refine V.invs (z := mX10_size) (As := [_]) dX10_farOf_17 rfl mlRX10_200 okX10_size npX10_size rfl (Nat.le_of_ble_eq_true rfl) rfl (Nat.le_of_ble_eq_true rfl) (c_sizeR   ?_)
  show V rS g (d + 1) mX10_farOf 20 [some (.ref 83), some (.int (nI b)), some (.int (nI e))] [.int (absI ((M 84 (108 + 7 * b + 2)) - ((M) 84 (171 + e))))] ((M)) Q
  exact V.ret dX10_farOf_20 rfl (hQ)
set_option maxHeartbeats 4000000 in
set_option maxRecDepth 100000 in
theorem c_windOf {g : GG} {d : Nat} {M : Mem} {Q : Option Value → Mem → Prop} {b e : Nat} (hb : b ≤ 8) (he : e < 10) (hQ : Q (some (.int (windS (M 84 (108 + 7 * b + 2)) (M 84 (171 + e)) (M 84 100)))) (M)) : V rS g (d + 1) mX10_windOf 0 [some (.ref 83), some (.int (nI b)), some (.int (nI e))] [] M Q := by
  refine V.aload_n dX10_windOf_0 rfl (i := 0) rfl ?_
  refine V.getR dX10_windOf_1 rfl flRX10_7 rfl ⟨by decide, by decide⟩ ?_
  refine V.sipush dX10_windOf_4 (v := 171) (by decide) ?_
  refine V.iload_n dX10_windOf_7 rfl (i := 2) rfl ?_
  refine V.iadd dX10_windOf_8 ?_
  refine V.top (x' := (nI (171 + e))) (nI_add 171 e) ?_
  refine V.ialdN dX10_windOf_9 rfl ⟨by decide, by decide⟩ (by first | assumption | decide | omega) (by decide) ?_
  refine V.aload_n dX10_windOf_10 rfl (i := 0) rfl ?_
  refine V.iload_n dX10_windOf_11 rfl (i := 1) rfl ?_
  refine V.iconst dX10_windOf_12 (v := 2) (by decide) ?_
  refine V.invv (z := mX10_of) (As := [_, _]) dX10_windOf_13 rfl mlRX10_175 okX10_of npX10_of rfl rfl rfl ⟨by decide, by decide⟩ (Nat.le_of_ble_eq_true rfl) rfl (Nat.le_of_ble_eq_true rfl) (c_of  (by first | assumption | decide | omega) (by first | assumption | decide | omega) ?_)
  show V rS g (d + 1) mX10_windOf 16 [some (.ref 83), some (.int (nI b)), some (.int (nI e))] [.int (M 84 (108 + 7 * b + 2)), .int (M 84 (171 + e))] (M) Q
  refine V.ic_le (tgt := 29) dX10_windOf_16 (by decide) (fun c16 => ?_) (fun c16 => ?_)
  · refine V.aload_n dX10_windOf_29 rfl (i := 0) rfl ?_
    refine V.getR dX10_windOf_30 rfl flRX10_7 rfl ⟨by decide, by decide⟩ ?_
    refine V.sipush dX10_windOf_33 (v := 171) (by decide) ?_
    refine V.iload_n dX10_windOf_36 rfl (i := 2) rfl ?_
    refine V.iadd dX10_windOf_37 ?_
    refine V.top (x' := (nI (171 + e))) (nI_add 171 e) ?_
    refine V.ialdN dX10_windOf_38 rfl ⟨by decide, by decide⟩ (by first | assumption | decide | omega) (by decide) ?_
    refine V.aload_n dX10_windOf_39 rfl (i := 0) rfl ?_
    refine V.iload_n dX10_windOf_40 rfl (i := 1) rfl ?_
    refine V.iconst dX10_windOf_41 (v := 2) (by decide) ?_
    refine V.invv (z := mX10_of) (As := [_, _]) dX10_windOf_42 rfl mlRX10_175 okX10_of npX10_of rfl rfl rfl ⟨by decide, by decide⟩ (Nat.le_of_ble_eq_true rfl) rfl (Nat.le_of_ble_eq_true rfl) (c_of  (by first | assumption | decide | omega) (by first | assumption | decide | omega) ?_)
    show V rS g (d + 1) mX10_windOf 45 [some (.ref 83), some (.int (nI b)), some (.int (nI e))] [.int ((M) 84 (108 + 7 * b + 2)), .int ((M) 84 (171 + e))] ((M)) Q
    refine V.ic_ge (tgt := 59) dX10_windOf_45 (by decide) (fun c45 => ?_) (fun c45 => ?_)
    · refine V.iconst dX10_windOf_59 (v := 0) (by decide) ?_
      exact V.ret dX10_windOf_60 rfl (Qi hQ (by unfold windS; (repeat' split) <;> (try simp_all [Int32.not_le, Int32.not_lt]) <;> (try (simp only [Int32.lt_iff_toInt_lt, Int32.le_iff_toInt_le, ← Int32.toInt_inj, Int32.reduceToInt] at *; omega))))
    · refine V.aload_n dX10_windOf_48 rfl (i := 0) rfl ?_
      refine V.getR dX10_windOf_49 rfl flRX10_7 rfl ⟨by decide, by decide⟩ ?_
      refine V.bipush dX10_windOf_52 (v := 100) (by decide) ?_
      refine V.top (x' := nI 100) (by decide) ?_
      refine V.ialdN dX10_windOf_54 rfl ⟨by decide, by decide⟩ (by first | assumption | decide | omega) (by decide) ?_
      refine V.ineg dX10_windOf_55 ?_
      refine V.goto dX10_windOf_56 (tgt := 60) (by decide) ?_
      exact V.ret dX10_windOf_60 rfl (Qi hQ (by unfold windS; (repeat' split) <;> (try simp_all [Int32.not_le, Int32.not_lt]) <;> (try (simp only [Int32.lt_iff_toInt_lt, Int32.le_iff_toInt_le, ← Int32.toInt_inj, Int32.reduceToInt] at *; omega))))
  · refine V.aload_n dX10_windOf_19 rfl (i := 0) rfl ?_
    refine V.getR dX10_windOf_20 rfl flRX10_7 rfl ⟨by decide, by decide⟩ ?_
    refine V.bipush dX10_windOf_23 (v := 100) (by decide) ?_
    refine V.top (x' := nI 100) (by decide) ?_
    refine V.ialdN dX10_windOf_25 rfl ⟨by decide, by decide⟩ (by first | assumption | decide | omega) (by decide) ?_
    refine V.goto dX10_windOf_26 (tgt := 60) (by decide) ?_
    exact V.ret dX10_windOf_60 rfl (Qi hQ (by unfold windS; (repeat' split) <;> (try simp_all [Int32.not_le, Int32.not_lt]) <;> (try (simp only [Int32.lt_iff_toInt_lt, Int32.le_iff_toInt_le, ← Int32.toInt_inj, Int32.reduceToInt] at *; omega))))
/-- hills up to a spot -/
def hbR (M : Mem) (i : Nat) : Int32 := sI (fun j => M 84 j) i
theorem i32_sa (x a y : Int32) : x - a + y = x + y - a := by
  rw [Int32.sub_eq_add_neg, Int32.sub_eq_add_neg, Int32.add_assoc, Int32.add_comm (-a) y, ← Int32.add_assoc]

set_option maxHeartbeats 4000000 in
set_option maxRecDepth 100000 in
theorem l_hid {g : GG} {d : Nat} {M : Mem} {Q : Option Value → Mem → Prop} {b e : Nat} {f t : Nat} (hf : f < 100) (ht : t < 100) (hQ : Q (some (.int (hbR M (max (min f t + 1) (max f t)) - hbR M (min f t + 1)))) M) : ∀ (k s : Nat), s + k = max (min f t + 1) (max f t) → min f t + 1 ≤ s → V rS g d mX10_hidOf 38 [some (.ref 83), some (.int (nI b)), some (.int (nI e)), some (.int (nI f)), some (.int (nI t)), some (.int (hbR M s - hbR M (min f t + 1))), some (.int (nI s))] [] M Q := by
  intro k
  induction k with
  | zero =>
    intro s hk hs0
    obtain rfl : s = max (min f t + 1) (max f t) := by omega
    refine V.iload dX10_hidOf_38 rfl ?_
    refine V.iload_n dX10_hidOf_40 rfl (i := 3) rfl ?_
    refine V.ic_lt (tgt := 51) dX10_hidOf_41 (by decide) (fun q => absurd q ((nI_nlt (by omega) (by omega)))) (fun c41 => ?_)
    refine V.iload dX10_hidOf_44 rfl ?_
    refine V.iload dX10_hidOf_46 rfl ?_
    refine V.ic_ge (tgt := 71) dX10_hidOf_48 (by decide) (fun c48 => ?_) (fun q => absurd ((nI_le (a := t) (b := max (min f t + 1) (max f t)) (by omega) (by omega))) q)
    refine V.iload dX10_hidOf_71 rfl ?_
    exact V.ret dX10_hidOf_73 rfl (hQ)
  | succ k ih =>
    intro s hk hs0
    have hs : s < max f t := by omega
    have hs100 : s < 360 := by omega
    have e1 : hbR M s - hbR M (min f t + 1) + M 84 s = hbR M (s + 1) - hbR M (min f t + 1) := i32_sa _ _ _
    refine V.iload dX10_hidOf_38 rfl ?_
    refine V.iload_n dX10_hidOf_40 rfl (i := 3) rfl ?_
    refine V.ic_lt (tgt := 51) dX10_hidOf_41 (by decide) (fun c41 => ?_) (fun c41 => ?_)
    · refine V.iload dX10_hidOf_51 rfl ?_
      refine V.aload_n dX10_hidOf_53 rfl (i := 0) rfl ?_
      refine V.getR dX10_hidOf_54 rfl flRX10_7 rfl ⟨by decide, by decide⟩ ?_
      refine V.iconst dX10_hidOf_57 (v := 0) (by decide) ?_
      refine V.iload dX10_hidOf_58 rfl ?_
      refine V.iadd dX10_hidOf_60 ?_
      refine V.top (x' := (nI (0 + s))) (nI_add 0 s) ?_
      refine V.top (x' := (nI s)) ((by rw [Nat.zero_add])) ?_
      refine V.ialdN dX10_hidOf_61 rfl ⟨by decide, by decide⟩ (by first | assumption | decide | omega) (by decide) ?_
      refine V.iadd dX10_hidOf_62 ?_
      refine V.top (x' := (hbR M (s + 1) - hbR M (min f t + 1))) (e1) ?_
      refine V.istore dX10_hidOf_63 (i := 5) (by decide) (fun _ h => by cases h; exact Or.inl rfl) rfl ?_
      refine V.iinc dX10_hidOf_65 rfl (v := (nI (s + 1))) (nI_1 _) (by decide) (fun _ h => by cases h; exact Or.inl rfl) rfl ?_
      refine V.goto dX10_hidOf_68 (tgt := 38) (by decide) ?_
      exact ih (s + 1) (by omega) (by omega)
    · refine V.iload dX10_hidOf_44 rfl ?_
      refine V.iload dX10_hidOf_46 rfl ?_
      refine V.ic_ge (tgt := 71) dX10_hidOf_48 (by decide) (fun c48 => ?_) (fun c48 => ?_)
      · refine V.iload dX10_hidOf_71 rfl ?_
        exact V.ret dX10_hidOf_73 rfl (absurd (Int32.not_lt.mp (fun z => c41 z)) (fun z1 => by have h1 := (nI_leI (a := f) (b := s) (by omega) (by omega)).mp z1; have h2 := (nI_leI (a := t) (b := s) (by omega) (by omega)).mp c48; omega))
      · refine V.iload dX10_hidOf_51 rfl ?_
        refine V.aload_n dX10_hidOf_53 rfl (i := 0) rfl ?_
        refine V.getR dX10_hidOf_54 rfl flRX10_7 rfl ⟨by decide, by decide⟩ ?_
        refine V.iconst dX10_hidOf_57 (v := 0) (by decide) ?_
        refine V.iload dX10_hidOf_58 rfl ?_
        refine V.iadd dX10_hidOf_60 ?_
        refine V.top (x' := (nI (0 + s))) (nI_add 0 s) ?_
        refine V.top (x' := (nI s)) ((by rw [Nat.zero_add])) ?_
        refine V.ialdN dX10_hidOf_61 rfl ⟨by decide, by decide⟩ (by first | assumption | decide | omega) (by decide) ?_
        refine V.iadd dX10_hidOf_62 ?_
        refine V.top (x' := (hbR M (s + 1) - hbR M (min f t + 1))) (e1) ?_
        refine V.istore dX10_hidOf_63 (i := 5) (by decide) (fun _ h => by cases h; exact Or.inl rfl) rfl ?_
        refine V.iinc dX10_hidOf_65 rfl (v := (nI (s + 1))) (nI_1 _) (by decide) (fun _ h => by cases h; exact Or.inl rfl) rfl ?_
        refine V.goto dX10_hidOf_68 (tgt := 38) (by decide) ?_
        exact ih (s + 1) (by omega) (by omega)
theorem hid_eq {M : Mem} {f t : Nat} : hbR M (max (min f t + 1) (max f t)) - hbR M (min f t + 1) = hidF (hbR M) f t := by
  unfold hidF
  by_cases h : f < t
  · rw [if_pos h, show min f t = f by omega, show max f t = t by omega]
    by_cases h2 : f + 1 < t
    · rw [if_pos h2, show max (f + 1) t = t by omega]
    · rw [if_neg h2, show max (f + 1) t = f + 1 by omega, Int32.sub_self]
  · rw [if_neg h, show min f t = t by omega, show max f t = f by omega]
    by_cases h2 : t + 1 < f
    · rw [if_pos h2, show max (t + 1) f = f by omega]
    · rw [if_neg h2, show max (t + 1) f = t + 1 by omega, Int32.sub_self]
theorem mnR {f t : Nat} (hf : f < 100) (ht : t < 100) : (if nI t ≤ nI f then nI t else nI f) = nI (min f t) := by
  by_cases h : t ≤ f
  · rw [if_pos (nI_le h (by omega)), show min f t = t by omega]
  · rw [if_neg (nI_ge (by omega) (by omega)), show min f t = f by omega]

set_option maxHeartbeats 4000000 in
set_option maxRecDepth 100000 in
theorem c_hidOf {g : GG} {d : Nat} {M : Mem} {Q : Option Value → Mem → Prop} {b e : Nat} (hb : b ≤ 8) (he : e < 10) (hf : rg 0 99 (M 84 (108 + 7 * b + 2))) (ht : rg 0 99 (M 84 (171 + e))) (hQ : Q (some (.int (hidS (hbR M) (M 84 (108 + 7 * b + 2)) (M 84 (171 + e))))) M) : V rS g (d + 1) mX10_hidOf 0 [some (.ref 83), some (.int (nI b)), some (.int (nI e)), none, none, none, none] [] M Q := by
  obtain ⟨f, hf1, hf2⟩ := rg_99 hf
  obtain ⟨t, ht1, ht2⟩ := rg_99 ht
  have hQ2 : Q (some (.int (hidF (hbR M) f t))) M := by unfold hidS at hQ; rw [hf2, ht2, nI_clamp (by omega), nI_clamp (by omega)] at hQ; exact hQ
  refine V.aload_n dX10_hidOf_0 rfl (i := 0) rfl ?_
  refine V.iload_n dX10_hidOf_1 rfl (i := 1) rfl ?_
  refine V.iconst dX10_hidOf_2 (v := 2) (by decide) ?_
  refine V.invv (z := mX10_of) (As := [_, _]) dX10_hidOf_3 rfl mlRX10_175 okX10_of npX10_of rfl rfl rfl ⟨by decide, by decide⟩ (Nat.le_of_ble_eq_true rfl) rfl (Nat.le_of_ble_eq_true rfl) (c_of  (by first | assumption | decide | omega) (by first | assumption | decide | omega) ?_)
  show V rS g (d + 1) mX10_hidOf 6 [some (.ref 83), some (.int (nI b)), some (.int (nI e)), none, none, none, none] [.int (M 84 (108 + 7 * b + 2))] (M) Q
  refine V.top (x' := (nI f)) (hf2) ?_
  refine V.istore_n dX10_hidOf_6 rfl (i := 3) (by decide) (fun _ h => by cases h; exact Or.inl rfl) rfl ?_
  refine V.aload_n dX10_hidOf_7 rfl (i := 0) rfl ?_
  refine V.getR dX10_hidOf_8 rfl flRX10_7 rfl ⟨by decide, by decide⟩ ?_
  refine V.sipush dX10_hidOf_11 (v := 171) (by decide) ?_
  refine V.iload_n dX10_hidOf_14 rfl (i := 2) rfl ?_
  refine V.iadd dX10_hidOf_15 ?_
  refine V.top (x' := (nI (171 + e))) (nI_add 171 e) ?_
  refine V.ialdN dX10_hidOf_16 rfl ⟨by decide, by decide⟩ (by first | assumption | decide | omega) (by decide) ?_
  refine V.top (x' := (nI t)) (ht2) ?_
  refine V.istore dX10_hidOf_17 (i := 4) (by decide) (fun _ h => by cases h; exact Or.inl rfl) rfl ?_
  refine V.iconst dX10_hidOf_19 (v := 0) (by decide) ?_
  refine V.istore dX10_hidOf_20 (i := 5) (by decide) (fun _ h => by cases h; exact Or.inl rfl) rfl ?_
  refine V.iload_n dX10_hidOf_22 rfl (i := 3) rfl ?_
  refine V.iload dX10_hidOf_23 rfl ?_
  suffices kJ25 : V rS g (d + 1) mX10_hidOf 34 [some (.ref 83), some (.int (nI b)), some (.int (nI e)), some (.int (nI f)), some (.int (nI t)), some (.int (0 : Int32)), none] [.int (if (nI t) ≤ (nI f) then (nI t) else (nI f))] (M) Q by
    refine V.ic_ge (tgt := 32) dX10_hidOf_25 (by decide) (fun c25 => ?_) (fun c25 => ?_)
    · refine V.iload dX10_hidOf_32 rfl ?_
      rw [if_pos c25] at kJ25; exact kJ25
    · refine V.iload_n dX10_hidOf_28 rfl (i := 3) rfl ?_
      refine V.goto dX10_hidOf_29 (tgt := 34) (by decide) ?_
      rw [if_neg c25] at kJ25; exact kJ25
  refine V.top (x' := (nI (min f t))) ((mnR hf1 ht1)) ?_
  refine V.iconst dX10_hidOf_34 (v := 1) (by decide) ?_
  refine V.iadd dX10_hidOf_35 ?_
  refine V.top (x' := (nI ((min f t) + 1))) (nI_add (min f t) 1) ?_
  refine V.istore dX10_hidOf_36 (i := 6) (by decide) (fun _ h => by cases h; exact Or.inl rfl) rfl ?_
  refine V.lseq (ls' := [some (.ref 83), some (.int (nI b)), some (.int (nI e)), some (.int (nI f)), some (.int (nI t)), some (.int (hbR M (min f t + 1) - hbR M (min f t + 1))), some (.int (nI (min f t + 1)))]) (by rw [Int32.sub_self]; rfl) ?_
  exact l_hid hf1 ht1 (Qi hQ2 hid_eq) (max (min f t + 1) (max f t) - (min f t + 1)) (min f t + 1) (by omega) (Nat.le_refl _)
theorem way1 : ∀ D, D < 100 → ∀ j, j < 11 → heldR (3 * nI D - wN j * nI D / 5) 0 99999 = (if 0 < 3 * nI D + -(wN j * nI D / 5) then 3 * nI D + -(wN j * nI D / 5) else 0) := by decide +kernel
theorem way2 : ∀ D, D < 100 → ∀ j, j < 11 → heldR (3 * nI D - -(wN j) * nI D / 5) 0 99999 = (if 0 < 3 * nI D + wN j * nI D / 5 then 3 * nI D + wN j * nI D / 5 else 0) := by decide +kernel
theorem way0 : ∀ j, j < 11 → heldR (3 * nI 0 - 0 * nI 0 / 5) 0 99999 = (if 0 < 3 * nI 0 + wN j * nI 0 / 5 then 3 * nI 0 + wN j * nI 0 / 5 else 0) := by decide +kernel
theorem far_n {f t : Nat} (hf : f < 100) (ht : t < 100) : farF (nI f) (nI t) = nI (if t ≤ f then f - t else t - f) := by
  unfold farF
  by_cases h : t ≤ f
  · rw [if_pos h, pk_sub h, if_pos (nI_pos' (by omega))]
  · rw [if_neg h, if_neg (Int32.not_le.mpr (pk_sneg (by omega) (by omega))), Int32.zero_sub, Int32.neg_sub, pk_sub (by omega)]
theorem wN_rg {w : Int32} (h : rg (-5) 5 w) : ∃ j, j < 11 ∧ w = wN j := by
  have h1 := Int32.le_iff_toInt_le.mp h.1
  have h2 := Int32.le_iff_toInt_le.mp h.2
  have e1 : (-5 : Int32).toInt = -5 := by decide
  have e2 : (5 : Int32).toInt = 5 := by decide
  rw [e1] at h1
  rw [e2] at h2
  refine ⟨(w.toInt + 5).toNat, by omega, ?_⟩
  have h3 : ∀ j, j < 11 → (wN j).toInt = (j : Int) - 5 := by decide +kernel
  rw [← Int32.toInt_inj, h3 _ (by omega)]
  omega
theorem way_eq {f t w : Int32} (hf : rg 0 99 f) (ht : rg 0 99 t) (hw : rg (-5) 5 w) : heldR (3 * farF f t - windS f t w * farF f t / 5) 0 99999 = wayF f t w := by
  obtain ⟨f, hf1, rfl⟩ := rg_99 hf
  obtain ⟨t, ht1, rfl⟩ := rg_99 ht
  obtain ⟨j, hj, rfl⟩ := wN_rg hw
  have hD := far_n hf1 ht1
  unfold farF at hD
  have e : wayF (nI f) (nI t) (wN j) = (if 0 < (3 * nI (if t ≤ f then f - t else t - f) + (if nI t ≤ nI f then wN j * nI (if t ≤ f then f - t else t - f) / 5 else -(wN j * nI (if t ≤ f then f - t else t - f) / 5))) then (3 * nI (if t ≤ f then f - t else t - f) + (if nI t ≤ nI f then wN j * nI (if t ≤ f then f - t else t - f) / 5 else -(wN j * nI (if t ≤ f then f - t else t - f) / 5))) else 0) := by unfold wayF; rw [hD]
  rw [e]
  unfold farF
  rw [hD]
  unfold windS
  by_cases h : t ≤ f
  · rw [if_pos h, if_pos (nI_le h (by omega)), if_pos (nI_le h (by omega))]
    by_cases h2 : f ≤ t
    · rw [if_pos (nI_le h2 (by omega)), show f - t = 0 by omega]
      exact way0 j hj
    · rw [if_neg (nI_ge (by omega) (by omega))]
      exact way2 (f - t) (by omega) j hj
  · rw [if_neg h, if_neg (nI_ge (by omega) (by omega)), if_neg (nI_ge (by omega) (by omega))]
    exact way1 (t - f) (by omega) j hj

set_option maxHeartbeats 4000000 in
set_option maxRecDepth 100000 in
theorem c_wayOf {g : GG} {d : Nat} {M : Mem} {Q : Option Value → Mem → Prop} {b e : Nat} (hb : b ≤ 8) (he : e < 10) (hf : rg 0 99 (M 84 (108 + 7 * b + 2))) (ht : rg 0 99 (M 84 (171 + e))) (hw : rg (-5) 5 (M 84 100)) (hQ : Q (some (.int (wayF (M 84 (108 + 7 * b + 2)) (M 84 (171 + e)) (M 84 100)))) M) : V rS g (d + 2) mX10_wayOf 0 [some (.ref 83), some (.int (nI b)), some (.int (nI e)), none] [] M Q := by
  refine V.aload_n dX10_wayOf_0 rfl (i := 0) rfl ?_
  refine V.iload_n dX10_wayOf_1 rfl (i := 1) rfl ?_
  refine V.iload_n dX10_wayOf_2 rfl (i := 2) rfl ?_
  refine V.invv (z := mX10_farOf) (As := [_, _]) dX10_wayOf_3 rfl mlRX10_202 okX10_farOf npX10_farOf rfl rfl rfl ⟨by decide, by decide⟩ (Nat.le_of_ble_eq_true rfl) rfl (Nat.le_of_ble_eq_true rfl) (c_farOf  (by first | assumption | decide | omega) (by first | assumption | decide | omega) ?_)
  show V rS g (d + 2) mX10_wayOf 6 [some (.ref 83), some (.int (nI b)), some (.int (nI e)), none] [.int (farF (M 84 (108 + 7 * b + 2)) (M 84 (171 + e)))] (M) Q
  refine V.istore_n dX10_wayOf_6 rfl (i := 3) (by decide) (fun _ h => by cases h; exact Or.inl rfl) rfl ?_
  refine V.iconst dX10_wayOf_7 (v := 3) (by decide) ?_
  refine V.iload_n dX10_wayOf_8 rfl (i := 3) rfl ?_
  refine V.imul dX10_wayOf_9 ?_
  refine V.aload_n dX10_wayOf_10 rfl (i := 0) rfl ?_
  refine V.iload_n dX10_wayOf_11 rfl (i := 1) rfl ?_
  refine V.iload_n dX10_wayOf_12 rfl (i := 2) rfl ?_
  refine V.invv (z := mX10_windOf) (As := [_, _]) dX10_wayOf_13 rfl mlRX10_205 okX10_windOf npX10_windOf rfl rfl rfl ⟨by decide, by decide⟩ (Nat.le_of_ble_eq_true rfl) rfl (Nat.le_of_ble_eq_true rfl) (c_windOf  (by first | assumption | decide | omega) (by first | assumption | decide | omega) ?_)
  show V rS g (d + 2) mX10_wayOf 16 [some (.ref 83), some (.int (nI b)), some (.int (nI e)), some (.int (farF (M 84 (108 + 7 * b + 2)) (M 84 (171 + e))))] [.int (windS ((M) 84 (108 + 7 * b + 2)) ((M) 84 (171 + e)) ((M) 84 100)), .int ((3 : Int32) * (farF (M 84 (108 + 7 * b + 2)) (M 84 (171 + e))))] ((M)) Q
  refine V.iload_n dX10_wayOf_16 rfl (i := 3) rfl ?_
  refine V.imul dX10_wayOf_17 ?_
  refine V.iconst dX10_wayOf_18 (v := 5) (by decide) ?_
  refine V.idiv dX10_wayOf_19 (by decide) ?_
  refine V.isub dX10_wayOf_20 ?_
  refine V.iconst dX10_wayOf_21 (v := 0) (by decide) ?_
  refine V.ldc dX10_wayOf_22 rfl ctRX10_208 ?_
  refine V.invs (z := mX10_held) (As := [_, _, _]) dX10_wayOf_24 rfl mlRX10_140 okX10_held npX10_held rfl (Nat.le_of_ble_eq_true rfl) rfl (Nat.le_of_ble_eq_true rfl) (c_heldR   ?_)
  show V rS g (d + 2) mX10_wayOf 27 [some (.ref 83), some (.int (nI b)), some (.int (nI e)), some (.int (farF (M 84 (108 + 7 * b + 2)) (M 84 (171 + e))))] [.int (heldR (((3 : Int32) * (farF (M 84 (108 + 7 * b + 2)) (M 84 (171 + e)))) - (((windS ((M) 84 (108 + 7 * b + 2)) ((M) 84 (171 + e)) ((M) 84 100)) * (farF (M 84 (108 + 7 * b + 2)) (M 84 (171 + e)))) / (5 : Int32))) (0 : Int32) (99999 : Int32))] (((M))) Q
  exact V.ret dX10_wayOf_27 rfl (Qi hQ (way_eq hf ht hw))

