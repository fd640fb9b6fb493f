/-! ===== the reference: clashes ===== -/
abbrev offR (M : Mem) : Nat → Int32 := fun x => M 84 (108 + 7 * x + 4)
def HdX (M : Mem) (hp : Nat → Nat → Bool) (wy : Nat → Nat → Int32) (ne x : Nat) : Prop := ∀ e, e < ne → M 90 (10 * x + e) = b2i (hp x e = true) ∧ M 89 (10 * x + e) = wy x e
theorem HdR.x {M : Mem} {hp : Nat → Nat → Bool} {wy : Nat → Nat → Int32} {n ne x : Nat} (h : HdR M hp wy n ne) (hx : x < n) : HdX M hp wy ne x := fun e he => h x e hx he
/-- in how many clashes one is that is shifted -/
def ccS (hp : Nat → Nat → Bool) (wy : Nat → Nat → Int32) (br : Int32) (off : Nat → Int32) (n ne a : Nat) (sh : Int32) : Int32 := sI (fun b => if b = a then 0 else nI (cB (clP hp wy br a (off a + sh) b (off b)) ne)) n
theorem ccS_0 {hp : Nat → Nat → Bool} {wy : Nat → Nat → Int32} {br : Int32} {off : Nat → Int32} {n ne a : Nat} : ccS hp wy br off n ne a 0 = ccF hp wy br off n ne a := by
  unfold ccS ccF cl2
  rw [Int32.add_zero]
def gpR (hp : Nat → Nat → Bool) (wy : Nat → Nat → Int32) (br : Int32) (a b : Nat) : Nat → Int32
  | 0 => -1000000000
  | e + 1 => if hp a e = true ∧ hp b e = true then (if gpR hp wy br a b e < br + 1 + wy a e - wy b e then br + 1 + wy a e - wy b e else gpR hp wy br a b e) else gpR hp wy br a b e
def qtF (f : Nat → Int32) : Nat → Nat × Int32
  | 0 => (0, 1000000000)
  | h + 1 => if f h < (qtF f h).2 then (h, f h) else qtF f h
theorem nI_b2i {p : Prop} [Decidable p] {n : Nat} : nI n + (if b2i p = (0 : Int32) then (0 : Int32) else (1 : Int32)) = nI (n + (if p then 1 else 0)) := by
  by_cases h : p
  · rw [b2i_t h, if_neg (by decide), if_pos h]; exact nI_1 n
  · rw [b2i_f h, if_pos rfl, if_neg h, Int32.add_zero, Nat.add_zero]

set_option maxHeartbeats 4000000 in
set_option maxRecDepth 100000 in
theorem c_isClash {g : GG} {d : Nat} {M : Mem} {Q : Option Value → Mem → Prop} {hp : Nat → Nat → Bool} {wy : Nat → Nat → Int32} {ne a b : Nat} (hA : HdX M hp wy ne a) (hB : HdX M hp wy ne b) (ha : a ≤ 8) (hb : b ≤ 8) (h10 : ne ≤ 10) {e : Nat} {sh : Int32} (he : e < ne) (hQ : Q (some (.int (b2i ((clP hp wy (M 84 101) a (M 84 (108 + 7 * a + 4) + sh) b (M 84 (108 + 7 * b + 4))) e = true)))) M) : V rS g (d + 1) mX10_isClash 0 [some (.ref 83), some (.int (nI a)), some (.int (nI b)), some (.int (nI e)), some (.int sh), none] [] M Q := by
  have ia : 10 * a + e < 90 := by omega
  have ib : 10 * b + e < 90 := by omega
  obtain ⟨a1, a2⟩ := hA e he
  obtain ⟨b1, b2⟩ := hB e he
  by_cases pa : hp a e = true
  · by_cases pb : hp b e = true
    · have hv : (clP hp wy (M 84 101) a (M 84 (108 + 7 * a + 4) + sh) b (M 84 (108 + 7 * b + 4))) e = decide (absI (M 84 (108 + 7 * a + 4) + sh + wy a e - M 84 (108 + 7 * b + 4) - wy b e) ≤ M 84 101) := by unfold clP; rw [pa, pb]; rfl
      rw [hv] at hQ
      refine V.aload_n dX10_isClash_0 rfl (i := 0) rfl ?_
      refine V.iload_n dX10_isClash_1 rfl (i := 1) rfl ?_
      refine V.iconst dX10_isClash_2 (v := 4) (by decide) ?_
      refine V.invv (z := mX10_of) (As := [_, _]) dX10_isClash_3 rfl mlRX10_175 okX10_of npX10_of rfl rfl rfl ⟨by decide, by decide⟩ (Nat.le_of_ble_eq_true rfl) rfl (Nat.le_of_ble_eq_true rfl) (c_of  (by first | assumption | decide | omega) (by first | assumption | decide | omega) ?_)
      show V rS g (d + 1) mX10_isClash 6 [some (.ref 83), some (.int (nI a)), some (.int (nI b)), some (.int (nI e)), some (.int sh), none] [.int (M 84 (108 + 7 * a + 4))] (M) Q
      refine V.iload dX10_isClash_6 rfl ?_
      refine V.iadd dX10_isClash_8 ?_
      refine V.aload_n dX10_isClash_9 rfl (i := 0) rfl ?_
      refine V.getR dX10_isClash_10 rfl flRX10_25 rfl ⟨by decide, by decide⟩ ?_
      refine V.bipush dX10_isClash_13 (v := 10) (by decide) ?_
      refine V.iload_n dX10_isClash_15 rfl (i := 1) rfl ?_
      refine V.imul dX10_isClash_16 ?_
      refine V.top (x' := (nI (10 * a))) (pk_mul 10 a) ?_
      refine V.iload_n dX10_isClash_17 rfl (i := 3) rfl ?_
      refine V.iadd dX10_isClash_18 ?_
      refine V.top (x' := (nI ((10 * a) + e))) (nI_add (10 * a) e) ?_
      refine V.ialdN dX10_isClash_19 rfl ⟨by decide, by decide⟩ (by first | assumption | decide | omega) (by decide) ?_
      refine V.top (x' := (wy a e)) (a2) ?_
      refine V.iadd dX10_isClash_20 ?_
      refine V.aload_n dX10_isClash_21 rfl (i := 0) rfl ?_
      refine V.iload_n dX10_isClash_22 rfl (i := 2) rfl ?_
      refine V.iconst dX10_isClash_23 (v := 4) (by decide) ?_
      refine V.invv (z := mX10_of) (As := [_, _]) dX10_isClash_24 rfl mlRX10_175 okX10_of npX10_of rfl rfl rfl ⟨by decide, by decide⟩ (Nat.le_of_ble_eq_true rfl) rfl (Nat.le_of_ble_eq_true rfl) (c_of  (by first | assumption | decide | omega) (by first | assumption | decide | omega) ?_)
      show V rS g (d + 1) mX10_isClash 27 [some (.ref 83), some (.int (nI a)), some (.int (nI b)), some (.int (nI e)), some (.int sh), none] [.int ((M) 84 (108 + 7 * b + 4)), .int (((M 84 (108 + 7 * a + 4)) + sh) + (wy a e))] ((M)) Q
      refine V.isub dX10_isClash_27 ?_
      refine V.aload_n dX10_isClash_28 rfl (i := 0) rfl ?_
      refine V.getR dX10_isClash_29 rfl flRX10_25 rfl ⟨by decide, by decide⟩ ?_
      refine V.bipush dX10_isClash_32 (v := 10) (by decide) ?_
      refine V.iload_n dX10_isClash_34 rfl (i := 2) rfl ?_
      refine V.imul dX10_isClash_35 ?_
      refine V.top (x' := (nI (10 * b))) (pk_mul 10 b) ?_
      refine V.iload_n dX10_isClash_36 rfl (i := 3) rfl ?_
      refine V.iadd dX10_isClash_37 ?_
      refine V.top (x' := (nI ((10 * b) + e))) (nI_add (10 * b) e) ?_
      refine V.ialdN dX10_isClash_38 rfl ⟨by decide, by decide⟩ (by first | assumption | decide | omega) (by decide) ?_
      refine V.top (x' := (wy b e)) (b2) ?_
      refine V.isub dX10_isClash_39 ?_
      refine V.istore dX10_isClash_40 (i := 5) (by decide) (fun _ h => by cases h; exact Or.inl rfl) rfl ?_
      refine V.aload_n dX10_isClash_42 rfl (i := 0) rfl ?_
      refine V.getR dX10_isClash_43 rfl flRX10_28 rfl ⟨by decide, by decide⟩ ?_
      refine V.bipush dX10_isClash_46 (v := 10) (by decide) ?_
      refine V.iload_n dX10_isClash_48 rfl (i := 1) rfl ?_
      refine V.imul dX10_isClash_49 ?_
      refine V.top (x' := (nI (10 * a))) (pk_mul 10 a) ?_
      refine V.iload_n dX10_isClash_50 rfl (i := 3) rfl ?_
      refine V.iadd dX10_isClash_51 ?_
      refine V.top (x' := (nI ((10 * a) + e))) (nI_add (10 * a) e) ?_
      refine V.zaldN dX10_isClash_52 rfl ⟨by decide, by decide⟩ (by first | assumption | decide | omega) (by decide) ?_
      refine V.top (x' := (b2i (hp a e = true))) (a1) ?_
      refine V.if_eq (tgt := 89) dX10_isClash_53 (by decide) (fun q => absurd q ((fun z => b2i_0.mp z pa))) (fun c53 => ?_)
      refine V.aload_n dX10_isClash_56 rfl (i := 0) rfl ?_
      refine V.getR dX10_isClash_57 rfl flRX10_28 rfl ⟨by decide, by decide⟩ ?_
      refine V.bipush dX10_isClash_60 (v := 10) (by decide) ?_
      refine V.iload_n dX10_isClash_62 rfl (i := 2) rfl ?_
      refine V.imul dX10_isClash_63 ?_
      refine V.top (x' := (nI (10 * b))) (pk_mul 10 b) ?_
      refine V.iload_n dX10_isClash_64 rfl (i := 3) rfl ?_
      refine V.iadd dX10_isClash_65 ?_
      refine V.top (x' := (nI ((10 * b) + e))) (nI_add (10 * b) e) ?_
      refine V.zaldN dX10_isClash_66 rfl ⟨by decide, by decide⟩ (by first | assumption | decide | omega) (by decide) ?_
      refine V.top (x' := (b2i (hp b e = true))) (b1) ?_
      refine V.if_eq (tgt := 89) dX10_isClash_67 (by decide) (fun q => absurd q ((fun z => b2i_0.mp z pb))) (fun c67 => ?_)
      refine V.iload dX10_isClash_70 rfl ?_
      refine V.invs (z := mX10_size) (As := [_]) dX10_isClash_72 rfl mlRX10_200 okX10_size npX10_size rfl (Nat.le_of_ble_eq_true rfl) rfl (Nat.le_of_ble_eq_true rfl) (c_sizeR   ?_)
      show V rS g (d + 1) mX10_isClash 75 [some (.ref 83), some (.int (nI a)), some (.int (nI b)), some (.int (nI e)), some (.int sh), some (.int (((((M 84 (108 + 7 * a + 4)) + sh) + (wy a e)) - ((M) 84 (108 + 7 * b + 4))) - (wy b e)))] [.int (absI (((((M 84 (108 + 7 * a + 4)) + sh) + (wy a e)) - ((M) 84 (108 + 7 * b + 4))) - (wy b e)))] (((M))) Q
      refine V.aload_n dX10_isClash_75 rfl (i := 0) rfl ?_
      refine V.getR dX10_isClash_76 rfl flRX10_7 rfl ⟨by decide, by decide⟩ ?_
      refine V.bipush dX10_isClash_79 (v := 101) (by decide) ?_
      refine V.top (x' := nI 101) (by decide) ?_
      refine V.ialdN dX10_isClash_81 rfl ⟨by decide, by decide⟩ (by first | assumption | decide | omega) (by decide) ?_
      suffices kJ82 : V rS g (d + 1) mX10_isClash 90 [some (.ref 83), some (.int (nI a)), some (.int (nI b)), some (.int (nI e)), some (.int sh), some (.int (((((M 84 (108 + 7 * a + 4)) + sh) + (wy a e)) - ((M) 84 (108 + 7 * b + 4))) - (wy b e)))] [.int (if ((((M))) 84 101) < (absI (((((M 84 (108 + 7 * a + 4)) + sh) + (wy a e)) - ((M) 84 (108 + 7 * b + 4))) - (wy b e))) then (0 : Int32) else (1 : Int32))] (((M))) Q by
        refine V.ic_gt (tgt := 89) dX10_isClash_82 (by decide) (fun c82 => ?_) (fun c82 => ?_)
        · refine V.iconst dX10_isClash_89 (v := 0) (by decide) ?_
          rw [if_pos c82] at kJ82; exact kJ82
        · refine V.iconst dX10_isClash_85 (v := 1) (by decide) ?_
          refine V.goto dX10_isClash_86 (tgt := 90) (by decide) ?_
          rw [if_neg c82] at kJ82; exact kJ82
      exact V.zret dX10_isClash_90 rfl (by first | exact Or.inl rfl | exact Or.inr rfl | assumption | exact b2i_zo _ | (repeat' split) <;> first | exact Or.inl rfl | exact Or.inr rfl | assumption | exact b2i_zo _) (Qi hQ (by unfold b2i; (repeat' split) <;> first | rfl | (simp_all [Int32.not_le, Int32.not_lt]; done) | (simp only [decide_eq_true_iff, Int32.lt_iff_toInt_lt, Int32.le_iff_toInt_le, ← Int32.toInt_inj, Int32.reduceToInt] at *; omega)))
    · have hv : ¬ (clP hp wy (M 84 101) a (M 84 (108 + 7 * a + 4) + sh) b (M 84 (108 + 7 * b + 4))) e = true := by unfold clP; rw [pa, Bool.eq_false_iff.mpr pb]; exact Bool.false_ne_true
      rw [b2i_f hv] at hQ
      refine V.aload_n dX10_isClash_0 rfl (i := 0) rfl ?_
      refine V.iload_n dX10_isClash_1 rfl (i := 1) rfl ?_
      refine V.iconst dX10_isClash_2 (v := 4) (by decide) ?_
      refine V.invv (z := mX10_of) (As := [_, _]) dX10_isClash_3 rfl mlRX10_175 okX10_of npX10_of rfl rfl rfl ⟨by decide, by decide⟩ (Nat.le_of_ble_eq_true rfl) rfl (Nat.le_of_ble_eq_true rfl) (c_of  (by first | assumption | decide | omega) (by first | assumption | decide | omega) ?_)
      show V rS g (d + 1) mX10_isClash 6 [some (.ref 83), some (.int (nI a)), some (.int (nI b)), some (.int (nI e)), some (.int sh), none] [.int (M 84 (108 + 7 * a + 4))] (M) Q
      refine V.iload dX10_isClash_6 rfl ?_
      refine V.iadd dX10_isClash_8 ?_
      refine V.aload_n dX10_isClash_9 rfl (i := 0) rfl ?_
      refine V.getR dX10_isClash_10 rfl flRX10_25 rfl ⟨by decide, by decide⟩ ?_
      refine V.bipush dX10_isClash_13 (v := 10) (by decide) ?_
      refine V.iload_n dX10_isClash_15 rfl (i := 1) rfl ?_
      refine V.imul dX10_isClash_16 ?_
      refine V.top (x' := (nI (10 * a))) (pk_mul 10 a) ?_
      refine V.iload_n dX10_isClash_17 rfl (i := 3) rfl ?_
      refine V.iadd dX10_isClash_18 ?_
      refine V.top (x' := (nI ((10 * a) + e))) (nI_add (10 * a) e) ?_
      refine V.ialdN dX10_isClash_19 rfl ⟨by decide, by decide⟩ (by first | assumption | decide | omega) (by decide) ?_
      refine V.iadd dX10_isClash_20 ?_
      refine V.aload_n dX10_isClash_21 rfl (i := 0) rfl ?_
      refine V.iload_n dX10_isClash_22 rfl (i := 2) rfl ?_
      refine V.iconst dX10_isClash_23 (v := 4) (by decide) ?_
      refine V.invv (z := mX10_of) (As := [_, _]) dX10_isClash_24 rfl mlRX10_175 okX10_of npX10_of rfl rfl rfl ⟨by decide, by decide⟩ (Nat.le_of_ble_eq_true rfl) rfl (Nat.le_of_ble_eq_true rfl) (c_of  (by first | assumption | decide | omega) (by first | assumption | decide | omega) ?_)
      show V rS g (d + 1) mX10_isClash 27 [some (.ref 83), some (.int (nI a)), some (.int (nI b)), some (.int (nI e)), some (.int sh), none] [.int ((M) 84 (108 + 7 * b + 4)), .int (((M 84 (108 + 7 * a + 4)) + sh) + ((M) 89 ((10 * a) + e)))] ((M)) Q
      refine V.isub dX10_isClash_27 ?_
      refine V.aload_n dX10_isClash_28 rfl (i := 0) rfl ?_
      refine V.getR dX10_isClash_29 rfl flRX10_25 rfl ⟨by decide, by decide⟩ ?_
      refine V.bipush dX10_isClash_32 (v := 10) (by decide) ?_
      refine V.iload_n dX10_isClash_34 rfl (i := 2) rfl ?_
      refine V.imul dX10_isClash_35 ?_
      refine V.top (x' := (nI (10 * b))) (pk_mul 10 b) ?_
      refine V.iload_n dX10_isClash_36 rfl (i := 3) rfl ?_
      refine V.iadd dX10_isClash_37 ?_
      refine V.top (x' := (nI ((10 * b) + e))) (nI_add (10 * b) e) ?_
      refine V.ialdN dX10_isClash_38 rfl ⟨by decide, by decide⟩ (by first | assumption | decide | omega) (by decide) ?_
      refine V.isub dX10_isClash_39 ?_
      refine V.istore dX10_isClash_40 (i := 5) (by decide) (fun _ h => by cases h; exact Or.inl rfl) rfl ?_
      refine V.aload_n dX10_isClash_42 rfl (i := 0) rfl ?_
      refine V.getR dX10_isClash_43 rfl flRX10_28 rfl ⟨by decide, by decide⟩ ?_
      refine V.bipush dX10_isClash_46 (v := 10) (by decide) ?_
      refine V.iload_n dX10_isClash_48 rfl (i := 1) rfl ?_
      refine V.imul dX10_isClash_49 ?_
      refine V.top (x' := (nI (10 * a))) (pk_mul 10 a) ?_
      refine V.iload_n dX10_isClash_50 rfl (i := 3) rfl ?_
      refine V.iadd dX10_isClash_51 ?_
      refine V.top (x' := (nI ((10 * a) + e))) (nI_add (10 * a) e) ?_
      refine V.zaldN dX10_isClash_52 rfl ⟨by decide, by decide⟩ (by first | assumption | decide | omega) (by decide) ?_
      refine V.top (x' := (b2i (hp a e = true))) (a1) ?_
      refine V.if_eq (tgt := 89) dX10_isClash_53 (by decide) (fun q => absurd q ((fun z => b2i_0.mp z pa))) (fun c53 => ?_)
      refine V.aload_n dX10_isClash_56 rfl (i := 0) rfl ?_
      refine V.getR dX10_isClash_57 rfl flRX10_28 rfl ⟨by decide, by decide⟩ ?_
      refine V.bipush dX10_isClash_60 (v := 10) (by decide) ?_
      refine V.iload_n dX10_isClash_62 rfl (i := 2) rfl ?_
      refine V.imul dX10_isClash_63 ?_
      refine V.top (x' := (nI (10 * b))) (pk_mul 10 b) ?_
      refine V.iload_n dX10_isClash_64 rfl (i := 3) rfl ?_
      refine V.iadd dX10_isClash_65 ?_
      refine V.top (x' := (nI ((10 * b) + e))) (nI_add (10 * b) e) ?_
      refine V.zaldN dX10_isClash_66 rfl ⟨by decide, by decide⟩ (by first | assumption | decide | omega) (by decide) ?_
      refine V.top (x' := (b2i (hp b e = true))) (b1) ?_
      refine V.if_eq (tgt := 89) dX10_isClash_67 (by decide) (fun c67 => ?_) (fun q => absurd ((b2i_f pb)) q)
      refine V.iconst dX10_isClash_89 (v := 0) (by decide) ?_
      exact V.zret dX10_isClash_90 rfl (by first | exact Or.inl rfl | exact Or.inr rfl | assumption | exact b2i_zo _ | (repeat' split) <;> first | exact Or.inl rfl | exact Or.inr rfl | assumption | exact b2i_zo _) (hQ)
  · have hv : ¬ (clP hp wy (M 84 101) a (M 84 (108 + 7 * a + 4) + sh) b (M 84 (108 + 7 * b + 4))) e = true := by unfold clP; rw [Bool.eq_false_iff.mpr pa]; exact Bool.false_ne_true
    rw [b2i_f hv] at hQ
    refine V.aload_n dX10_isClash_0 rfl (i := 0) rfl ?_
    refine V.iload_n dX10_isClash_1 rfl (i := 1) rfl ?_
    refine V.iconst dX10_isClash_2 (v := 4) (by decide) ?_
    refine V.invv (z := mX10_of) (As := [_, _]) dX10_isClash_3 rfl mlRX10_175 okX10_of npX10_of rfl rfl rfl ⟨by decide, by decide⟩ (Nat.le_of_ble_eq_true rfl) rfl (Nat.le_of_ble_eq_true rfl) (c_of  (by first | assumption | decide | omega) (by first | assumption | decide | omega) ?_)
    show V rS g (d + 1) mX10_isClash 6 [some (.ref 83), some (.int (nI a)), some (.int (nI b)), some (.int (nI e)), some (.int sh), none] [.int (M 84 (108 + 7 * a + 4))] (M) Q
    refine V.iload dX10_isClash_6 rfl ?_
    refine V.iadd dX10_isClash_8 ?_
    refine V.aload_n dX10_isClash_9 rfl (i := 0) rfl ?_
    refine V.getR dX10_isClash_10 rfl flRX10_25 rfl ⟨by decide, by decide⟩ ?_
    refine V.bipush dX10_isClash_13 (v := 10) (by decide) ?_
    refine V.iload_n dX10_isClash_15 rfl (i := 1) rfl ?_
    refine V.imul dX10_isClash_16 ?_
    refine V.top (x' := (nI (10 * a))) (pk_mul 10 a) ?_
    refine V.iload_n dX10_isClash_17 rfl (i := 3) rfl ?_
    refine V.iadd dX10_isClash_18 ?_
    refine V.top (x' := (nI ((10 * a) + e))) (nI_add (10 * a) e) ?_
    refine V.ialdN dX10_isClash_19 rfl ⟨by decide, by decide⟩ (by first | assumption | decide | omega) (by decide) ?_
    refine V.iadd dX10_isClash_20 ?_
    refine V.aload_n dX10_isClash_21 rfl (i := 0) rfl ?_
    refine V.iload_n dX10_isClash_22 rfl (i := 2) rfl ?_
    refine V.iconst dX10_isClash_23 (v := 4) (by decide) ?_
    refine V.invv (z := mX10_of) (As := [_, _]) dX10_isClash_24 rfl mlRX10_175 okX10_of npX10_of rfl rfl rfl ⟨by decide, by decide⟩ (Nat.le_of_ble_eq_true rfl) rfl (Nat.le_of_ble_eq_true rfl) (c_of  (by first | assumption | decide | omega) (by first | assumption | decide | omega) ?_)
    show V rS g (d + 1) mX10_isClash 27 [some (.ref 83), some (.int (nI a)), some (.int (nI b)), some (.int (nI e)), some (.int sh), none] [.int ((M) 84 (108 + 7 * b + 4)), .int (((M 84 (108 + 7 * a + 4)) + sh) + ((M) 89 ((10 * a) + e)))] ((M)) Q
    refine V.isub dX10_isClash_27 ?_
    refine V.aload_n dX10_isClash_28 rfl (i := 0) rfl ?_
    refine V.getR dX10_isClash_29 rfl flRX10_25 rfl ⟨by decide, by decide⟩ ?_
    refine V.bipush dX10_isClash_32 (v := 10) (by decide) ?_
    refine V.iload_n dX10_isClash_34 rfl (i := 2) rfl ?_
    refine V.imul dX10_isClash_35 ?_
    refine V.top (x' := (nI (10 * b))) (pk_mul 10 b) ?_
    refine V.iload_n dX10_isClash_36 rfl (i := 3) rfl ?_
    refine V.iadd dX10_isClash_37 ?_
    refine V.top (x' := (nI ((10 * b) + e))) (nI_add (10 * b) e) ?_
    refine V.ialdN dX10_isClash_38 rfl ⟨by decide, by decide⟩ (by first | assumption | decide | omega) (by decide) ?_
    refine V.isub dX10_isClash_39 ?_
    refine V.istore dX10_isClash_40 (i := 5) (by decide) (fun _ h => by cases h; exact Or.inl rfl) rfl ?_
    refine V.aload_n dX10_isClash_42 rfl (i := 0) rfl ?_
    refine V.getR dX10_isClash_43 rfl flRX10_28 rfl ⟨by decide, by decide⟩ ?_
    refine V.bipush dX10_isClash_46 (v := 10) (by decide) ?_
    refine V.iload_n dX10_isClash_48 rfl (i := 1) rfl ?_
    refine V.imul dX10_isClash_49 ?_
    refine V.top (x' := (nI (10 * a))) (pk_mul 10 a) ?_
    refine V.iload_n dX10_isClash_50 rfl (i := 3) rfl ?_
    refine V.iadd dX10_isClash_51 ?_
    refine V.top (x' := (nI ((10 * a) + e))) (nI_add (10 * a) e) ?_
    refine V.zaldN dX10_isClash_52 rfl ⟨by decide, by decide⟩ (by first | assumption | decide | omega) (by decide) ?_
    refine V.top (x' := (b2i (hp a e = true))) (a1) ?_
    refine V.if_eq (tgt := 89) dX10_isClash_53 (by decide) (fun c53 => ?_) (fun q => absurd ((b2i_f pa)) q)
    refine V.iconst dX10_isClash_89 (v := 0) (by decide) ?_
    exact V.zret dX10_isClash_90 rfl (by first | exact Or.inl rfl | exact Or.inr rfl | assumption | exact b2i_zo _ | (repeat' split) <;> first | exact Or.inl rfl | exact Or.inr rfl | assumption | exact b2i_zo _) (hQ)
set_option maxHeartbeats 4000000 in
set_option maxRecDepth 100000 in
theorem l_co {g : GG} {d : Nat} {M : Mem} {Q : Option Value → Mem → Prop} {hp : Nat → Nat → Bool} {wy : Nat → Nat → Int32} {ne a b : Nat} (hA : HdX M hp wy ne a) (hB : HdX M hp wy ne b) (ha : a ≤ 8) (hb : b ≤ 8) (h10 : ne ≤ 10) {sh : Int32} (hne : M 84 104 = nI ne) (hQ : Q (some (.int (nI (cB (clP hp wy (M 84 101) a (M 84 (108 + 7 * a + 4) + sh) b (M 84 (108 + 7 * b + 4))) ne)))) M) : ∀ (k e : Nat), e + k = ne → V rS g (d + 2) mX10_clashesOf 6 [some (.ref 83), some (.int (nI a)), some (.int (nI b)), some (.int sh), some (.int (nI (cB (clP hp wy (M 84 101) a (M 84 (108 + 7 * a + 4) + sh) b (M 84 (108 + 7 * b + 4))) e))), some (.int (nI e))] [] M Q := by
  intro k
  induction k with
  | zero =>
    intro e hk
    obtain rfl : e = ne := by omega
    refine V.iload dX10_clashesOf_6 rfl ?_
    refine V.aload_n dX10_clashesOf_8 rfl (i := 0) rfl ?_
    refine V.getR dX10_clashesOf_9 rfl flRX10_7 rfl ⟨by decide, by decide⟩ ?_
    refine V.bipush dX10_clashesOf_12 (v := 104) (by decide) ?_
    refine V.top (x' := nI 104) (by decide) ?_
    refine V.ialdN dX10_clashesOf_14 rfl ⟨by decide, by decide⟩ (by first | assumption | decide | omega) (by decide) ?_
    refine V.top (x' := (nI e)) (hne) ?_
    refine V.ic_ge (tgt := 46) dX10_clashesOf_15 (by decide) (fun c15 => ?_) (fun q => absurd ((Int32.le_refl _)) q)
    refine V.iload dX10_clashesOf_46 rfl ?_
    exact V.ret dX10_clashesOf_48 rfl (hQ)
  | succ k ih =>
    intro e hk
    refine V.iload dX10_clashesOf_6 rfl ?_
    refine V.aload_n dX10_clashesOf_8 rfl (i := 0) rfl ?_
    refine V.getR dX10_clashesOf_9 rfl flRX10_7 rfl ⟨by decide, by decide⟩ ?_
    refine V.bipush dX10_clashesOf_12 (v := 104) (by decide) ?_
    refine V.top (x' := nI 104) (by decide) ?_
    refine V.ialdN dX10_clashesOf_14 rfl ⟨by decide, by decide⟩ (by first | assumption | decide | omega) (by decide) ?_
    refine V.top (x' := (nI ne)) (hne) ?_
    refine V.ic_ge (tgt := 46) dX10_clashesOf_15 (by decide) (fun q => absurd q ((nI_ge (a := e) (b := ne) (by omega) (by omega)))) (fun c15 => ?_)
    refine V.iload dX10_clashesOf_18 rfl ?_
    refine V.aload_n dX10_clashesOf_20 rfl (i := 0) rfl ?_
    refine V.iload_n dX10_clashesOf_21 rfl (i := 1) rfl ?_
    refine V.iload_n dX10_clashesOf_22 rfl (i := 2) rfl ?_
    refine V.iload dX10_clashesOf_23 rfl ?_
    refine V.iload_n dX10_clashesOf_25 rfl (i := 3) rfl ?_
    refine V.invv (z := mX10_isClash) (As := [_, _, _, _]) dX10_clashesOf_26 rfl mlRX10_231 okX10_isClash npX10_isClash rfl rfl rfl ⟨by decide, by decide⟩ (Nat.le_of_ble_eq_true rfl) rfl (Nat.le_of_ble_eq_true rfl) (c_isClash hA hB ha hb h10 (by omega) ?_)
    show V rS g (d + 2) mX10_clashesOf 29 [some (.ref 83), some (.int (nI a)), some (.int (nI b)), some (.int sh), some (.int (nI (cB (clP hp wy (M 84 101) a (M 84 (108 + 7 * a + 4) + sh) b (M 84 (108 + 7 * b + 4))) e))), some (.int (nI e))] [.int (b2i ((clP hp wy (M 84 101) a (M 84 (108 + 7 * a + 4) + sh) b (M 84 (108 + 7 * b + 4))) e = true)), .int (nI (cB (clP hp wy (M 84 101) a (M 84 (108 + 7 * a + 4) + sh) b (M 84 (108 + 7 * b + 4))) e))] M Q
    suffices kJ29 : V rS g (d + 2) mX10_clashesOf 37 [some (.ref 83), some (.int (nI a)), some (.int (nI b)), some (.int sh), some (.int (nI (cB (clP hp wy (M 84 101) a (M 84 (108 + 7 * a + 4) + sh) b (M 84 (108 + 7 * b + 4))) e))), some (.int (nI e))] [.int (if (b2i ((clP hp wy (M 84 101) a (M 84 (108 + 7 * a + 4) + sh) b (M 84 (108 + 7 * b + 4))) e = true)) = (0 : Int32) then (0 : Int32) else (1 : Int32)), .int (nI (cB (clP hp wy (M 84 101) a (M 84 (108 + 7 * a + 4) + sh) b (M 84 (108 + 7 * b + 4))) e))] M Q by
      refine V.if_eq (tgt := 36) dX10_clashesOf_29 (by decide) (fun c29 => ?_) (fun c29 => ?_)
      · refine V.iconst dX10_clashesOf_36 (v := 0) (by decide) ?_
        rw [if_pos c29] at kJ29; exact kJ29
      · refine V.iconst dX10_clashesOf_32 (v := 1) (by decide) ?_
        refine V.goto dX10_clashesOf_33 (tgt := 37) (by decide) ?_
        rw [if_neg c29] at kJ29; exact kJ29
    refine V.iadd dX10_clashesOf_37 ?_
    refine V.top (x' := (nI (cB (clP hp wy (M 84 101) a (M 84 (108 + 7 * a + 4) + sh) b (M 84 (108 + 7 * b + 4))) (e + 1)))) (nI_b2i) ?_
    refine V.istore dX10_clashesOf_38 (i := 4) (by decide) (fun _ h => by cases h; exact Or.inl rfl) rfl ?_
    refine V.iinc dX10_clashesOf_40 rfl (v := (nI (e + 1))) (nI_1 _) (by decide) (fun _ h => by cases h; exact Or.inl rfl) rfl ?_
    refine V.goto dX10_clashesOf_43 (tgt := 6) (by decide) ?_
    exact ih (e + 1) (by omega)
set_option maxHeartbeats 4000000 in
set_option maxRecDepth 100000 in
theorem c_clsOf {g : GG} {d : Nat} {M : Mem} {Q : Option Value → Mem → Prop} {hp : Nat → Nat → Bool} {wy : Nat → Nat → Int32} {ne a b : Nat} (hA : HdX M hp wy ne a) (hB : HdX M hp wy ne b) (ha : a ≤ 8) (hb : b ≤ 8) (h10 : ne ≤ 10) {sh : Int32} (hne : M 84 104 = nI ne) (hQ : Q (some (.int (nI (cB (clP hp wy (M 84 101) a (M 84 (108 + 7 * a + 4) + sh) b (M 84 (108 + 7 * b + 4))) ne)))) M) : V rS g (d + 2) mX10_clashesOf 0 [some (.ref 83), some (.int (nI a)), some (.int (nI b)), some (.int sh), none, none] [] M Q := by
  refine V.iconst dX10_clashesOf_0 (v := 0) (by decide) ?_
  refine V.istore dX10_clashesOf_1 (i := 4) (by decide) (fun _ h => by cases h; exact Or.inl rfl) rfl ?_
  refine V.iconst dX10_clashesOf_3 (v := 0) (by decide) ?_
  refine V.istore dX10_clashesOf_4 (i := 5) (by decide) (fun _ h => by cases h; exact Or.inl rfl) rfl ?_
  exact l_co hA hB ha hb h10 hne hQ ne 0 (by omega)
set_option maxHeartbeats 4000000 in
set_option maxRecDepth 100000 in
theorem l_c1 {g : GG} {d : Nat} {M : Mem} {Q : Option Value → Mem → Prop} {hp : Nat → Nat → Bool} {wy : Nat → Nat → Int32} {n ne : Nat} (hH : HdR M hp wy n ne) (hn : M 84 103 = nI n) (h8 : n ≤ 8) (hne : M 84 104 = nI ne) (h10 : ne ≤ 10) {a : Nat} {sh : Int32} (hA : HdX M hp wy ne a) (ha : a ≤ 8) (hQ : Q (some (.int (ccS hp wy (M 84 101) (offR M) n ne a sh))) M) : ∀ (k b : Nat), b + k = n → V rS g (d + 3) mX10_clashesOfOne 5 [some (.ref 83), some (.int (nI a)), some (.int sh), some (.int (sI (fun b => if b = a then 0 else nI (cB (clP hp wy (M 84 101) a (M 84 (108 + 7 * a + 4) + sh) b (M 84 (108 + 7 * b + 4))) ne)) b)), some (.int (nI b))] [] M Q := by
  intro k
  induction k with
  | zero =>
    intro b hk
    obtain rfl : b = n := by omega
    refine V.iload dX10_clashesOfOne_5 rfl ?_
    refine V.aload_n dX10_clashesOfOne_7 rfl (i := 0) rfl ?_
    refine V.getR dX10_clashesOfOne_8 rfl flRX10_7 rfl ⟨by decide, by decide⟩ ?_
    refine V.bipush dX10_clashesOfOne_11 (v := 103) (by decide) ?_
    refine V.top (x' := nI 103) (by decide) ?_
    refine V.ialdN dX10_clashesOfOne_13 rfl ⟨by decide, by decide⟩ (by first | assumption | decide | omega) (by decide) ?_
    refine V.top (x' := (nI b)) (hn) ?_
    refine V.ic_ge (tgt := 44) dX10_clashesOfOne_14 (by decide) (fun c14 => ?_) (fun q => absurd ((Int32.le_refl _)) q)
    refine V.iload_n dX10_clashesOfOne_44 rfl (i := 3) rfl ?_
    exact V.ret dX10_clashesOfOne_45 rfl (hQ)
  | succ k ih =>
    intro b hk
    by_cases hq : b = a
    · have e1 : sI (fun b => if b = a then 0 else nI (cB (clP hp wy (M 84 101) a (M 84 (108 + 7 * a + 4) + sh) b (M 84 (108 + 7 * b + 4))) ne)) b + 0 = sI (fun b => if b = a then 0 else nI (cB (clP hp wy (M 84 101) a (M 84 (108 + 7 * a + 4) + sh) b (M 84 (108 + 7 * b + 4))) ne)) (b + 1) := by rw [sI, if_pos hq]
      refine V.iload dX10_clashesOfOne_5 rfl ?_
      refine V.aload_n dX10_clashesOfOne_7 rfl (i := 0) rfl ?_
      refine V.getR dX10_clashesOfOne_8 rfl flRX10_7 rfl ⟨by decide, by decide⟩ ?_
      refine V.bipush dX10_clashesOfOne_11 (v := 103) (by decide) ?_
      refine V.top (x' := nI 103) (by decide) ?_
      refine V.ialdN dX10_clashesOfOne_13 rfl ⟨by decide, by decide⟩ (by first | assumption | decide | omega) (by decide) ?_
      refine V.top (x' := (nI n)) (hn) ?_
      refine V.ic_ge (tgt := 44) dX10_clashesOfOne_14 (by decide) (fun q => absurd q ((nI_ge (a := b) (b := n) (by omega) (by omega)))) (fun c14 => ?_)
      refine V.iload_n dX10_clashesOfOne_17 rfl (i := 3) rfl ?_
      refine V.iload dX10_clashesOfOne_18 rfl ?_
      refine V.iload_n dX10_clashesOfOne_20 rfl (i := 1) rfl ?_
      refine V.ic_ne (tgt := 28) dX10_clashesOfOne_21 (by decide) (fun q => absurd ((by rw [hq])) q) (fun c21 => ?_)
      refine V.iconst dX10_clashesOfOne_24 (v := 0) (by decide) ?_
      refine V.goto dX10_clashesOfOne_25 (tgt := 36) (by decide) ?_
      refine V.iadd dX10_clashesOfOne_36 ?_
      refine V.top (x' := (sI (fun b => if b = a then 0 else nI (cB (clP hp wy (M 84 101) a (M 84 (108 + 7 * a + 4) + sh) b (M 84 (108 + 7 * b + 4))) ne)) (b + 1))) (e1) ?_
      refine V.istore_n dX10_clashesOfOne_37 rfl (i := 3) (by decide) (fun _ h => by cases h; exact Or.inl rfl) rfl ?_
      refine V.iinc dX10_clashesOfOne_38 rfl (v := (nI (b + 1))) (nI_1 _) (by decide) (fun _ h => by cases h; exact Or.inl rfl) rfl ?_
      refine V.goto dX10_clashesOfOne_41 (tgt := 5) (by decide) ?_
      exact ih (b + 1) (by omega)
    · have e1 : sI (fun b => if b = a then 0 else nI (cB (clP hp wy (M 84 101) a (M 84 (108 + 7 * a + 4) + sh) b (M 84 (108 + 7 * b + 4))) ne)) b + nI (cB (clP hp wy (M 84 101) a (M 84 (108 + 7 * a + 4) + sh) b (M 84 (108 + 7 * b + 4))) ne) = sI (fun b => if b = a then 0 else nI (cB (clP hp wy (M 84 101) a (M 84 (108 + 7 * a + 4) + sh) b (M 84 (108 + 7 * b + 4))) ne)) (b + 1) := by rw [sI, if_neg hq]
      refine V.iload dX10_clashesOfOne_5 rfl ?_
      refine V.aload_n dX10_clashesOfOne_7 rfl (i := 0) rfl ?_
      refine V.getR dX10_clashesOfOne_8 rfl flRX10_7 rfl ⟨by decide, by decide⟩ ?_
      refine V.bipush dX10_clashesOfOne_11 (v := 103) (by decide) ?_
      refine V.top (x' := nI 103) (by decide) ?_
      refine V.ialdN dX10_clashesOfOne_13 rfl ⟨by decide, by decide⟩ (by first | assumption | decide | omega) (by decide) ?_
      refine V.top (x' := (nI n)) (hn) ?_
      refine V.ic_ge (tgt := 44) dX10_clashesOfOne_14 (by decide) (fun q => absurd q ((nI_ge (a := b) (b := n) (by omega) (by omega)))) (fun c14 => ?_)
      refine V.iload_n dX10_clashesOfOne_17 rfl (i := 3) rfl ?_
      refine V.iload dX10_clashesOfOne_18 rfl ?_
      refine V.iload_n dX10_clashesOfOne_20 rfl (i := 1) rfl ?_
      refine V.ic_ne (tgt := 28) dX10_clashesOfOne_21 (by decide) (fun c21 => ?_) (fun q => absurd q ((fun z => hq ((nI_eq (by omega) (by omega)).mp z))))
      refine V.aload_n dX10_clashesOfOne_28 rfl (i := 0) rfl ?_
      refine V.iload_n dX10_clashesOfOne_29 rfl (i := 1) rfl ?_
      refine V.iload dX10_clashesOfOne_30 rfl ?_
      refine V.iload_n dX10_clashesOfOne_32 rfl (i := 2) rfl ?_
      refine V.invv (z := mX10_clashesOf) (As := [_, _, _]) dX10_clashesOfOne_33 rfl mlRX10_235 okX10_clashesOf npX10_clashesOf rfl rfl rfl ⟨by decide, by decide⟩ (Nat.le_of_ble_eq_true rfl) rfl (Nat.le_of_ble_eq_true rfl) (c_clsOf hA (hH.x (by omega)) ha (by omega) h10 hne ?_)
      show V rS g (d + 3) mX10_clashesOfOne 36 [some (.ref 83), some (.int (nI a)), some (.int sh), some (.int (sI (fun b => if b = a then 0 else nI (cB (clP hp wy (M 84 101) a (M 84 (108 + 7 * a + 4) + sh) b (M 84 (108 + 7 * b + 4))) ne)) b)), some (.int (nI b))] [.int (nI (cB (clP hp wy (M 84 101) a (M 84 (108 + 7 * a + 4) + sh) b (M 84 (108 + 7 * b + 4))) ne)), .int (sI (fun b => if b = a then 0 else nI (cB (clP hp wy (M 84 101) a (M 84 (108 + 7 * a + 4) + sh) b (M 84 (108 + 7 * b + 4))) ne)) b)] M Q
      refine V.iadd dX10_clashesOfOne_36 ?_
      refine V.top (x' := (sI (fun b => if b = a then 0 else nI (cB (clP hp wy (M 84 101) a (M 84 (108 + 7 * a + 4) + sh) b (M 84 (108 + 7 * b + 4))) ne)) (b + 1))) (e1) ?_
      refine V.istore_n dX10_clashesOfOne_37 rfl (i := 3) (by decide) (fun _ h => by cases h; exact Or.inl rfl) rfl ?_
      refine V.iinc dX10_clashesOfOne_38 rfl (v := (nI (b + 1))) (nI_1 _) (by decide) (fun _ h => by cases h; exact Or.inl rfl) rfl ?_
      refine V.goto dX10_clashesOfOne_41 (tgt := 5) (by decide) ?_
      exact ih (b + 1) (by omega)
set_option maxHeartbeats 4000000 in
set_option maxRecDepth 100000 in
theorem c_c1 {g : GG} {d : Nat} {M : Mem} {Q : Option Value → Mem → Prop} {hp : Nat → Nat → Bool} {wy : Nat → Nat → Int32} {n ne : Nat} (hH : HdR M hp wy n ne) (hn : M 84 103 = nI n) (h8 : n ≤ 8) (hne : M 84 104 = nI ne) (h10 : ne ≤ 10) {a : Nat} {sh : Int32} (hA : HdX M hp wy ne a) (ha : a ≤ 8) (hQ : Q (some (.int (ccS hp wy (M 84 101) (offR M) n ne a sh))) M) : V rS g (d + 3) mX10_clashesOfOne 0 [some (.ref 83), some (.int (nI a)), some (.int sh), none, none] [] M Q := by
  refine V.iconst dX10_clashesOfOne_0 (v := 0) (by decide) ?_
  refine V.istore_n dX10_clashesOfOne_1 rfl (i := 3) (by decide) (fun _ h => by cases h; exact Or.inl rfl) rfl ?_
  refine V.iconst dX10_clashesOfOne_2 (v := 0) (by decide) ?_
  refine V.istore dX10_clashesOfOne_3 (i := 4) (by decide) (fun _ h => by cases h; exact Or.inl rfl) rfl ?_
  exact l_c1 hH hn h8 hne h10 hA ha hQ n 0 (by omega)
set_option maxHeartbeats 4000000 in
set_option maxRecDepth 100000 in
theorem l_ca {g : GG} {d : Nat} {M : Mem} {Q : Option Value → Mem → Prop} {hp : Nat → Nat → Bool} {wy : Nat → Nat → Int32} {n ne : Nat} (hH : HdR M hp wy n ne) (hn : M 84 103 = nI n) (h8 : n ≤ 8) (hne : M 84 104 = nI ne) (h10 : ne ≤ 10) {h : Int32} (hQ : Q (some (.int (sI (fun a => ccF hp wy (M 84 101) (offR M) n ne a) n / 2))) M) : ∀ (k b : Nat), b + k = n → V rS g (d + 4) mX10_clashesAt 9 [some (.ref 83), some (.int h), some (.int (sI (fun a => ccF hp wy (M 84 101) (offR M) n ne a) b)), some (.int (nI b))] [] M Q := by
  intro k
  induction k with
  | zero =>
    intro b hk
    obtain rfl : b = n := by omega
    refine V.iload_n dX10_clashesAt_9 rfl (i := 3) rfl ?_
    refine V.aload_n dX10_clashesAt_10 rfl (i := 0) rfl ?_
    refine V.getR dX10_clashesAt_11 rfl flRX10_7 rfl ⟨by decide, by decide⟩ ?_
    refine V.bipush dX10_clashesAt_14 (v := 103) (by decide) ?_
    refine V.top (x' := nI 103) (by decide) ?_
    refine V.ialdN dX10_clashesAt_16 rfl ⟨by decide, by decide⟩ (by first | assumption | decide | omega) (by decide) ?_
    refine V.top (x' := (nI b)) (hn) ?_
    refine V.ic_ge (tgt := 35) dX10_clashesAt_17 (by decide) (fun c17 => ?_) (fun q => absurd ((Int32.le_refl _)) q)
    refine V.iload_n dX10_clashesAt_35 rfl (i := 2) rfl ?_
    refine V.iconst dX10_clashesAt_36 (v := 2) (by decide) ?_
    refine V.idiv dX10_clashesAt_37 (by decide) ?_
    exact V.ret dX10_clashesAt_38 rfl (hQ)
  | succ k ih =>
    intro b hk
    refine V.iload_n dX10_clashesAt_9 rfl (i := 3) rfl ?_
    refine V.aload_n dX10_clashesAt_10 rfl (i := 0) rfl ?_
    refine V.getR dX10_clashesAt_11 rfl flRX10_7 rfl ⟨by decide, by decide⟩ ?_
    refine V.bipush dX10_clashesAt_14 (v := 103) (by decide) ?_
    refine V.top (x' := nI 103) (by decide) ?_
    refine V.ialdN dX10_clashesAt_16 rfl ⟨by decide, by decide⟩ (by first | assumption | decide | omega) (by decide) ?_
    refine V.top (x' := (nI n)) (hn) ?_
    refine V.ic_ge (tgt := 35) dX10_clashesAt_17 (by decide) (fun q => absurd q ((nI_ge (a := b) (b := n) (by omega) (by omega)))) (fun c17 => ?_)
    refine V.iload_n dX10_clashesAt_20 rfl (i := 2) rfl ?_
    refine V.aload_n dX10_clashesAt_21 rfl (i := 0) rfl ?_
    refine V.iload_n dX10_clashesAt_22 rfl (i := 3) rfl ?_
    refine V.iconst dX10_clashesAt_23 (v := 0) (by decide) ?_
    refine V.invv (z := mX10_clashesOfOne) (As := [_, _]) dX10_clashesAt_24 rfl mlRX10_242 okX10_clashesOfOne npX10_clashesOfOne rfl rfl rfl ⟨by decide, by decide⟩ (Nat.le_of_ble_eq_true rfl) rfl (Nat.le_of_ble_eq_true rfl) (c_c1 hH hn h8 hne h10 (hH.x (by omega)) (by omega) ?_)
    show V rS g (d + 4) mX10_clashesAt 27 [some (.ref 83), some (.int h), some (.int (sI (fun a => ccF hp wy (M 84 101) (offR M) n ne a) b)), some (.int (nI b))] [.int (ccS hp wy (M 84 101) (offR M) n ne b 0), .int (sI (fun a => ccF hp wy (M 84 101) (offR M) n ne a) b)] M Q
    refine V.top (x' := (ccF hp wy (M 84 101) (offR M) n ne b)) (ccS_0) ?_
    refine V.iadd dX10_clashesAt_27 ?_
    refine V.istore_n dX10_clashesAt_28 rfl (i := 2) (by decide) (fun _ h => by cases h; exact Or.inl rfl) rfl ?_
    refine V.iinc dX10_clashesAt_29 rfl (v := (nI (b + 1))) (nI_1 _) (by decide) (fun _ h => by cases h; exact Or.inl rfl) rfl ?_
    refine V.goto dX10_clashesAt_32 (tgt := 9) (by decide) ?_
    exact ih (b + 1) (by omega)
/-- the clashes at an hour -/
def caR (S : List Int32) (M : Mem) (n ne : Nat) (h : Int32) : Int32 := (sI (fun a => ccF (hpR S M h) (wyR M) (M 84 101) (offR M) n ne a) n / 2)
theorem caR_eq {S : List Int32} {M M' : Mem} {n ne : Nat} {h : Int32} (e : M' 84 = M 84) : caR S M' n ne h = caR S M n ne h := by unfold caR offR; rw [hpR_eq e, wyR_eq e, e]

set_option maxHeartbeats 4000000 in
set_option maxRecDepth 100000 in
theorem c_ca {g : GG} {d : Nat} {M : Mem} {Q : Option Value → Mem → Prop} {S : List Int32} {n ne : Nat} {h : Int32} (hV : VR S M n ne) (hQ : ∀ M', KpH M M' → HdR M' (hpR S M h) (wyR M) n ne → Q (some (.int (caR S M n ne h))) M') : V rS g (d + 66) mX10_clashesAt 0 [some (.ref 83), some (.int h), none, none] [] M Q := by
  refine V.aload_n dX10_clashesAt_0 rfl (i := 0) rfl ?_
  refine V.iload_n dX10_clashesAt_1 rfl (i := 1) rfl ?_
  refine V.invv (z := mX10_hearsAll) (As := [_]) dX10_clashesAt_2 rfl mlRX10_238 okX10_hearsAll npX10_hearsAll rfl rfl rfl ⟨by decide, by decide⟩ (Nat.le_of_ble_eq_true rfl) rfl (Nat.le_of_ble_eq_true rfl) (c_all hV (fun M1 hM1 hH1 => ?_))
  show V rS g (d + 66) mX10_clashesAt 5 [some (.ref 83), some (.int h), none, none] [] M1 Q
  refine V.iconst dX10_clashesAt_5 (v := 0) (by decide) ?_
  refine V.istore_n dX10_clashesAt_6 rfl (i := 2) (by decide) (fun _ h => by cases h; exact Or.inl rfl) rfl ?_
  refine V.iconst dX10_clashesAt_7 (v := 0) (by decide) ?_
  refine V.istore_n dX10_clashesAt_8 rfl (i := 3) (by decide) (fun _ h => by cases h; exact Or.inl rfl) rfl ?_
  refine l_ca (d := d + 62) hH1 (hV.eq hM1.d).1 hV.2.1 (hV.eq hM1.d).2.2.1 hV.2.2.2.1 ?_ n 0 (by omega)
  have := hQ M1 hM1 hH1
  unfold caR at this
  unfold offR at this ⊢
  rw [hM1.d]
  exact this
theorem cl_z {hp : Nat → Nat → Bool} {wy : Nat → Nat → Int32} {br : Int32} {off : Nat → Int32} {a b e : Nat} : clP hp wy br a (off a + 0) b (off b) e = cl2 hp wy br off a b e := by unfold cl2; rw [Int32.add_zero]

set_option maxHeartbeats 4000000 in
set_option maxRecDepth 100000 in
theorem l_fe {g : GG} {d : Nat} {M : Mem} {Q : Option Value → Mem → Prop} {hp : Nat → Nat → Bool} {wy : Nat → Nat → Int32} {n ne : Nat} (hH : HdR M hp wy n ne) (hn : M 84 103 = nI n) (h8 : n ≤ 8) (hne : M 84 104 = nI ne) (h10 : ne ≤ 10) {a b : Nat} (ha : a < n) (hb : b < n) (hy : fst ((cl2 hp wy (M 84 101) (offR M)) a b) ne < ne → Q (some (.int (nI (10000 * a + 100 * b + fst ((cl2 hp wy (M 84 101) (offR M)) a b) ne)))) M) (hc : ¬ fst ((cl2 hp wy (M 84 101) (offR M)) a b) ne < ne → V rS g (d + 2) mX10_firstClash 71 [some (.ref 83), some (.int (nI a)), some (.int (nI b)), none] [] M Q) : ∀ (k e : Nat), e + k = ne → (∀ j, j < e → (cl2 hp wy (M 84 101) (offR M)) a b j = false) → V rS g (d + 2) mX10_firstClash 30 [some (.ref 83), some (.int (nI a)), some (.int (nI b)), some (.int (nI e))] [] M Q := by
  intro k
  induction k with
  | zero =>
    intro e hk hj
    obtain rfl : e = ne := by omega
    refine V.iload_n dX10_firstClash_30 rfl (i := 3) rfl ?_
    refine V.aload_n dX10_firstClash_31 rfl (i := 0) rfl ?_
    refine V.getR dX10_firstClash_32 rfl flRX10_7 rfl ⟨by decide, by decide⟩ ?_
    refine V.bipush dX10_firstClash_35 (v := 104) (by decide) ?_
    refine V.top (x' := nI 104) (by decide) ?_
    refine V.ialdN dX10_firstClash_37 rfl ⟨by decide, by decide⟩ (by first | assumption | decide | omega) (by decide) ?_
    refine V.top (x' := (nI e)) (hne) ?_
    refine V.ic_ge (tgt := 71) dX10_firstClash_38 (by decide) (fun c38 => ?_) (fun q => absurd ((Int32.le_refl _)) q)
    exact V.fg (ls' := [some (.ref 83), some (.int (nI a)), some (.int (nI b)), none]) ⟨rfl, rfl, rfl, trivial⟩ (hc (fun z => by rw [fst_all hj] at z; omega))
  | succ k ih =>
    intro e hk hj
    by_cases hq : (cl2 hp wy (M 84 101) (offR M)) a b e = true
    · have hf : fst ((cl2 hp wy (M 84 101) (offR M)) a b) ne = e := fst_is (by omega) hq hj
      refine V.iload_n dX10_firstClash_30 rfl (i := 3) rfl ?_
      refine V.aload_n dX10_firstClash_31 rfl (i := 0) rfl ?_
      refine V.getR dX10_firstClash_32 rfl flRX10_7 rfl ⟨by decide, by decide⟩ ?_
      refine V.bipush dX10_firstClash_35 (v := 104) (by decide) ?_
      refine V.top (x' := nI 104) (by decide) ?_
      refine V.ialdN dX10_firstClash_37 rfl ⟨by decide, by decide⟩ (by first | assumption | decide | omega) (by decide) ?_
      refine V.top (x' := (nI ne)) (hne) ?_
      refine V.ic_ge (tgt := 71) dX10_firstClash_38 (by decide) (fun q => absurd q ((nI_ge (a := e) (b := ne) (by omega) (by omega)))) (fun c38 => ?_)
      refine V.aload_n dX10_firstClash_41 rfl (i := 0) rfl ?_
      refine V.iload_n dX10_firstClash_42 rfl (i := 1) rfl ?_
      refine V.iload_n dX10_firstClash_43 rfl (i := 2) rfl ?_
      refine V.iload_n dX10_firstClash_44 rfl (i := 3) rfl ?_
      refine V.iconst dX10_firstClash_45 (v := 0) (by decide) ?_
      refine V.invv (z := mX10_isClash) (As := [_, _, _, _]) dX10_firstClash_46 rfl mlRX10_231 okX10_isClash npX10_isClash rfl rfl rfl ⟨by decide, by decide⟩ (Nat.le_of_ble_eq_true rfl) rfl (Nat.le_of_ble_eq_true rfl) (c_isClash (hH.x ha) (hH.x hb) (by omega) (by omega) h10 (by omega) ?_)
      show V rS g (d + 2) mX10_firstClash 49 [some (.ref 83), some (.int (nI a)), some (.int (nI b)), some (.int (nI e))] [.int (b2i (clP hp wy (M 84 101) a (M 84 (108 + 7 * a + 4) + 0) b (M 84 (108 + 7 * b + 4)) e = true))] M Q
      refine V.if_eq (tgt := 65) dX10_firstClash_49 (by decide) (fun q => absurd q ((fun z => b2i_0.mp z ((cl_z (off := offR M)).trans hq)))) (fun c49 => ?_)
      refine V.sipush dX10_firstClash_52 (v := 10000) (by decide) ?_
      refine V.iload_n dX10_firstClash_55 rfl (i := 1) rfl ?_
      refine V.imul dX10_firstClash_56 ?_
      refine V.top (x' := (nI (10000 * a))) (pk_mul 10000 a) ?_
      refine V.bipush dX10_firstClash_57 (v := 100) (by decide) ?_
      refine V.iload_n dX10_firstClash_59 rfl (i := 2) rfl ?_
      refine V.imul dX10_firstClash_60 ?_
      refine V.top (x' := (nI (100 * b))) (pk_mul 100 b) ?_
      refine V.iadd dX10_firstClash_61 ?_
      refine V.top (x' := (nI ((10000 * a) + (100 * b)))) (nI_add (10000 * a) (100 * b)) ?_
      refine V.iload_n dX10_firstClash_62 rfl (i := 3) rfl ?_
      refine V.iadd dX10_firstClash_63 ?_
      refine V.top (x' := (nI (((10000 * a) + (100 * b)) + e))) (nI_add ((10000 * a) + (100 * b)) e) ?_
      exact V.ret dX10_firstClash_64 rfl (by rw [hf] at hy; exact hy (by omega))
    · skip
      refine V.iload_n dX10_firstClash_30 rfl (i := 3) rfl ?_
      refine V.aload_n dX10_firstClash_31 rfl (i := 0) rfl ?_
      refine V.getR dX10_firstClash_32 rfl flRX10_7 rfl ⟨by decide, by decide⟩ ?_
      refine V.bipush dX10_firstClash_35 (v := 104) (by decide) ?_
      refine V.top (x' := nI 104) (by decide) ?_
      refine V.ialdN dX10_firstClash_37 rfl ⟨by decide, by decide⟩ (by first | assumption | decide | omega) (by decide) ?_
      refine V.top (x' := (nI ne)) (hne) ?_
      refine V.ic_ge (tgt := 71) dX10_firstClash_38 (by decide) (fun q => absurd q ((nI_ge (a := e) (b := ne) (by omega) (by omega)))) (fun c38 => ?_)
      refine V.aload_n dX10_firstClash_41 rfl (i := 0) rfl ?_
      refine V.iload_n dX10_firstClash_42 rfl (i := 1) rfl ?_
      refine V.iload_n dX10_firstClash_43 rfl (i := 2) rfl ?_
      refine V.iload_n dX10_firstClash_44 rfl (i := 3) rfl ?_
      refine V.iconst dX10_firstClash_45 (v := 0) (by decide) ?_
      refine V.invv (z := mX10_isClash) (As := [_, _, _, _]) dX10_firstClash_46 rfl mlRX10_231 okX10_isClash npX10_isClash rfl rfl rfl ⟨by decide, by decide⟩ (Nat.le_of_ble_eq_true rfl) rfl (Nat.le_of_ble_eq_true rfl) (c_isClash (hH.x ha) (hH.x hb) (by omega) (by omega) h10 (by omega) ?_)
      show V rS g (d + 2) mX10_firstClash 49 [some (.ref 83), some (.int (nI a)), some (.int (nI b)), some (.int (nI e))] [.int (b2i (clP hp wy (M 84 101) a (M 84 (108 + 7 * a + 4) + 0) b (M 84 (108 + 7 * b + 4)) e = true))] M Q
      refine V.if_eq (tgt := 65) dX10_firstClash_49 (by decide) (fun c49 => ?_) (fun q => absurd ((b2i_f (fun z => hq ((cl_z (off := offR M)).symm.trans z)))) q)
      refine V.iinc dX10_firstClash_65 rfl (v := (nI (e + 1))) (nI_1 _) (by decide) (fun _ h => by cases h; exact Or.inl rfl) rfl ?_
      refine V.goto dX10_firstClash_68 (tgt := 30) (by decide) ?_
      exact ih (e + 1) (by omega) (fun j h => by by_cases z : j = e; subst z; exact Bool.eq_false_iff.mpr hq; exact hj j (by omega))
set_option maxHeartbeats 4000000 in
set_option maxRecDepth 100000 in
theorem l_fR {g : GG} {d : Nat} {M : Mem} {Q : Option Value → Mem → Prop} {hp : Nat → Nat → Bool} {wy : Nat → Nat → Int32} {n ne : Nat} (hH : HdR M hp wy n ne) (hn : M 84 103 = nI n) (h8 : n ≤ 8) (hne : M 84 104 = nI ne) (h10 : ne ≤ 10) {a : Nat} (ha : a < n) : ∀ (k b : Nat) (l3 : Option Value), b + k = n → (∀ v, fcR (cl2 hp wy (M 84 101) (offR M)) ne a k b = some v → Q (some (.int v)) M) → (fcR (cl2 hp wy (M 84 101) (offR M)) ne a k b = none → V rS g (d + 2) mX10_firstClash 77 [some (.ref 83), some (.int (nI a)), none, none] [] M Q) → V rS g (d + 2) mX10_firstClash 17 [some (.ref 83), some (.int (nI a)), some (.int (nI b)), l3] [] M Q := by
  intro k
  induction k with
  | zero =>
    intro b l3 hk hs hc
    obtain rfl : b = n := by omega
    refine V.fg (ls' := [some (.ref 83), some (.int (nI a)), some (.int (nI b)), none]) ⟨rfl, rfl, rfl, trivial⟩ ?_
    refine V.iload_n dX10_firstClash_17 rfl (i := 2) rfl ?_
    refine V.aload_n dX10_firstClash_18 rfl (i := 0) rfl ?_
    refine V.getR dX10_firstClash_19 rfl flRX10_7 rfl ⟨by decide, by decide⟩ ?_
    refine V.bipush dX10_firstClash_22 (v := 103) (by decide) ?_
    refine V.top (x' := nI 103) (by decide) ?_
    refine V.ialdN dX10_firstClash_24 rfl ⟨by decide, by decide⟩ (by first | assumption | decide | omega) (by decide) ?_
    refine V.top (x' := (nI b)) (hn) ?_
    refine V.ic_ge (tgt := 77) dX10_firstClash_25 (by decide) (fun c25 => ?_) (fun q => absurd ((Int32.le_refl _)) q)
    exact V.fg (ls' := [some (.ref 83), some (.int (nI a)), none, none]) ⟨rfl, rfl, trivial⟩ (hc rfl)
  | succ k ih =>
    intro b l3 hk hs hc
    refine V.fg (ls' := [some (.ref 83), some (.int (nI a)), some (.int (nI b)), none]) ⟨rfl, rfl, rfl, trivial⟩ ?_
    refine V.iload_n dX10_firstClash_17 rfl (i := 2) rfl ?_
    refine V.aload_n dX10_firstClash_18 rfl (i := 0) rfl ?_
    refine V.getR dX10_firstClash_19 rfl flRX10_7 rfl ⟨by decide, by decide⟩ ?_
    refine V.bipush dX10_firstClash_22 (v := 103) (by decide) ?_
    refine V.top (x' := nI 103) (by decide) ?_
    refine V.ialdN dX10_firstClash_24 rfl ⟨by decide, by decide⟩ (by first | assumption | decide | omega) (by decide) ?_
    refine V.top (x' := (nI n)) (hn) ?_
    refine V.ic_ge (tgt := 77) dX10_firstClash_25 (by decide) (fun q => absurd q ((nI_ge (a := b) (b := n) (by omega) (by omega)))) (fun c25 => ?_)
    refine V.iconst dX10_firstClash_28 (v := 0) (by decide) ?_
    refine V.istore_n dX10_firstClash_29 rfl (i := 3) (by decide) (fun _ h => by cases h; exact Or.inl rfl) rfl ?_
    refine l_fe hH hn h8 hne h10 ha (show b < n by omega) (fun hf => hs _ (by rw [fcR, if_pos hf])) (fun hf => ?_) ne 0 (by omega) (fun j hj => absurd hj (Nat.not_lt_zero _))
    refine V.iinc dX10_firstClash_71 rfl (v := (nI (b + 1))) (nI_1 _) (by decide) (fun _ h => by cases h; exact Or.inl rfl) rfl ?_
    refine V.goto dX10_firstClash_74 (tgt := 17) (by decide) ?_
    exact ih (b + 1) _ (by omega) (fun v hv => hs v (by rw [fcR, if_neg hf]; exact hv)) (fun hv => hc (by rw [fcR, if_neg hf]; exact hv))
set_option maxHeartbeats 4000000 in
set_option maxRecDepth 100000 in
theorem l_fA {g : GG} {d : Nat} {M : Mem} {Q : Option Value → Mem → Prop} {hp : Nat → Nat → Bool} {wy : Nat → Nat → Int32} {n ne : Nat} (hH : HdR M hp wy n ne) (hn : M 84 103 = nI n) (h8 : n ≤ 8) (hne : M 84 104 = nI ne) (h10 : ne ≤ 10) : ∀ (k a : Nat) (l2 l3 : Option Value), a + k = n → Q (some (.int (fcA (cl2 hp wy (M 84 101) (offR M)) n ne k a))) M → V rS g (d + 2) mX10_firstClash 2 [some (.ref 83), some (.int (nI a)), l2, l3] [] M Q := by
  intro k
  induction k with
  | zero =>
    intro a l2 l3 hk hQ
    obtain rfl : a = n := by omega
    refine V.fg (ls' := [some (.ref 83), some (.int (nI a)), none, none]) ⟨rfl, rfl, trivial⟩ ?_
    refine V.iload_n dX10_firstClash_2 rfl (i := 1) rfl ?_
    refine V.aload_n dX10_firstClash_3 rfl (i := 0) rfl ?_
    refine V.getR dX10_firstClash_4 rfl flRX10_7 rfl ⟨by decide, by decide⟩ ?_
    refine V.bipush dX10_firstClash_7 (v := 103) (by decide) ?_
    refine V.top (x' := nI 103) (by decide) ?_
    refine V.ialdN dX10_firstClash_9 rfl ⟨by decide, by decide⟩ (by first | assumption | decide | omega) (by decide) ?_
    refine V.top (x' := (nI a)) (hn) ?_
    refine V.ic_ge (tgt := 83) dX10_firstClash_10 (by decide) (fun c10 => ?_) (fun q => absurd ((Int32.le_refl _)) q)
    refine V.iconst dX10_firstClash_83 (v := (-1)) (by decide) ?_
    exact V.ret dX10_firstClash_84 rfl (hQ)
  | succ k ih =>
    intro a l2 l3 hk hQ
    refine V.fg (ls' := [some (.ref 83), some (.int (nI a)), none, none]) ⟨rfl, rfl, trivial⟩ ?_
    refine V.iload_n dX10_firstClash_2 rfl (i := 1) rfl ?_
    refine V.aload_n dX10_firstClash_3 rfl (i := 0) rfl ?_
    refine V.getR dX10_firstClash_4 rfl flRX10_7 rfl ⟨by decide, by decide⟩ ?_
    refine V.bipush dX10_firstClash_7 (v := 103) (by decide) ?_
    refine V.top (x' := nI 103) (by decide) ?_
    refine V.ialdN dX10_firstClash_9 rfl ⟨by decide, by decide⟩ (by first | assumption | decide | omega) (by decide) ?_
    refine V.top (x' := (nI n)) (hn) ?_
    refine V.ic_ge (tgt := 83) dX10_firstClash_10 (by decide) (fun q => absurd q ((nI_ge (a := a) (b := n) (by omega) (by omega)))) (fun c10 => ?_)
    refine V.iload_n dX10_firstClash_13 rfl (i := 1) rfl ?_
    refine V.iconst dX10_firstClash_14 (v := 1) (by decide) ?_
    refine V.iadd dX10_firstClash_15 ?_
    refine V.top (x' := (nI (a + 1))) (nI_add a 1) ?_
    refine V.istore_n dX10_firstClash_16 rfl (i := 2) (by decide) (fun _ h => by cases h; exact Or.inl rfl) rfl ?_
    refine l_fR hH hn h8 hne h10 (show a < n by omega) (n - (a + 1)) (a + 1) _ (by omega) (fun v hv => by rw [fcA, hv] at hQ; exact hQ) (fun hv => ?_)
    rw [fcA, hv] at hQ
    refine V.iinc dX10_firstClash_77 rfl (v := (nI (a + 1))) (nI_1 _) (by decide) (fun _ h => by cases h; exact Or.inl rfl) rfl ?_
    refine V.goto dX10_firstClash_80 (tgt := 2) (by decide) ?_
    exact ih (a + 1) _ _ (by omega) hQ
set_option maxHeartbeats 4000000 in
set_option maxRecDepth 100000 in
theorem c_fcR {g : GG} {d : Nat} {M : Mem} {Q : Option Value → Mem → Prop} {hp : Nat → Nat → Bool} {wy : Nat → Nat → Int32} {n ne : Nat} (hH : HdR M hp wy n ne) (hn : M 84 103 = nI n) (h8 : n ≤ 8) (hne : M 84 104 = nI ne) (h10 : ne ≤ 10) (hQ : Q (some (.int (fcF (cl2 hp wy (M 84 101) (offR M)) n ne))) M) : V rS g (d + 2) mX10_firstClash 0 [some (.ref 83), none, none, none] [] M Q := by
  refine V.iconst dX10_firstClash_0 (v := 0) (by decide) ?_
  refine V.istore_n dX10_firstClash_1 rfl (i := 1) (by decide) (fun _ h => by cases h; exact Or.inl rfl) rfl ?_
  exact l_fA hH hn h8 hne h10 n 0 _ _ (by omega) hQ
set_option maxHeartbeats 4000000 in
set_option maxRecDepth 100000 in
theorem c10_clashes {g : GG} {d : Nat} {M : Mem} {Q : Option Value → Mem → Prop} {a w : Int32} {S : List Int32} {n ne : Nat} (hV : VR S M n ne) (hbad : ¬ ((0 ≤ a ∧ a ≤ 23) ∧ 0 ≤ w ∧ w ≤ 1) → Q (some (.int (-1000000001))) (put M 87 1 (M 87 1 + 1))) (hok : ((0 ≤ a ∧ a ≤ 23) ∧ 0 ≤ w ∧ w ≤ 1) → ∀ M', KpH M M' → Q (some (.int (if w = 0 then caR S M n ne a else (fcF (cl2 (hpR S M a) (wyR M) (M 84 101) (offR M)) n ne)))) M') : V rS g (d + 67) mX10_clashes 0 [some (.ref 83), some (.int a), some (.int w), none] [] M Q := by
  by_cases h : ((0 ≤ a ∧ a ≤ 23) ∧ 0 ≤ w ∧ w ≤ 1)
  · skip
    refine V.iload_n dX10_clashes_0 rfl (i := 1) rfl ?_
    refine V.invs (z := mX10_isHour) (As := [_]) dX10_clashes_1 rfl mlRX10_191 okX10_isHour npX10_isHour rfl (Nat.le_of_ble_eq_true rfl) rfl (Nat.le_of_ble_eq_true rfl) (c_hourR   ?_)
    show V rS g (d + 67) mX10_clashes 4 [some (.ref 83), some (.int a), some (.int w), none] [.int (b2i (0 ≤ a ∧ a ≤ 23))] (M) Q
    refine V.if_eq (tgt := 17) dX10_clashes_4 (by decide) (fun q => absurd q ((fun z => b2i_0.mp z h.1))) (fun c4 => ?_)
    refine V.iload_n dX10_clashes_7 rfl (i := 2) rfl ?_
    refine V.i2l dX10_clashes_8 ?_
    refine V.lconst dX10_clashes_9 (v := 0) (by decide) ?_
    refine V.lconst dX10_clashes_10 (v := 1) (by decide) ?_
    refine V.invs (z := mX10_in) (As := [_, _, _]) dX10_clashes_11 rfl mlRX10_66 okX10_in npX10_in rfl (Nat.le_of_ble_eq_true rfl) rfl (Nat.le_of_ble_eq_true rfl) (c_in32 (v := w) (lo := (0 : Int32)) (hi := (1 : Int32)) (by first | rfl | decide) (by first | rfl | decide)   ?_)
    show V rS g (d + 67) mX10_clashes 14 [some (.ref 83), some (.int a), some (.int w), none] [.int (b2i ((0 : Int32) ≤ w ∧ w ≤ (1 : Int32)))] (M) Q
    refine V.if_ne (tgt := 23) dX10_clashes_14 (by decide) (fun c14 => ?_) (fun q => absurd q ((fun z => b2i_0.mp z h.2)))
    refine V.aload_n dX10_clashes_23 rfl (i := 0) rfl ?_
    refine V.iload_n dX10_clashes_24 rfl (i := 1) rfl ?_
    refine V.invv (z := mX10_clashesAt) (As := [_]) dX10_clashes_25 rfl mlRX10_245 okX10_clashesAt npX10_clashesAt rfl rfl rfl ⟨by decide, by decide⟩ (Nat.le_of_ble_eq_true rfl) rfl (Nat.le_of_ble_eq_true rfl) (c_ca hV (fun M1 hM1 hH1 => ?_))
    show V rS g (d + 67) mX10_clashes 28 [some (.ref 83), some (.int a), some (.int w), none] [.int (caR S M n ne a)] M1 Q
    refine V.istore_n dX10_clashes_28 rfl (i := 3) (by decide) (fun _ h => by cases h; exact Or.inl rfl) rfl ?_
    refine V.iload_n dX10_clashes_29 rfl (i := 2) rfl ?_
    refine V.if_ne (tgt := 37) dX10_clashes_30 (by decide) (fun c30 => ?_) (fun c30 => ?_)
    · refine V.aload_n dX10_clashes_37 rfl (i := 0) rfl ?_
      refine V.invv (z := mX10_firstClash) (As := []) dX10_clashes_38 rfl mlRX10_248 okX10_firstClash npX10_firstClash rfl rfl rfl ⟨by decide, by decide⟩ (Nat.le_of_ble_eq_true rfl) rfl (Nat.le_of_ble_eq_true rfl) (c_fcR hH1 (hV.eq hM1.d).1 hV.2.1 (hV.eq hM1.d).2.2.1 hV.2.2.2.1 ?_)
      show V rS g (d + 67) mX10_clashes 41 [some (.ref 83), some (.int a), some (.int w), some (.int (caR S M n ne a))] [.int (fcF (cl2 (hpR S M a) (wyR M) (M1 84 101) (offR M1)) n ne)] M1 Q
      exact V.ret dX10_clashes_41 rfl (Qi (hok h M1 hM1) (by first | rw [if_pos c30] | (rw [if_neg c30]; unfold offR; rw [hM1.d])))
    · refine V.iload_n dX10_clashes_33 rfl (i := 3) rfl ?_
      refine V.goto dX10_clashes_34 (tgt := 41) (by decide) ?_
      exact V.ret dX10_clashes_41 rfl (Qi (hok h M1 hM1) (by first | rw [if_pos c30] | (rw [if_neg c30]; unfold offR; rw [hM1.d])))
  · skip
    refine V.iload_n dX10_clashes_0 rfl (i := 1) rfl ?_
    refine V.invs (z := mX10_isHour) (As := [_]) dX10_clashes_1 rfl mlRX10_191 okX10_isHour npX10_isHour rfl (Nat.le_of_ble_eq_true rfl) rfl (Nat.le_of_ble_eq_true rfl) (c_hourR   ?_)
    show V rS g (d + 67) mX10_clashes 4 [some (.ref 83), some (.int a), some (.int w), none] [.int (b2i (0 ≤ a ∧ a ≤ 23))] (M) Q
    refine V.if_eq (tgt := 17) dX10_clashes_4 (by decide) (fun c4 => ?_) (fun c4 => ?_)
    · refine V.aload_n dX10_clashes_17 rfl (i := 0) rfl ?_
      refine V.iconst dX10_clashes_18 (v := 1) (by decide) ?_
      refine V.invv (z := mX10_finds) (As := [_]) dX10_clashes_19 rfl mlRX10_131 okX10_finds npX10_finds rfl rfl rfl ⟨by decide, by decide⟩ (Nat.le_of_ble_eq_true rfl) rfl (Nat.le_of_ble_eq_true rfl) (c_fnd1   ?_)
      show V rS g (d + 67) mX10_clashes 22 [some (.ref 83), some (.int a), some (.int w), none] [.int (-1000000001 : Int32)] (put (M) 87 1 ((M) 87 1 + 1)) Q
      exact V.ret dX10_clashes_22 rfl (hbad h)
    · refine V.iload_n dX10_clashes_7 rfl (i := 2) rfl ?_
      refine V.i2l dX10_clashes_8 ?_
      refine V.lconst dX10_clashes_9 (v := 0) (by decide) ?_
      refine V.lconst dX10_clashes_10 (v := 1) (by decide) ?_
      refine V.invs (z := mX10_in) (As := [_, _, _]) dX10_clashes_11 rfl mlRX10_66 okX10_in npX10_in rfl (Nat.le_of_ble_eq_true rfl) rfl (Nat.le_of_ble_eq_true rfl) (c_in32 (v := w) (lo := (0 : Int32)) (hi := (1 : Int32)) (by first | rfl | decide) (by first | rfl | decide)   ?_)
      show V rS g (d + 67) mX10_clashes 14 [some (.ref 83), some (.int a), some (.int w), none] [.int (b2i ((0 : Int32) ≤ w ∧ w ≤ (1 : Int32)))] (M) Q
      refine V.if_ne (tgt := 23) dX10_clashes_14 (by decide) (fun c14 => ?_) (fun c14 => ?_)
      · exact absurd ⟨(Classical.byContradiction fun z => c4 (b2i_f z)), (Classical.byContradiction fun z => c14 (b2i_f z))⟩ h
      · refine V.aload_n dX10_clashes_17 rfl (i := 0) rfl ?_
        refine V.iconst dX10_clashes_18 (v := 1) (by decide) ?_
        refine V.invv (z := mX10_finds) (As := [_]) dX10_clashes_19 rfl mlRX10_131 okX10_finds npX10_finds rfl rfl rfl ⟨by decide, by decide⟩ (Nat.le_of_ble_eq_true rfl) rfl (Nat.le_of_ble_eq_true rfl) (c_fnd1   ?_)
        show V rS g (d + 67) mX10_clashes 22 [some (.ref 83), some (.int a), some (.int w), none] [.int (-1000000001 : Int32)] (put (M) 87 1 ((M) 87 1 + 1)) Q
        exact V.ret dX10_clashes_22 rfl (hbad h)
set_option maxHeartbeats 4000000 in
set_option maxRecDepth 100000 in
theorem c10_clash {g : GG} {d : Nat} {M : Mem} {Q : Option Value → Mem → Prop} {a w : Int32} {S : List Int32} {n ne : Nat} (hV : VR S M n ne) (hbad : ¬ ((0 ≤ a ∧ a < nI n) ∧ 0 ≤ w ∧ w ≤ 23) → Q (some (.int (-1000000001))) (put M 87 1 (M 87 1 + 1))) (hok : ((0 ≤ a ∧ a < nI n) ∧ 0 ≤ w ∧ w ≤ 23) → ∀ b, b < n → a = nI b → ∀ M', KpH M M' → Q (some (.int (ccF (hpR S M w) (wyR M) (M 84 101) (offR M) n ne b))) M') : V rS g (d + 67) mX10_clash 0 [some (.ref 83), some (.int a), some (.int w)] [] M Q := by
  have h8 := hV.2.1
  by_cases h : ((0 ≤ a ∧ a < nI n) ∧ 0 ≤ w ∧ w ≤ 23)
  · obtain ⟨b, hb, rfl⟩ := nI_ex (n := n) (by omega) h.1.1 h.1.2
    refine V.aload_n dX10_clash_0 rfl (i := 0) rfl ?_
    refine V.iload_n dX10_clash_1 rfl (i := 1) rfl ?_
    refine V.invv (z := mX10_isBell) (As := [_]) dX10_clash_2 rfl mlRX10_170 okX10_isBell npX10_isBell rfl rfl rfl ⟨by decide, by decide⟩ (Nat.le_of_ble_eq_true rfl) rfl (Nat.le_of_ble_eq_true rfl) (c_bellR hV.1 h8 ?_)
    show V rS g (d + 67) mX10_clash 5 [some (.ref 83), some (.int (nI b)), some (.int w)] [.int (b2i (0 ≤ nI b ∧ nI b < nI n))] M Q
    refine V.if_eq (tgt := 15) dX10_clash_5 (by decide) (fun q => absurd q ((fun z => b2i_0.mp z h.1))) (fun c5 => ?_)
    refine V.iload_n dX10_clash_8 rfl (i := 2) rfl ?_
    refine V.invs (z := mX10_isHour) (As := [_]) dX10_clash_9 rfl mlRX10_191 okX10_isHour npX10_isHour rfl (Nat.le_of_ble_eq_true rfl) rfl (Nat.le_of_ble_eq_true rfl) (c_hourR   ?_)
    show V rS g (d + 67) mX10_clash 12 [some (.ref 83), some (.int (nI b)), some (.int w)] [.int (b2i (0 ≤ w ∧ w ≤ 23))] (M) Q
    refine V.if_ne (tgt := 21) dX10_clash_12 (by decide) (fun c12 => ?_) (fun q => absurd q ((fun z => b2i_0.mp z h.2)))
    refine V.aload_n dX10_clash_21 rfl (i := 0) rfl ?_
    refine V.iload_n dX10_clash_22 rfl (i := 2) rfl ?_
    refine V.invv (z := mX10_hearsAll) (As := [_]) dX10_clash_23 rfl mlRX10_238 okX10_hearsAll npX10_hearsAll rfl rfl rfl ⟨by decide, by decide⟩ (Nat.le_of_ble_eq_true rfl) rfl (Nat.le_of_ble_eq_true rfl) (c_all hV (fun M1 hM1 hH1 => ?_))
    show V rS g (d + 67) mX10_clash 26 [some (.ref 83), some (.int (nI b)), some (.int w)] [] M1 Q
    refine V.aload_n dX10_clash_26 rfl (i := 0) rfl ?_
    refine V.iload_n dX10_clash_27 rfl (i := 1) rfl ?_
    refine V.iconst dX10_clash_28 (v := 0) (by decide) ?_
    refine V.invv (z := mX10_clashesOfOne) (As := [_, _]) dX10_clash_29 rfl mlRX10_242 okX10_clashesOfOne npX10_clashesOfOne rfl rfl rfl ⟨by decide, by decide⟩ (Nat.le_of_ble_eq_true rfl) rfl (Nat.le_of_ble_eq_true rfl) (c_c1 hH1 (hV.eq hM1.d).1 hV.2.1 (hV.eq hM1.d).2.2.1 hV.2.2.2.1 (hH1.x hb) (by omega) ?_)
    show V rS g (d + 67) mX10_clash 32 [some (.ref 83), some (.int (nI b)), some (.int w)] [.int (ccS (hpR S M w) (wyR M) (M1 84 101) (offR M1) n ne b 0)] M1 Q
    exact V.ret dX10_clash_32 rfl (Qi (hok h b hb rfl M1 hM1) (by rw [ccS_0]; unfold offR; rw [hM1.d]))
  · skip
    refine V.aload_n dX10_clash_0 rfl (i := 0) rfl ?_
    refine V.iload_n dX10_clash_1 rfl (i := 1) rfl ?_
    refine V.invv (z := mX10_isBell) (As := [_]) dX10_clash_2 rfl mlRX10_170 okX10_isBell npX10_isBell rfl rfl rfl ⟨by decide, by decide⟩ (Nat.le_of_ble_eq_true rfl) rfl (Nat.le_of_ble_eq_true rfl) (c_bellR hV.1 h8 ?_)
    show V rS g (d + 67) mX10_clash 5 [some (.ref 83), some (.int a), some (.int w)] [.int (b2i (0 ≤ a ∧ a < nI n))] M Q
    refine V.if_eq (tgt := 15) dX10_clash_5 (by decide) (fun c5 => ?_) (fun c5 => ?_)
    · refine V.aload_n dX10_clash_15 rfl (i := 0) rfl ?_
      refine V.iconst dX10_clash_16 (v := 1) (by decide) ?_
      refine V.invv (z := mX10_finds) (As := [_]) dX10_clash_17 rfl mlRX10_131 okX10_finds npX10_finds rfl rfl rfl ⟨by decide, by decide⟩ (Nat.le_of_ble_eq_true rfl) rfl (Nat.le_of_ble_eq_true rfl) (c_fnd1   ?_)
      show V rS g (d + 67) mX10_clash 20 [some (.ref 83), some (.int a), some (.int w)] [.int (-1000000001 : Int32)] (put M 87 1 (M 87 1 + 1)) Q
      exact V.ret dX10_clash_20 rfl (hbad h)
    · refine V.iload_n dX10_clash_8 rfl (i := 2) rfl ?_
      refine V.invs (z := mX10_isHour) (As := [_]) dX10_clash_9 rfl mlRX10_191 okX10_isHour npX10_isHour rfl (Nat.le_of_ble_eq_true rfl) rfl (Nat.le_of_ble_eq_true rfl) (c_hourR   ?_)
      show V rS g (d + 67) mX10_clash 12 [some (.ref 83), some (.int a), some (.int w)] [.int (b2i (0 ≤ w ∧ w ≤ 23))] (M) Q
      refine V.if_ne (tgt := 21) dX10_clash_12 (by decide) (fun c12 => ?_) (fun c12 => ?_)
      · exact absurd ⟨(Classical.byContradiction fun z => c5 (b2i_f z)), (Classical.byContradiction fun z => c12 (b2i_f z))⟩ h
      · refine V.aload_n dX10_clash_15 rfl (i := 0) rfl ?_
        refine V.iconst dX10_clash_16 (v := 1) (by decide) ?_
        refine V.invv (z := mX10_finds) (As := [_]) dX10_clash_17 rfl mlRX10_131 okX10_finds npX10_finds rfl rfl rfl ⟨by decide, by decide⟩ (Nat.le_of_ble_eq_true rfl) rfl (Nat.le_of_ble_eq_true rfl) (c_fnd1   ?_)
        show V rS g (d + 67) mX10_clash 20 [some (.ref 83), some (.int a), some (.int w)] [.int (-1000000001 : Int32)] (put (M) 87 1 ((M) 87 1 + 1)) Q
        exact V.ret dX10_clash_20 rfl (hbad h)
set_option maxHeartbeats 4000000 in
set_option maxRecDepth 100000 in
theorem l_qt {g : GG} {d : Nat} {Q : Option Value → Mem → Prop} {M0 : Mem} {a : Int32} {S : List Int32} {n ne : Nat} (hV : VR S M0 n ne) (hQ : ∀ M', KpH M0 M' → Q (some (.int (if a = 0 then nI (qtF (fun h => caR S M0 n ne (nI h)) 24).1 else (qtF (fun h => caR S M0 n ne (nI h)) 24).2))) M') : ∀ (k h : Nat) (M : Mem) (l5 : Option Value), h + k = 24 → KpH M0 M → V rS g (d + 67) mX10_quiet 24 [some (.ref 83), some (.int a), some (.int (nI (qtF (fun h => caR S M0 n ne (nI h)) h).1)), some (.int (qtF (fun h => caR S M0 n ne (nI h)) h).2), some (.int (nI h)), l5] [] M Q := by
  intro k
  induction k with
  | zero =>
    intro h M l5 hk hM
    obtain rfl : h = 24 := by omega
    refine V.fg (ls' := [some (.ref 83), some (.int a), some (.int (nI (qtF (fun h => caR S M0 n ne (nI h)) 24).1)), some (.int (qtF (fun h => caR S M0 n ne (nI h)) 24).2), some (.int (nI 24)), none]) ⟨rfl, rfl, rfl, rfl, rfl, trivial⟩ ?_
    refine V.iload dX10_quiet_24 rfl ?_
    refine V.bipush dX10_quiet_26 (v := 24) (by decide) ?_
    refine V.ic_ge (tgt := 71) dX10_quiet_28 (by decide) (fun c28 => ?_) (fun q => absurd ((by decide)) q)
    refine V.iload_n dX10_quiet_71 rfl (i := 1) rfl ?_
    suffices kJ72 : V rS g (d + 67) mX10_quiet 80 [some (.ref 83), some (.int a), some (.int (nI (qtF (fun h => caR S M0 n ne (nI h)) 24).1)), some (.int ((qtF (fun h => caR S M0 n ne (nI h)) 24).2)), some (.int (nI 24)), none] [.int (if a = (0 : Int32) then (nI (qtF (fun h => caR S M0 n ne (nI h)) 24).1) else ((qtF (fun h => caR S M0 n ne (nI h)) 24).2))] M Q by
      refine V.if_ne (tgt := 79) dX10_quiet_72 (by decide) (fun c72 => ?_) (fun c72 => ?_)
      · refine V.iload_n dX10_quiet_79 rfl (i := 3) rfl ?_
        rw [if_neg c72] at kJ72; exact kJ72
      · refine V.iload_n dX10_quiet_75 rfl (i := 2) rfl ?_
        refine V.goto dX10_quiet_76 (tgt := 80) (by decide) ?_
        rw [if_pos c72] at kJ72; exact kJ72
    exact V.ret dX10_quiet_80 rfl (hQ M hM)
  | succ k ih =>
    intro h M l5 hk hM
    refine V.fg (ls' := [some (.ref 83), some (.int a), some (.int (nI (qtF (fun h => caR S M0 n ne (nI h)) h).1)), some (.int (qtF (fun h => caR S M0 n ne (nI h)) h).2), some (.int (nI h)), none]) ⟨rfl, rfl, rfl, rfl, rfl, trivial⟩ ?_
    have hVM := hV.eq hM.d
    by_cases hq : caR S M0 n ne (nI h) < (qtF (fun h => caR S M0 n ne (nI h)) h).2
    · skip
      refine V.iload dX10_quiet_24 rfl ?_
      refine V.bipush dX10_quiet_26 (v := 24) (by decide) ?_
      refine V.ic_ge (tgt := 71) dX10_quiet_28 (by decide) (fun q => absurd q ((nI_ge (a := h) (b := 24) (by omega) (by omega)))) (fun c28 => ?_)
      refine V.aload_n dX10_quiet_31 rfl (i := 0) rfl ?_
      refine V.iload dX10_quiet_32 rfl ?_
      refine V.invv (z := mX10_clashesAt) (As := [_]) dX10_quiet_34 rfl mlRX10_245 okX10_clashesAt npX10_clashesAt rfl rfl rfl ⟨by decide, by decide⟩ (Nat.le_of_ble_eq_true rfl) rfl (Nat.le_of_ble_eq_true rfl) (c_ca hVM (fun M1 hM1 hH1 => ?_))
      show V rS g (d + 67) mX10_quiet 37 [some (.ref 83), some (.int a), some (.int (nI (qtF (fun h => caR S M0 n ne (nI h)) h).1)), some (.int ((qtF (fun h => caR S M0 n ne (nI h)) h).2)), some (.int (nI h)), none] [.int (caR S M n ne (nI h))] M1 Q
      refine V.top (x' := (caR S M0 n ne (nI h))) ((caR_eq hM.d)) ?_
      refine V.istore dX10_quiet_37 (i := 5) (by decide) (fun _ h => by cases h; exact Or.inl rfl) rfl ?_
      refine V.iload dX10_quiet_39 rfl ?_
      refine V.iload_n dX10_quiet_41 rfl (i := 3) rfl ?_
      refine V.ic_ge (tgt := 50) dX10_quiet_42 (by decide) (fun q => absurd q ((Int32.not_le.mpr hq))) (fun c42 => ?_)
      refine V.iload dX10_quiet_45 rfl ?_
      refine V.goto dX10_quiet_47 (tgt := 51) (by decide) ?_
      refine V.istore_n dX10_quiet_51 rfl (i := 2) (by decide) (fun _ h => by cases h; exact Or.inl rfl) rfl ?_
      refine V.iload dX10_quiet_52 rfl ?_
      refine V.iload_n dX10_quiet_54 rfl (i := 3) rfl ?_
      refine V.ic_ge (tgt := 63) dX10_quiet_55 (by decide) (fun q => absurd q ((Int32.not_le.mpr hq))) (fun c55 => ?_)
      refine V.iload dX10_quiet_58 rfl ?_
      refine V.goto dX10_quiet_60 (tgt := 64) (by decide) ?_
      refine V.istore_n dX10_quiet_64 rfl (i := 3) (by decide) (fun _ h => by cases h; exact Or.inl rfl) rfl ?_
      refine V.lseq (ls' := [some (.ref 83), some (.int a), some (.int (nI (qtF (fun h => caR S M0 n ne (nI h)) (h + 1)).1)), some (.int (qtF (fun h => caR S M0 n ne (nI h)) (h + 1)).2), some (.int (nI h)), _]) (by rw [qtF, if_pos hq]; try rfl) ?_
      refine V.iinc dX10_quiet_65 rfl (v := (nI (h + 1))) (nI_1 _) (by decide) (fun _ h => by cases h; exact Or.inl rfl) rfl ?_
      refine V.goto dX10_quiet_68 (tgt := 24) (by decide) ?_
      exact ih (h + 1) M1 _ (by omega) (hM.tr hM1)
    · skip
      refine V.iload dX10_quiet_24 rfl ?_
      refine V.bipush dX10_quiet_26 (v := 24) (by decide) ?_
      refine V.ic_ge (tgt := 71) dX10_quiet_28 (by decide) (fun q => absurd q ((nI_ge (a := h) (b := 24) (by omega) (by omega)))) (fun c28 => ?_)
      refine V.aload_n dX10_quiet_31 rfl (i := 0) rfl ?_
      refine V.iload dX10_quiet_32 rfl ?_
      refine V.invv (z := mX10_clashesAt) (As := [_]) dX10_quiet_34 rfl mlRX10_245 okX10_clashesAt npX10_clashesAt rfl rfl rfl ⟨by decide, by decide⟩ (Nat.le_of_ble_eq_true rfl) rfl (Nat.le_of_ble_eq_true rfl) (c_ca hVM (fun M1 hM1 hH1 => ?_))
      show V rS g (d + 67) mX10_quiet 37 [some (.ref 83), some (.int a), some (.int (nI (qtF (fun h => caR S M0 n ne (nI h)) h).1)), some (.int ((qtF (fun h => caR S M0 n ne (nI h)) h).2)), some (.int (nI h)), none] [.int (caR S M n ne (nI h))] M1 Q
      refine V.top (x' := (caR S M0 n ne (nI h))) ((caR_eq hM.d)) ?_
      refine V.istore dX10_quiet_37 (i := 5) (by decide) (fun _ h => by cases h; exact Or.inl rfl) rfl ?_
      refine V.iload dX10_quiet_39 rfl ?_
      refine V.iload_n dX10_quiet_41 rfl (i := 3) rfl ?_
      refine V.ic_ge (tgt := 50) dX10_quiet_42 (by decide) (fun c42 => ?_) (fun q => absurd ((Int32.not_lt.mp hq)) q)
      refine V.iload_n dX10_quiet_50 rfl (i := 2) rfl ?_
      refine V.istore_n dX10_quiet_51 rfl (i := 2) (by decide) (fun _ h => by cases h; exact Or.inl rfl) rfl ?_
      refine V.iload dX10_quiet_52 rfl ?_
      refine V.iload_n dX10_quiet_54 rfl (i := 3) rfl ?_
      refine V.ic_ge (tgt := 63) dX10_quiet_55 (by decide) (fun c55 => ?_) (fun q => absurd ((Int32.not_lt.mp hq)) q)
      refine V.iload_n dX10_quiet_63 rfl (i := 3) rfl ?_
      refine V.istore_n dX10_quiet_64 rfl (i := 3) (by decide) (fun _ h => by cases h; exact Or.inl rfl) rfl ?_
      refine V.lseq (ls' := [some (.ref 83), some (.int a), some (.int (nI (qtF (fun h => caR S M0 n ne (nI h)) (h + 1)).1)), some (.int (qtF (fun h => caR S M0 n ne (nI h)) (h + 1)).2), some (.int (nI h)), _]) (by rw [qtF, if_neg hq]; try rfl) ?_
      refine V.iinc dX10_quiet_65 rfl (v := (nI (h + 1))) (nI_1 _) (by decide) (fun _ h => by cases h; exact Or.inl rfl) rfl ?_
      refine V.goto dX10_quiet_68 (tgt := 24) (by decide) ?_
      exact ih (h + 1) M1 _ (by omega) (hM.tr hM1)
set_option maxHeartbeats 4000000 in
set_option maxRecDepth 100000 in
theorem c10_quiet {g : GG} {d : Nat} {M : Mem} {Q : Option Value → Mem → Prop} {a : Int32} {S : List Int32} {n ne : Nat} (hV : VR S M n ne) (hbad : ¬ (0 ≤ a ∧ a ≤ 1) → Q (some (.int (-1000000001))) (put M 87 1 (M 87 1 + 1))) (hok : (0 ≤ a ∧ a ≤ 1) → ∀ M', KpH M M' → Q (some (.int (if a = 0 then nI (qtF (fun h => caR S M n ne (nI h)) 24).1 else (qtF (fun h => caR S M n ne (nI h)) 24).2))) M') : V rS g (d + 67) mX10_quiet 0 [some (.ref 83), some (.int a), none, none, none, none] [] M Q := by
  by_cases h : 0 ≤ a ∧ a ≤ 1
  · skip
    refine V.iload_n dX10_quiet_0 rfl (i := 1) rfl ?_
    refine V.i2l dX10_quiet_1 ?_
    refine V.lconst dX10_quiet_2 (v := 0) (by decide) ?_
    refine V.lconst dX10_quiet_3 (v := 1) (by decide) ?_
    refine V.invs (z := mX10_in) (As := [_, _, _]) dX10_quiet_4 rfl mlRX10_66 okX10_in npX10_in rfl (Nat.le_of_ble_eq_true rfl) rfl (Nat.le_of_ble_eq_true rfl) (c_in32 (v := a) (lo := (0 : Int32)) (hi := (1 : Int32)) (by first | rfl | decide) (by first | rfl | decide)   ?_)
    show V rS g (d + 67) mX10_quiet 7 [some (.ref 83), some (.int a), none, none, none, none] [.int (b2i ((0 : Int32) ≤ a ∧ a ≤ (1 : Int32)))] M Q
    refine V.if_ne (tgt := 16) dX10_quiet_7 (by decide) (fun c7 => ?_) (fun q => absurd q ((fun z => b2i_0.mp z h)))
    refine V.iconst dX10_quiet_16 (v := 0) (by decide) ?_
    refine V.istore_n dX10_quiet_17 rfl (i := 2) (by decide) (fun _ h => by cases h; exact Or.inl rfl) rfl ?_
    refine V.ldc dX10_quiet_18 rfl ctRX10_251 ?_
    refine V.istore_n dX10_quiet_20 rfl (i := 3) (by decide) (fun _ h => by cases h; exact Or.inl rfl) rfl ?_
    refine V.iconst dX10_quiet_21 (v := 0) (by decide) ?_
    refine V.istore dX10_quiet_22 (i := 4) (by decide) (fun _ h => by cases h; exact Or.inl rfl) rfl ?_
    exact l_qt hV (hok h) 24 0 M _ (by omega) KpH.rf
  · skip
    refine V.iload_n dX10_quiet_0 rfl (i := 1) rfl ?_
    refine V.i2l dX10_quiet_1 ?_
    refine V.lconst dX10_quiet_2 (v := 0) (by decide) ?_
    refine V.lconst dX10_quiet_3 (v := 1) (by decide) ?_
    refine V.invs (z := mX10_in) (As := [_, _, _]) dX10_quiet_4 rfl mlRX10_66 okX10_in npX10_in rfl (Nat.le_of_ble_eq_true rfl) rfl (Nat.le_of_ble_eq_true rfl) (c_in32 (v := a) (lo := (0 : Int32)) (hi := (1 : Int32)) (by first | rfl | decide) (by first | rfl | decide)   ?_)
    show V rS g (d + 67) mX10_quiet 7 [some (.ref 83), some (.int a), none, none, none, none] [.int (b2i ((0 : Int32) ≤ a ∧ a ≤ (1 : Int32)))] M Q
    refine V.if_ne (tgt := 16) dX10_quiet_7 (by decide) (fun c7 => ?_) (fun c7 => ?_)
    · exact absurd (Classical.byContradiction fun z => c7 (b2i_f z)) h
    · refine V.aload_n dX10_quiet_10 rfl (i := 0) rfl ?_
      refine V.iconst dX10_quiet_11 (v := 1) (by decide) ?_
      refine V.invv (z := mX10_finds) (As := [_]) dX10_quiet_12 rfl mlRX10_131 okX10_finds npX10_finds rfl rfl rfl ⟨by decide, by decide⟩ (Nat.le_of_ble_eq_true rfl) rfl (Nat.le_of_ble_eq_true rfl) (c_fnd1   ?_)
      show V rS g (d + 67) mX10_quiet 15 [some (.ref 83), some (.int a), none, none, none, none] [.int (-1000000001 : Int32)] (put M 87 1 (M 87 1 + 1)) Q
      exact V.ret dX10_quiet_15 rfl (hbad h)
set_option maxHeartbeats 4000000 in
set_option maxRecDepth 100000 in
theorem l_ap {g : GG} {d : Nat} {M : Mem} {Q : Option Value → Mem → Prop} {hp : Nat → Nat → Bool} {wy : Nat → Nat → Int32} {ne a b : Nat} (hA : HdX M hp wy ne a) (hB : HdX M hp wy ne b) (ha : a ≤ 8) (hb : b ≤ 8) (h10 : ne ≤ 10) (hne : M 84 104 = nI ne) (hQ : Q (some (.int (gpR hp wy (M 84 101) a b ne))) M) : ∀ (k e : Nat) (l5 : Option Value), e + k = ne → V rS g d mX10_apartOf 6 [some (.ref 83), some (.int (nI a)), some (.int (nI b)), some (.int (gpR hp wy (M 84 101) a b e)), some (.int (nI e)), l5] [] M Q := by
  intro k
  induction k with
  | zero =>
    intro e l5 hk
    obtain rfl : e = ne := by omega
    refine V.fg (ls' := [some (.ref 83), some (.int (nI a)), some (.int (nI b)), some (.int (gpR hp wy (M 84 101) a b e)), some (.int (nI e)), none]) ⟨rfl, rfl, rfl, rfl, rfl, trivial⟩ ?_
    refine V.iload dX10_apartOf_6 rfl ?_
    refine V.aload_n dX10_apartOf_8 rfl (i := 0) rfl ?_
    refine V.getR dX10_apartOf_9 rfl flRX10_7 rfl ⟨by decide, by decide⟩ ?_
    refine V.bipush dX10_apartOf_12 (v := 104) (by decide) ?_
    refine V.top (x' := nI 104) (by decide) ?_
    refine V.ialdN dX10_apartOf_14 rfl ⟨by decide, by decide⟩ (by first | assumption | decide | omega) (by decide) ?_
    refine V.top (x' := (nI e)) (hne) ?_
    refine V.ic_ge (tgt := 104) dX10_apartOf_15 (by decide) (fun c15 => ?_) (fun q => absurd ((Int32.le_refl _)) q)
    refine V.iload_n dX10_apartOf_104 rfl (i := 3) rfl ?_
    exact V.ret dX10_apartOf_105 rfl (hQ)
  | succ k ih =>
    intro e l5 hk
    have ia : 10 * a + e < 90 := by omega
    have ib : 10 * b + e < 90 := by omega
    obtain ⟨a1, a2⟩ := hA e (by omega)
    obtain ⟨b1, b2⟩ := hB e (by omega)
    refine V.fg (ls' := [some (.ref 83), some (.int (nI a)), some (.int (nI b)), some (.int (gpR hp wy (M 84 101) a b e)), some (.int (nI e)), none]) ⟨rfl, rfl, rfl, rfl, rfl, trivial⟩ ?_
    refine V.iload dX10_apartOf_6 rfl ?_
    refine V.aload_n dX10_apartOf_8 rfl (i := 0) rfl ?_
    refine V.getR dX10_apartOf_9 rfl flRX10_7 rfl ⟨by decide, by decide⟩ ?_
    refine V.bipush dX10_apartOf_12 (v := 104) (by decide) ?_
    refine V.top (x' := nI 104) (by decide) ?_
    refine V.ialdN dX10_apartOf_14 rfl ⟨by decide, by decide⟩ (by first | assumption | decide | omega) (by decide) ?_
    refine V.top (x' := (nI ne)) (hne) ?_
    refine V.ic_ge (tgt := 104) dX10_apartOf_15 (by decide) (fun q => absurd q ((nI_ge (a := e) (b := ne) (by omega) (by omega)))) (fun c15 => ?_)
    refine V.aload_n dX10_apartOf_18 rfl (i := 0) rfl ?_
    refine V.getR dX10_apartOf_19 rfl flRX10_28 rfl ⟨by decide, by decide⟩ ?_
    refine V.bipush dX10_apartOf_22 (v := 10) (by decide) ?_
    refine V.iload_n dX10_apartOf_24 rfl (i := 1) rfl ?_
    refine V.imul dX10_apartOf_25 ?_
    refine V.top (x' := (nI (10 * a))) (pk_mul 10 a) ?_
    refine V.iload dX10_apartOf_26 rfl ?_
    refine V.iadd dX10_apartOf_28 ?_
    refine V.top (x' := (nI ((10 * a) + e))) (nI_add (10 * a) e) ?_
    refine V.zaldN dX10_apartOf_29 rfl ⟨by decide, by decide⟩ (by first | assumption | decide | omega) (by decide) ?_
    refine V.top (x' := (b2i (hp a e = true))) (a1) ?_
    refine V.if_eq (tgt := 98) dX10_apartOf_30 (by decide) (fun c30 => ?_) (fun c30 => ?_)
    · refine V.lseq (ls' := [some (.ref 83), some (.int (nI a)), some (.int (nI b)), some (.int (gpR hp wy (M 84 101) a b (e + 1))), some (.int (nI e)), _]) (by first | (rw [gpR, if_neg (fun z => b2i_0.mp c30 z.1)]; try rfl) | (rw [gpR, if_neg (fun z => b2i_0.mp c45 z.2)]; try rfl) | (rw [gpR, if_pos ⟨(Classical.byContradiction fun z => c30 (b2i_f z)), (Classical.byContradiction fun z => c45 (b2i_f z))⟩, if_neg (Int32.not_lt.mpr c88)]; try rfl) | (rw [gpR, if_pos ⟨(Classical.byContradiction fun z => c30 (b2i_f z)), (Classical.byContradiction fun z => c45 (b2i_f z))⟩, if_pos (Int32.not_le.mp c88)]; try rfl)) ?_
      refine V.iinc dX10_apartOf_98 rfl (v := (nI (e + 1))) (nI_1 _) (by decide) (fun _ h => by cases h; exact Or.inl rfl) rfl ?_
      refine V.goto dX10_apartOf_101 (tgt := 6) (by decide) ?_
      exact ih (e + 1) _ (by omega)
    · refine V.aload_n dX10_apartOf_33 rfl (i := 0) rfl ?_
      refine V.getR dX10_apartOf_34 rfl flRX10_28 rfl ⟨by decide, by decide⟩ ?_
      refine V.bipush dX10_apartOf_37 (v := 10) (by decide) ?_
      refine V.iload_n dX10_apartOf_39 rfl (i := 2) rfl ?_
      refine V.imul dX10_apartOf_40 ?_
      refine V.top (x' := (nI (10 * b))) (pk_mul 10 b) ?_
      refine V.iload dX10_apartOf_41 rfl ?_
      refine V.iadd dX10_apartOf_43 ?_
      refine V.top (x' := (nI ((10 * b) + e))) (nI_add (10 * b) e) ?_
      refine V.zaldN dX10_apartOf_44 rfl ⟨by decide, by decide⟩ (by first | assumption | decide | omega) (by decide) ?_
      refine V.top (x' := (b2i (hp b e = true))) (b1) ?_
      refine V.if_eq (tgt := 98) dX10_apartOf_45 (by decide) (fun c45 => ?_) (fun c45 => ?_)
      · refine V.lseq (ls' := [some (.ref 83), some (.int (nI a)), some (.int (nI b)), some (.int (gpR hp wy (M 84 101) a b (e + 1))), some (.int (nI e)), _]) (by first | (rw [gpR, if_neg (fun z => b2i_0.mp c30 z.1)]; try rfl) | (rw [gpR, if_neg (fun z => b2i_0.mp c45 z.2)]; try rfl) | (rw [gpR, if_pos ⟨(Classical.byContradiction fun z => c30 (b2i_f z)), (Classical.byContradiction fun z => c45 (b2i_f z))⟩, if_neg (Int32.not_lt.mpr c88)]; try rfl) | (rw [gpR, if_pos ⟨(Classical.byContradiction fun z => c30 (b2i_f z)), (Classical.byContradiction fun z => c45 (b2i_f z))⟩, if_pos (Int32.not_le.mp c88)]; try rfl)) ?_
        refine V.iinc dX10_apartOf_98 rfl (v := (nI (e + 1))) (nI_1 _) (by decide) (fun _ h => by cases h; exact Or.inl rfl) rfl ?_
        refine V.goto dX10_apartOf_101 (tgt := 6) (by decide) ?_
        exact ih (e + 1) _ (by omega)
      · refine V.aload_n dX10_apartOf_48 rfl (i := 0) rfl ?_
        refine V.getR dX10_apartOf_49 rfl flRX10_7 rfl ⟨by decide, by decide⟩ ?_
        refine V.bipush dX10_apartOf_52 (v := 101) (by decide) ?_
        refine V.top (x' := nI 101) (by decide) ?_
        refine V.ialdN dX10_apartOf_54 rfl ⟨by decide, by decide⟩ (by first | assumption | decide | omega) (by decide) ?_
        refine V.iconst dX10_apartOf_55 (v := 1) (by decide) ?_
        refine V.iadd dX10_apartOf_56 ?_
        refine V.aload_n dX10_apartOf_57 rfl (i := 0) rfl ?_
        refine V.getR dX10_apartOf_58 rfl flRX10_25 rfl ⟨by decide, by decide⟩ ?_
        refine V.bipush dX10_apartOf_61 (v := 10) (by decide) ?_
        refine V.iload_n dX10_apartOf_63 rfl (i := 1) rfl ?_
        refine V.imul dX10_apartOf_64 ?_
        refine V.top (x' := (nI (10 * a))) (pk_mul 10 a) ?_
        refine V.iload dX10_apartOf_65 rfl ?_
        refine V.iadd dX10_apartOf_67 ?_
        refine V.top (x' := (nI ((10 * a) + e))) (nI_add (10 * a) e) ?_
        refine V.ialdN dX10_apartOf_68 rfl ⟨by decide, by decide⟩ (by first | assumption | decide | omega) (by decide) ?_
        refine V.top (x' := (wy a e)) (a2) ?_
        refine V.iadd dX10_apartOf_69 ?_
        refine V.aload_n dX10_apartOf_70 rfl (i := 0) rfl ?_
        refine V.getR dX10_apartOf_71 rfl flRX10_25 rfl ⟨by decide, by decide⟩ ?_
        refine V.bipush dX10_apartOf_74 (v := 10) (by decide) ?_
        refine V.iload_n dX10_apartOf_76 rfl (i := 2) rfl ?_
        refine V.imul dX10_apartOf_77 ?_
        refine V.top (x' := (nI (10 * b))) (pk_mul 10 b) ?_
        refine V.iload dX10_apartOf_78 rfl ?_
        refine V.iadd dX10_apartOf_80 ?_
        refine V.top (x' := (nI ((10 * b) + e))) (nI_add (10 * b) e) ?_
        refine V.ialdN dX10_apartOf_81 rfl ⟨by decide, by decide⟩ (by first | assumption | decide | omega) (by decide) ?_
        refine V.top (x' := (wy b e)) (b2) ?_
        refine V.isub dX10_apartOf_82 ?_
        refine V.istore dX10_apartOf_83 (i := 5) (by decide) (fun _ h => by cases h; exact Or.inl rfl) rfl ?_
        refine V.iload dX10_apartOf_85 rfl ?_
        refine V.iload_n dX10_apartOf_87 rfl (i := 3) rfl ?_
        refine V.ic_le (tgt := 96) dX10_apartOf_88 (by decide) (fun c88 => ?_) (fun c88 => ?_)
        · refine V.iload_n dX10_apartOf_96 rfl (i := 3) rfl ?_
          refine V.istore_n dX10_apartOf_97 rfl (i := 3) (by decide) (fun _ h => by cases h; exact Or.inl rfl) rfl ?_
          refine V.lseq (ls' := [some (.ref 83), some (.int (nI a)), some (.int (nI b)), some (.int (gpR hp wy (M 84 101) a b (e + 1))), some (.int (nI e)), _]) (by first | (rw [gpR, if_neg (fun z => b2i_0.mp c30 z.1)]; try rfl) | (rw [gpR, if_neg (fun z => b2i_0.mp c45 z.2)]; try rfl) | (rw [gpR, if_pos ⟨(Classical.byContradiction fun z => c30 (b2i_f z)), (Classical.byContradiction fun z => c45 (b2i_f z))⟩, if_neg (Int32.not_lt.mpr c88)]; try rfl) | (rw [gpR, if_pos ⟨(Classical.byContradiction fun z => c30 (b2i_f z)), (Classical.byContradiction fun z => c45 (b2i_f z))⟩, if_pos (Int32.not_le.mp c88)]; try rfl)) ?_
          refine V.iinc dX10_apartOf_98 rfl (v := (nI (e + 1))) (nI_1 _) (by decide) (fun _ h => by cases h; exact Or.inl rfl) rfl ?_
          refine V.goto dX10_apartOf_101 (tgt := 6) (by decide) ?_
          exact ih (e + 1) _ (by omega)
        · refine V.iload dX10_apartOf_91 rfl ?_
          refine V.goto dX10_apartOf_93 (tgt := 97) (by decide) ?_
          refine V.istore_n dX10_apartOf_97 rfl (i := 3) (by decide) (fun _ h => by cases h; exact Or.inl rfl) rfl ?_
          refine V.lseq (ls' := [some (.ref 83), some (.int (nI a)), some (.int (nI b)), some (.int (gpR hp wy (M 84 101) a b (e + 1))), some (.int (nI e)), _]) (by first | (rw [gpR, if_neg (fun z => b2i_0.mp c30 z.1)]; try rfl) | (rw [gpR, if_neg (fun z => b2i_0.mp c45 z.2)]; try rfl) | (rw [gpR, if_pos ⟨(Classical.byContradiction fun z => c30 (b2i_f z)), (Classical.byContradiction fun z => c45 (b2i_f z))⟩, if_neg (Int32.not_lt.mpr c88)]; try rfl) | (rw [gpR, if_pos ⟨(Classical.byContradiction fun z => c30 (b2i_f z)), (Classical.byContradiction fun z => c45 (b2i_f z))⟩, if_pos (Int32.not_le.mp c88)]; try rfl)) ?_
          refine V.iinc dX10_apartOf_98 rfl (v := (nI (e + 1))) (nI_1 _) (by decide) (fun _ h => by cases h; exact Or.inl rfl) rfl ?_
          refine V.goto dX10_apartOf_101 (tgt := 6) (by decide) ?_
          exact ih (e + 1) _ (by omega)
set_option maxHeartbeats 4000000 in
set_option maxRecDepth 100000 in
theorem c_apR {g : GG} {d : Nat} {M : Mem} {Q : Option Value → Mem → Prop} {hp : Nat → Nat → Bool} {wy : Nat → Nat → Int32} {ne a b : Nat} (hA : HdX M hp wy ne a) (hB : HdX M hp wy ne b) (ha : a ≤ 8) (hb : b ≤ 8) (h10 : ne ≤ 10) (hne : M 84 104 = nI ne) (hQ : Q (some (.int (gpR hp wy (M 84 101) a b ne))) M) : V rS g d mX10_apartOf 0 [some (.ref 83), some (.int (nI a)), some (.int (nI b)), none, none, none] [] M Q := by
  refine V.ldc dX10_apartOf_0 rfl ctRX10_65 ?_
  refine V.istore_n dX10_apartOf_2 rfl (i := 3) (by decide) (fun _ h => by cases h; exact Or.inl rfl) rfl ?_
  refine V.iconst dX10_apartOf_3 (v := 0) (by decide) ?_
  refine V.istore dX10_apartOf_4 (i := 4) (by decide) (fun _ h => by cases h; exact Or.inl rfl) rfl ?_
  exact l_ap hA hB ha hb h10 hne hQ ne 0 _ (by omega)
set_option maxHeartbeats 4000000 in
set_option maxRecDepth 100000 in
theorem c10_apart {g : GG} {d : Nat} {M : Mem} {Q : Option Value → Mem → Prop} {a w v : Int32} {S : List Int32} {n ne : Nat} (hV : VR S M n ne) (hbad : ¬ ((0 ≤ a ∧ a < nI n) ∧ (0 ≤ w ∧ w < nI n) ∧ ¬ a = w ∧ 0 ≤ v ∧ v ≤ 23) → Q (some (.int (-1000000001))) (put M 87 1 (M 87 1 + 1))) (hnone : ((0 ≤ a ∧ a < nI n) ∧ (0 ≤ w ∧ w < nI n) ∧ ¬ a = w ∧ 0 ≤ v ∧ v ≤ 23) → ∀ b c, b < n → c < n → a = nI b → w = nI c → ∀ M', KpH M M' → (gpR (hpR S M v) (wyR M) (M 84 101) b c ne) = -1000000000 → Q (some (.int (-1000000002))) (put M' 87 2 (M' 87 2 + 1))) (hok : ((0 ≤ a ∧ a < nI n) ∧ (0 ≤ w ∧ w < nI n) ∧ ¬ a = w ∧ 0 ≤ v ∧ v ≤ 23) → ∀ b c, b < n → c < n → a = nI b → w = nI c → ∀ M', KpH M M' → ¬ (gpR (hpR S M v) (wyR M) (M 84 101) b c ne) = -1000000000 → Q (some (.int (gpR (hpR S M v) (wyR M) (M 84 101) b c ne))) M') : V rS g (d + 67) mX10_apart 0 [some (.ref 83), some (.int a), some (.int w), some (.int v), none] [] M Q := by
  have h8 := hV.2.1
  by_cases h : ((0 ≤ a ∧ a < nI n) ∧ (0 ≤ w ∧ w < nI n) ∧ ¬ a = w ∧ 0 ≤ v ∧ v ≤ 23)
  · obtain ⟨b, hb, rfl⟩ := nI_ex (n := n) (by omega) h.1.1 h.1.2
    obtain ⟨c, hc, rfl⟩ := nI_ex (n := n) (by omega) h.2.1.1 h.2.1.2
    refine V.aload_n dX10_apart_0 rfl (i := 0) rfl ?_
    refine V.iload_n dX10_apart_1 rfl (i := 1) rfl ?_
    refine V.invv (z := mX10_isBell) (As := [_]) dX10_apart_2 rfl mlRX10_170 okX10_isBell npX10_isBell rfl rfl rfl ⟨by decide, by decide⟩ (Nat.le_of_ble_eq_true rfl) rfl (Nat.le_of_ble_eq_true rfl) (c_bellR hV.1 h8 ?_)
    show V rS g (d + 67) mX10_apart 5 [some (.ref 83), some (.int (nI b)), some (.int (nI c)), some (.int v), none] [.int (b2i (0 ≤ nI b ∧ nI b < nI n))] M Q
    refine V.if_eq (tgt := 28) dX10_apart_5 (by decide) (fun q => absurd q ((fun z => b2i_0.mp z h.1))) (fun c5 => ?_)
    refine V.aload_n dX10_apart_8 rfl (i := 0) rfl ?_
    refine V.iload_n dX10_apart_9 rfl (i := 2) rfl ?_
    refine V.invv (z := mX10_isBell) (As := [_]) dX10_apart_10 rfl mlRX10_170 okX10_isBell npX10_isBell rfl rfl rfl ⟨by decide, by decide⟩ (Nat.le_of_ble_eq_true rfl) rfl (Nat.le_of_ble_eq_true rfl) (c_bellR hV.1 h8 ?_)
    show V rS g (d + 67) mX10_apart 13 [some (.ref 83), some (.int (nI b)), some (.int (nI c)), some (.int v), none] [.int (b2i (0 ≤ nI c ∧ nI c < nI n))] M Q
    refine V.if_eq (tgt := 28) dX10_apart_13 (by decide) (fun q => absurd q ((fun z => b2i_0.mp z h.2.1))) (fun c13 => ?_)
    refine V.iload_n dX10_apart_16 rfl (i := 1) rfl ?_
    refine V.iload_n dX10_apart_17 rfl (i := 2) rfl ?_
    refine V.ic_eq (tgt := 28) dX10_apart_18 (by decide) (fun q => absurd q ((h.2.2.1))) (fun c18 => ?_)
    refine V.iload_n dX10_apart_21 rfl (i := 3) rfl ?_
    refine V.invs (z := mX10_isHour) (As := [_]) dX10_apart_22 rfl mlRX10_191 okX10_isHour npX10_isHour rfl (Nat.le_of_ble_eq_true rfl) rfl (Nat.le_of_ble_eq_true rfl) (c_hourR   ?_)
    show V rS g (d + 67) mX10_apart 25 [some (.ref 83), some (.int (nI b)), some (.int (nI c)), some (.int v), none] [.int (b2i (0 ≤ v ∧ v ≤ 23))] (M) Q
    refine V.if_ne (tgt := 34) dX10_apart_25 (by decide) (fun c25 => ?_) (fun q => absurd q ((fun z => b2i_0.mp z h.2.2.2)))
    refine V.aload_n dX10_apart_34 rfl (i := 0) rfl ?_
    refine V.iload_n dX10_apart_35 rfl (i := 3) rfl ?_
    refine V.invv (z := mX10_hearsAll) (As := [_]) dX10_apart_36 rfl mlRX10_238 okX10_hearsAll npX10_hearsAll rfl rfl rfl ⟨by decide, by decide⟩ (Nat.le_of_ble_eq_true rfl) rfl (Nat.le_of_ble_eq_true rfl) (c_all hV (fun M1 hM1 hH1 => ?_))
    show V rS g (d + 67) mX10_apart 39 [some (.ref 83), some (.int (nI b)), some (.int (nI c)), some (.int v), none] [] M1 Q
    refine V.aload_n dX10_apart_39 rfl (i := 0) rfl ?_
    refine V.iload_n dX10_apart_40 rfl (i := 1) rfl ?_
    refine V.iload_n dX10_apart_41 rfl (i := 2) rfl ?_
    refine V.invv (z := mX10_apartOf) (As := [_, _]) dX10_apart_42 rfl mlRX10_252 okX10_apartOf npX10_apartOf rfl rfl rfl ⟨by decide, by decide⟩ (Nat.le_of_ble_eq_true rfl) rfl (Nat.le_of_ble_eq_true rfl) (c_apR (hH1.x hb) (hH1.x hc) (by omega) (by omega) hV.2.2.2.1 (hV.eq hM1.d).2.2.1 ?_)
    show V rS g (d + 67) mX10_apart 45 [some (.ref 83), some (.int (nI b)), some (.int (nI c)), some (.int v), none] [.int (gpR (hpR S M v) (wyR M) (M1 84 101) b c ne)] M1 Q
    refine V.top (x' := (gpR (hpR S M v) (wyR M) (M 84 101) b c ne)) ((by rw [hM1.d])) ?_
    refine V.istore dX10_apart_45 (i := 4) (by decide) (fun _ h => by cases h; exact Or.inl rfl) rfl ?_
    refine V.iload dX10_apart_47 rfl ?_
    refine V.ldc dX10_apart_49 rfl ctRX10_65 ?_
    refine V.ic_ne (tgt := 62) dX10_apart_51 (by decide) (fun c51 => ?_) (fun c51 => ?_)
    · refine V.iload dX10_apart_62 rfl ?_
      exact V.ret dX10_apart_64 rfl (by first | exact hnone h b c hb hc rfl rfl M1 hM1 c51 | exact hnone h b c hb hc rfl rfl M1 hM1 (Classical.byContradiction c51) | exact hok h b c hb hc rfl rfl M1 hM1 c51)
    · refine V.aload_n dX10_apart_54 rfl (i := 0) rfl ?_
      refine V.iconst dX10_apart_55 (v := 2) (by decide) ?_
      refine V.invv (z := mX10_finds) (As := [_]) dX10_apart_56 rfl mlRX10_131 okX10_finds npX10_finds rfl rfl rfl ⟨by decide, by decide⟩ (Nat.le_of_ble_eq_true rfl) rfl (Nat.le_of_ble_eq_true rfl) (c_fnd2   ?_)
      show V rS g (d + 67) mX10_apart 59 [some (.ref 83), some (.int (nI b)), some (.int (nI c)), some (.int v), some (.int (gpR (hpR S M v) (wyR M) (M 84 101) b c ne))] [.int (-1000000002 : Int32)] (put M1 87 2 (M1 87 2 + 1)) Q
      refine V.goto dX10_apart_59 (tgt := 64) (by decide) ?_
      exact V.ret dX10_apart_64 rfl (by first | exact hnone h b c hb hc rfl rfl M1 hM1 c51 | exact hnone h b c hb hc rfl rfl M1 hM1 (Classical.byContradiction c51) | exact hok h b c hb hc rfl rfl M1 hM1 c51)
  · skip
    refine V.aload_n dX10_apart_0 rfl (i := 0) rfl ?_
    refine V.iload_n dX10_apart_1 rfl (i := 1) rfl ?_
    refine V.invv (z := mX10_isBell) (As := [_]) dX10_apart_2 rfl mlRX10_170 okX10_isBell npX10_isBell rfl rfl rfl ⟨by decide, by decide⟩ (Nat.le_of_ble_eq_true rfl) rfl (Nat.le_of_ble_eq_true rfl) (c_bellR hV.1 h8 ?_)
    show V rS g (d + 67) mX10_apart 5 [some (.ref 83), some (.int a), some (.int w), some (.int v), none] [.int (b2i (0 ≤ a ∧ a < nI n))] M Q
    refine V.if_eq (tgt := 28) dX10_apart_5 (by decide) (fun c5 => ?_) (fun c5 => ?_)
    · refine V.aload_n dX10_apart_28 rfl (i := 0) rfl ?_
      refine V.iconst dX10_apart_29 (v := 1) (by decide) ?_
      refine V.invv (z := mX10_finds) (As := [_]) dX10_apart_30 rfl mlRX10_131 okX10_finds npX10_finds rfl rfl rfl ⟨by decide, by decide⟩ (Nat.le_of_ble_eq_true rfl) rfl (Nat.le_of_ble_eq_true rfl) (c_fnd1   ?_)
      show V rS g (d + 67) mX10_apart 33 [some (.ref 83), some (.int a), some (.int w), some (.int v), none] [.int (-1000000001 : Int32)] (put M 87 1 (M 87 1 + 1)) Q
      exact V.ret dX10_apart_33 rfl (hbad h)
    · refine V.aload_n dX10_apart_8 rfl (i := 0) rfl ?_
      refine V.iload_n dX10_apart_9 rfl (i := 2) rfl ?_
      refine V.invv (z := mX10_isBell) (As := [_]) dX10_apart_10 rfl mlRX10_170 okX10_isBell npX10_isBell rfl rfl rfl ⟨by decide, by decide⟩ (Nat.le_of_ble_eq_true rfl) rfl (Nat.le_of_ble_eq_true rfl) (c_bellR hV.1 h8 ?_)
      show V rS g (d + 67) mX10_apart 13 [some (.ref 83), some (.int a), some (.int w), some (.int v), none] [.int (b2i (0 ≤ w ∧ w < nI n))] M Q
      refine V.if_eq (tgt := 28) dX10_apart_13 (by decide) (fun c13 => ?_) (fun c13 => ?_)
      · refine V.aload_n dX10_apart_28 rfl (i := 0) rfl ?_
        refine V.iconst dX10_apart_29 (v := 1) (by decide) ?_
        refine V.invv (z := mX10_finds) (As := [_]) dX10_apart_30 rfl mlRX10_131 okX10_finds npX10_finds rfl rfl rfl ⟨by decide, by decide⟩ (Nat.le_of_ble_eq_true rfl) rfl (Nat.le_of_ble_eq_true rfl) (c_fnd1   ?_)
        show V rS g (d + 67) mX10_apart 33 [some (.ref 83), some (.int a), some (.int w), some (.int v), none] [.int (-1000000001 : Int32)] (put M 87 1 (M 87 1 + 1)) Q
        exact V.ret dX10_apart_33 rfl (hbad h)
      · refine V.iload_n dX10_apart_16 rfl (i := 1) rfl ?_
        refine V.iload_n dX10_apart_17 rfl (i := 2) rfl ?_
        refine V.ic_eq (tgt := 28) dX10_apart_18 (by decide) (fun c18 => ?_) (fun c18 => ?_)
        · refine V.aload_n dX10_apart_28 rfl (i := 0) rfl ?_
          refine V.iconst dX10_apart_29 (v := 1) (by decide) ?_
          refine V.invv (z := mX10_finds) (As := [_]) dX10_apart_30 rfl mlRX10_131 okX10_finds npX10_finds rfl rfl rfl ⟨by decide, by decide⟩ (Nat.le_of_ble_eq_true rfl) rfl (Nat.le_of_ble_eq_true rfl) (c_fnd1   ?_)
          show V rS g (d + 67) mX10_apart 33 [some (.ref 83), some (.int a), some (.int w), some (.int v), none] [.int (-1000000001 : Int32)] (put M 87 1 (M 87 1 + 1)) Q
          exact V.ret dX10_apart_33 rfl (hbad h)
        · refine V.iload_n dX10_apart_21 rfl (i := 3) rfl ?_
          refine V.invs (z := mX10_isHour) (As := [_]) dX10_apart_22 rfl mlRX10_191 okX10_isHour npX10_isHour rfl (Nat.le_of_ble_eq_true rfl) rfl (Nat.le_of_ble_eq_true rfl) (c_hourR   ?_)
          show V rS g (d + 67) mX10_apart 25 [some (.ref 83), some (.int a), some (.int w), some (.int v), none] [.int (b2i (0 ≤ v ∧ v ≤ 23))] (M) Q
          refine V.if_ne (tgt := 34) dX10_apart_25 (by decide) (fun c25 => ?_) (fun c25 => ?_)
          · exact absurd ⟨(Classical.byContradiction fun z => c5 (b2i_f z)), (Classical.byContradiction fun z => c13 (b2i_f z)), c18, (Classical.byContradiction fun z => c25 (b2i_f z))⟩ h
          · refine V.aload_n dX10_apart_28 rfl (i := 0) rfl ?_
            refine V.iconst dX10_apart_29 (v := 1) (by decide) ?_
            refine V.invv (z := mX10_finds) (As := [_]) dX10_apart_30 rfl mlRX10_131 okX10_finds npX10_finds rfl rfl rfl ⟨by decide, by decide⟩ (Nat.le_of_ble_eq_true rfl) rfl (Nat.le_of_ble_eq_true rfl) (c_fnd1   ?_)
            show V rS g (d + 67) mX10_apart 33 [some (.ref 83), some (.int a), some (.int w), some (.int v), none] [.int (-1000000001 : Int32)] (put (M) 87 1 ((M) 87 1 + 1)) Q
            exact V.ret dX10_apart_33 rfl (hbad h)

