/-! ===== the reference: a unit, a text, a law ===== -/
theorem dig_rg {c : Int32} (h : dig c = true) : ∃ j, 48 ≤ j ∧ j ≤ 57 ∧ c = nI j := by
  unfold dig at h
  rw [Bool.and_eq_true] at h
  obtain ⟨j, hj, rfl⟩ := nI_of2 (M := 57) (n := 57) (by decide) (Int32.not_lt.mpr (Int32.le_trans (by decide) (of_decide_eq_true h.1))) (of_decide_eq_true h.2)
  exact ⟨j, (nI_leI (a := 48) (by omega) (by omega)).mp (of_decide_eq_true h.1), hj, rfl⟩
theorem dig_nm {c : Int32} {us : Nat} (h : dig c = true) : ¬ 0 ≤ nmI us c ∧ ¬ c = 33 ∧ ¬ c = 40 := by
  obtain ⟨j, h1, h2, rfl⟩ := dig_rg h
  have hh : ∀ j, j < 58 → 48 ≤ j → ¬ 0 ≤ nmI 0 (nI j) ∧ ¬ 0 ≤ nmI 1 (nI j) ∧ ¬ nI j = 33 ∧ ¬ nI j = 40 := by decide +kernel
  obtain ⟨q1, q2, q3, q4⟩ := hh j (by omega) h1
  refine ⟨?_, q3, q4⟩
  unfold nmI at q1 q2 ⊢
  by_cases hu : us = 0
  · rw [if_pos hu]; rw [if_pos rfl] at q1; exact q1
  · rw [if_neg hu]; rw [if_neg (by decide)] at q2; exact q2
theorem nvF_n {nt : Nat → Int32} : ∀ (n k m : Nat), ∃ m', m' < (m + 1) * 10 ^ n ∧ nvF nt k n (nI m) = nI m'
  | 0, k, m => ⟨m, by simp, rfl⟩
  | n + 1, k, m => by
    unfold nvF
    by_cases h : dig (nt k) = true
    · rw [if_pos h]
      obtain ⟨c, h1, h2, hc⟩ := dig_rg h
      have e : nI m * 10 + nt k - 48 = nI (m * 10 + (c - 48)) := by
        rw [hc, show nI m * 10 = nI (m * 10) from pk_mul m 10, nI_add, show (48 : Int32) = nI 48 from rfl, pk_sub (by omega), show m * 10 + c - 48 = m * 10 + (c - 48) by omega]
      rw [e]
      obtain ⟨m', h3, h4⟩ := nvF_n (nt := nt) n (k + 1) (m * 10 + (c - 48))
      refine ⟨m', Nat.lt_of_lt_of_le h3 ?_, h4⟩
      have h5 : (m * 10 + (c - 48) + 1) * 10 ^ n ≤ ((m + 1) * 10) * 10 ^ n := Nat.mul_le_mul_right _ (by omega)
      rw [Nat.pow_succ, Nat.mul_comm (10 ^ n) 10, ← Nat.mul_assoc]
      exact h5
    · rw [if_neg h]
      exact ⟨m, Nat.lt_of_lt_of_le (Nat.lt_succ_self m) (Nat.le_mul_of_pos_right _ (Nat.pow_pos (by decide))), rfl⟩
theorem isdg {c : Int32} : b2i ((48 : Int32) ≤ c ∧ c ≤ (57 : Int32)) = b2i (dig c = true) := b2i_iff (by unfold dig; rw [Bool.and_eq_true, decide_eq_true_iff, decide_eq_true_iff])

set_option maxHeartbeats 4000000 in
set_option maxRecDepth 100000 in
theorem l_dig {g : GG} {d : Nat} {M0 : Mem} {us base sz op : Nat} (hT : EvT M0 us base sz) {c0 l2 : Int32} : ∀ (n t k : Nat) (v : Int32) (M : Mem) (Q : Option Value → Mem → Prop), t + n = 4 → k ≤ sz → EvP M0 M k op → 1 ≤ t + ndF (nx (fun i => M0 84 (base + i)) sz) k n → (∀ M', EvP M0 M' (k + ndF (nx (fun i => M0 84 (base + i)) sz) k n) op → Q (some (.int (nvF (nx (fun i => M0 84 (base + i)) sz) k n v))) M') → V rS g (d + 2) mX10_unit 150 [some (.ref 83), some (.int c0), some (.int l2), some (.int v), some (.int (nI t))] [] M Q := by
  intro n
  induction n with
  | zero =>
    intro t k v M Q ht hk hR hp hQ
    obtain rfl : t = 4 := by omega
    refine V.iload dX10_unit_150 rfl ?_
    refine V.iconst dX10_unit_152 (v := 4) (by decide) ?_
    refine V.ic_ge (tgt := 202) dX10_unit_153 (by decide) (fun c153 => ?_) (fun q => absurd ((by decide)) q)
    refine V.iload dX10_unit_202 rfl ?_
    refine V.if_ne (tgt := 214) dX10_unit_204 (by decide) (fun c204 => ?_) (fun q => absurd q ((by decide)))
    refine V.iload_n dX10_unit_214 rfl (i := 3) rfl ?_
    exact V.ret dX10_unit_215 rfl (hQ M hR)
  | succ n ih =>
    intro t k v M Q ht hk hR hp hQ
    by_cases hd : dig ((nx (fun i => M0 84 (base + i)) sz) k) = true
    · have hks := dig_in hd
      rw [ndF, if_pos hd] at hp
      rw [ndF, nvF, if_pos hd, if_pos hd, show k + (1 + ndF (nx (fun i => M0 84 (base + i)) sz) (k + 1) n) = k + 1 + ndF (nx (fun i => M0 84 (base + i)) sz) (k + 1) n by omega] at hQ
      refine V.iload dX10_unit_150 rfl ?_
      refine V.iconst dX10_unit_152 (v := 4) (by decide) ?_
      refine V.ic_ge (tgt := 202) dX10_unit_153 (by decide) (fun q => absurd q ((nI_ge (a := t) (b := 4) (by omega) (by omega)))) (fun c153 => ?_)
      refine V.aload_n dX10_unit_156 rfl (i := 0) rfl ?_
      refine V.invv (z := mX10_here) (As := []) dX10_unit_157 rfl mlRX10_85 okX10_here npX10_here rfl rfl rfl ⟨by decide, by decide⟩ (Nat.le_of_ble_eq_true rfl) rfl (Nat.le_of_ble_eq_true rfl) (c_here hT hR hk ?_)
      show V rS g (d + 2) mX10_unit 160 [some (.ref 83), some (.int c0), some (.int l2), some (.int v), some (.int (nI t))] [.int ((nx (fun i => M0 84 (base + i)) sz) k)] M Q
      refine V.i2l dX10_unit_160 ?_
      refine V.ldc2 dX10_unit_161 rfl clRX10_125 ?_
      refine V.ldc2 dX10_unit_164 rfl clRX10_127 ?_
      refine V.invs (z := mX10_in) (As := [_, _, _]) dX10_unit_167 rfl mlRX10_66 okX10_in npX10_in rfl (Nat.le_of_ble_eq_true rfl) rfl (Nat.le_of_ble_eq_true rfl) (c_in32 (v := ((nx (fun i => M0 84 (base + i)) sz) k)) (lo := (48 : Int32)) (hi := (57 : Int32)) (by first | rfl | decide) (by first | rfl | decide)   ?_)
      show V rS g (d + 2) mX10_unit 170 [some (.ref 83), some (.int c0), some (.int l2), some (.int v), some (.int (nI t))] [.int (b2i ((48 : Int32) ≤ ((nx (fun i => M0 84 (base + i)) sz) k) ∧ ((nx (fun i => M0 84 (base + i)) sz) k) ≤ (57 : Int32)))] M Q
      refine V.top (x' := (b2i (dig ((nx (fun i => M0 84 (base + i)) sz) k) = true))) (isdg) ?_
      refine V.if_eq (tgt := 202) dX10_unit_170 (by decide) (fun q => absurd q ((fun z => b2i_0.mp z hd))) (fun c170 => ?_)
      refine V.bipush dX10_unit_173 (v := 10) (by decide) ?_
      refine V.iload_n dX10_unit_175 rfl (i := 3) rfl ?_
      refine V.imul dX10_unit_176 ?_
      refine V.aload_n dX10_unit_177 rfl (i := 0) rfl ?_
      refine V.invv (z := mX10_here) (As := []) dX10_unit_178 rfl mlRX10_85 okX10_here npX10_here rfl rfl rfl ⟨by decide, by decide⟩ (Nat.le_of_ble_eq_true rfl) rfl (Nat.le_of_ble_eq_true rfl) (c_here hT hR hk ?_)
      show V rS g (d + 2) mX10_unit 181 [some (.ref 83), some (.int c0), some (.int l2), some (.int v), some (.int (nI t))] [.int ((nx (fun i => M0 84 (base + i)) sz) k), .int ((10 : Int32) * v)] M Q
      refine V.iadd dX10_unit_181 ?_
      refine V.bipush dX10_unit_182 (v := 48) (by decide) ?_
      refine V.isub dX10_unit_184 ?_
      refine V.top (x' := (v * 10 + (nx (fun i => M0 84 (base + i)) sz) k - 48)) ((by rw [Int32.mul_comm])) ?_
      refine V.istore_n dX10_unit_185 rfl (i := 3) (by decide) (fun _ h => by cases h; exact Or.inl rfl) rfl ?_
      refine V.aload_n dX10_unit_186 rfl (i := 0) rfl ?_
      refine V.dup dX10_unit_187 rfl ?_
      refine V.getI dX10_unit_188 rfl flRX10_72 rfl ⟨by decide, by decide⟩ ?_
      refine V.top (x' := (nI k)) (hR.2.1) ?_
      refine V.iconst dX10_unit_191 (v := 1) (by decide) ?_
      refine V.iadd dX10_unit_192 ?_
      refine V.top (x' := (nI (k + 1))) (nI_add k 1) ?_
      refine V.putI dX10_unit_193 rfl fpRX10_72 rfl ⟨by decide, by decide⟩ ?_
      refine V.iinc dX10_unit_196 rfl (v := (nI (t + 1))) (nI_1 _) (by decide) (fun _ h => by cases h; exact Or.inl rfl) rfl ?_
      refine V.goto dX10_unit_199 (tgt := 150) (by decide) ?_
      exact ih (t + 1) (k + 1) _ _ Q (by omega) hks hR.go (by omega) hQ
    · rw [ndF, if_neg hd] at hp
      rw [ndF, nvF, if_neg hd, if_neg hd] at hQ
      refine V.iload dX10_unit_150 rfl ?_
      refine V.iconst dX10_unit_152 (v := 4) (by decide) ?_
      refine V.ic_ge (tgt := 202) dX10_unit_153 (by decide) (fun q => absurd q ((nI_ge (a := t) (b := 4) (by omega) (by omega)))) (fun c153 => ?_)
      refine V.aload_n dX10_unit_156 rfl (i := 0) rfl ?_
      refine V.invv (z := mX10_here) (As := []) dX10_unit_157 rfl mlRX10_85 okX10_here npX10_here rfl rfl rfl ⟨by decide, by decide⟩ (Nat.le_of_ble_eq_true rfl) rfl (Nat.le_of_ble_eq_true rfl) (c_here hT hR hk ?_)
      show V rS g (d + 2) mX10_unit 160 [some (.ref 83), some (.int c0), some (.int l2), some (.int v), some (.int (nI t))] [.int ((nx (fun i => M0 84 (base + i)) sz) k)] M Q
      refine V.i2l dX10_unit_160 ?_
      refine V.ldc2 dX10_unit_161 rfl clRX10_125 ?_
      refine V.ldc2 dX10_unit_164 rfl clRX10_127 ?_
      refine V.invs (z := mX10_in) (As := [_, _, _]) dX10_unit_167 rfl mlRX10_66 okX10_in npX10_in rfl (Nat.le_of_ble_eq_true rfl) rfl (Nat.le_of_ble_eq_true rfl) (c_in32 (v := ((nx (fun i => M0 84 (base + i)) sz) k)) (lo := (48 : Int32)) (hi := (57 : Int32)) (by first | rfl | decide) (by first | rfl | decide)   ?_)
      show V rS g (d + 2) mX10_unit 170 [some (.ref 83), some (.int c0), some (.int l2), some (.int v), some (.int (nI t))] [.int (b2i ((48 : Int32) ≤ ((nx (fun i => M0 84 (base + i)) sz) k) ∧ ((nx (fun i => M0 84 (base + i)) sz) k) ≤ (57 : Int32)))] M Q
      refine V.top (x' := (b2i (dig ((nx (fun i => M0 84 (base + i)) sz) k) = true))) (isdg) ?_
      refine V.if_eq (tgt := 202) dX10_unit_170 (by decide) (fun c170 => ?_) (fun q => absurd ((b2i_f hd)) q)
      refine V.iload dX10_unit_202 rfl ?_
      refine V.if_ne (tgt := 214) dX10_unit_204 (by decide) (fun c204 => ?_) (fun q => absurd q ((nI_ne0 (by omega) (by omega))))
      refine V.iload_n dX10_unit_214 rfl (i := 3) rfl ?_
      exact V.ret dX10_unit_215 rfl (hQ M hR)
set_option maxHeartbeats 4000000 in
set_option maxRecDepth 100000 in
theorem s_EU {g : GG} {M0 : Mem} {us base sz f : Nat} (hT : EvT M0 us base sz) (hU : EM g M0 us base sz f 5 mX10_unit [some (.ref 83), none, none, none, none]) (hE : EM g M0 us base sz f 0 mX10_either [some (.ref 83), none, none]) : EM g M0 us base sz (f + 1) 5 mX10_unit [some (.ref 83), none, none, none, none] := by
  intro D op k out M Q r hD ho hk hf hR he hQ
  have h50 := hT.2.2.1
  obtain ⟨dd, rfl⟩ : ∃ dd, D = dd + 3 := ⟨D - 3, by omega⟩
  by_cases hd : dig ((nx (fun i => M0 84 (base + i)) sz) k) = true
  · have hks := dig_in hd
    obtain ⟨n1, n2, n3⟩ := dig_nm (us := us) hd
    rw [rd_dig hd] at he
    subst he
    obtain ⟨m', hm1, hm2⟩ := nvF_n (nt := (nx (fun i => M0 84 (base + i)) sz)) 4 k 0
    obtain ⟨c0, hc0⟩ : ∃ c0, (nx (fun i => M0 84 (base + i)) sz) k = c0 := ⟨_, rfl⟩
    rw [hc0] at n1 n2 n3
    refine V.aload_n dX10_unit_0 rfl (i := 0) rfl ?_
    refine V.invv (z := mX10_here) (As := []) dX10_unit_1 rfl mlRX10_85 okX10_here npX10_here rfl rfl rfl ⟨by decide, by decide⟩ (Nat.le_of_ble_eq_true rfl) rfl (Nat.le_of_ble_eq_true rfl) (c_here hT hR hk ?_)
    show V rS g (dd + 3) mX10_unit 4 [some (.ref 83), none, none, none, none] [.int ((nx (fun i => M0 84 (base + i)) sz) k)] M Q
    refine V.top (x' := c0) (hc0) ?_
    refine V.istore_n dX10_unit_4 rfl (i := 1) (by decide) (fun _ h => by cases h; exact Or.inl rfl) rfl ?_
    refine V.iload_n dX10_unit_5 rfl (i := 1) rfl ?_
    refine V.bipush dX10_unit_6 (v := 33) (by decide) ?_
    refine V.ic_eq (tgt := 17) dX10_unit_8 (by decide) (fun q => absurd q (n2)) (fun c8 => ?_)
    refine V.iload_n dX10_unit_11 rfl (i := 1) rfl ?_
    refine V.bipush dX10_unit_12 (v := 40) (by decide) ?_
    refine V.ic_ne (tgt := 118) dX10_unit_14 (by decide) (fun c14 => ?_) (fun q => absurd q (n3))
    refine V.aload_n dX10_unit_118 rfl (i := 0) rfl ?_
    refine V.iload_n dX10_unit_119 rfl (i := 1) rfl ?_
    refine V.invv (z := mX10_nameOf) (As := [_]) dX10_unit_120 rfl mlRX10_121 okX10_nameOf npX10_nameOf rfl rfl rfl ⟨by decide, by decide⟩ (Nat.le_of_ble_eq_true rfl) rfl (Nat.le_of_ble_eq_true rfl) (c_nameOf hT.2.2.2.2.2 (by rw [hR.1.2 10 (by decide) (by decide) (by decide)]; exact hT.2.2.2.2.1) ?_)
    show V rS g (dd + 3) mX10_unit 123 [some (.ref 83), some (.int c0), none, none, none] [.int (nmI us c0)] M Q
    refine V.istore_n dX10_unit_123 rfl (i := 2) (by decide) (fun _ h => by cases h; exact Or.inl rfl) rfl ?_
    refine V.iload_n dX10_unit_124 rfl (i := 2) rfl ?_
    refine V.if_lt (tgt := 145) dX10_unit_125 (by decide) (fun c125 => ?_) (fun q => absurd ((Int32.not_le.mp n1)) q)
    refine V.iconst dX10_unit_145 (v := 0) (by decide) ?_
    refine V.istore_n dX10_unit_146 rfl (i := 3) (by decide) (fun _ h => by cases h; exact Or.inl rfl) rfl ?_
    refine V.iconst dX10_unit_147 (v := 0) (by decide) ?_
    refine V.istore dX10_unit_148 (i := 4) (by decide) (fun _ h => by cases h; exact Or.inl rfl) rfl ?_
    exact l_dig (d := dd + 1) hT 4 0 k 0 M Q (by omega) hk hR (by have h1 : 1 ≤ ndF (nx (fun i => M0 84 (base + i)) sz) k 4 := ndF_pos (n := 3) hd; omega) (fun M1 h1 => hQ M1 _ (fun _ => ⟨[nvF (nx (fun i => M0 84 (base + i)) sz) k 4 0], rfl, (by rw [show nvF (nx (fun i => M0 84 (base + i)) sz) k 4 0 = nI m' from hm2]; exact Ev.num (by omega)), h1⟩) (fun z => by cases z))
  · by_cases c33 : (nx (fun i => M0 84 (base + i)) sz) k = 33
    · have hks : k < sz := nx_in (fun z => by rw [c33] at z; exact absurd z (by decide))
      have hc0 := c33
      by_cases ho5 : op < 5
      · rcases e : rd (nx (fun i => M0 84 (base + i)) sz) us f 5 (op + 1) (k + 1) out with ⟨b, k1, o1⟩
        obtain ⟨i1, i2, i3, i4⟩ := rd_inv f 5 (op + 1) (k + 1) out _ (by omega) hks e
        simp only at i1 i2 i3
        cases b
        · rw [rd_notF hd c33 ho5 e] at he
          subst he
          refine V.aload_n dX10_unit_0 rfl (i := 0) rfl ?_
          refine V.invv (z := mX10_here) (As := []) dX10_unit_1 rfl mlRX10_85 okX10_here npX10_here rfl rfl rfl ⟨by decide, by decide⟩ (Nat.le_of_ble_eq_true rfl) rfl (Nat.le_of_ble_eq_true rfl) (c_here hT hR hk ?_)
          show V rS g (dd + 3) mX10_unit 4 [some (.ref 83), none, none, none, none] [.int ((nx (fun i => M0 84 (base + i)) sz) k)] M Q
          refine V.top (x' := (33 : Int32)) (hc0) ?_
          refine V.istore_n dX10_unit_4 rfl (i := 1) (by decide) (fun _ h => by cases h; exact Or.inl rfl) rfl ?_
          refine V.iload_n dX10_unit_5 rfl (i := 1) rfl ?_
          refine V.bipush dX10_unit_6 (v := 33) (by decide) ?_
          refine V.ic_eq (tgt := 17) dX10_unit_8 (by decide) (fun c8 => ?_) (fun q => absurd (rfl) q)
          refine V.aload_n dX10_unit_17 rfl (i := 0) rfl ?_
          refine V.getI dX10_unit_18 rfl flRX10_112 rfl ⟨by decide, by decide⟩ ?_
          refine V.top (x' := (nI op)) (hR.2.2.2) ?_
          refine V.iconst dX10_unit_21 (v := 5) (by decide) ?_
          refine V.ic_ne (tgt := 30) dX10_unit_22 (by decide) (fun c22 => ?_) (fun q => absurd q ((fun z => absurd ((nI_eq (b := 5) (by omega) (by omega)).mp z) (by omega))))
          refine V.aload_n dX10_unit_30 rfl (i := 0) rfl ?_
          refine V.dup dX10_unit_31 rfl ?_
          refine V.getI dX10_unit_32 rfl flRX10_112 rfl ⟨by decide, by decide⟩ ?_
          refine V.top (x' := (nI op)) (hR.2.2.2) ?_
          refine V.iconst dX10_unit_35 (v := 1) (by decide) ?_
          refine V.iadd dX10_unit_36 ?_
          refine V.top (x' := (nI (op + 1))) (nI_add op 1) ?_
          refine V.putI dX10_unit_37 rfl fpRX10_112 rfl ⟨by decide, by decide⟩ ?_
          refine V.aload_n dX10_unit_40 rfl (i := 0) rfl ?_
          refine V.dup dX10_unit_41 rfl ?_
          refine V.getI dX10_unit_42 rfl flRX10_72 rfl ⟨by decide, by decide⟩ ?_
          refine V.top (x' := (nI k)) ((hR.op (op' := op + 1)).2.1) ?_
          refine V.iconst dX10_unit_45 (v := 1) (by decide) ?_
          refine V.iadd dX10_unit_46 ?_
          refine V.top (x' := (nI (k + 1))) (nI_add k 1) ?_
          refine V.putI dX10_unit_47 rfl fpRX10_72 rfl ⟨by decide, by decide⟩ ?_
          refine V.iload_n dX10_unit_50 rfl (i := 1) rfl ?_
          refine V.bipush dX10_unit_51 (v := 40) (by decide) ?_
          refine V.ic_ne (tgt := 63) dX10_unit_53 (by decide) (fun c53 => ?_) (fun q => absurd q ((by decide)))
          refine V.aload_n dX10_unit_63 rfl (i := 0) rfl ?_
          refine V.invv (z := mX10_unit) (As := []) dX10_unit_64 rfl mlRX10_109 okX10_unit npX10_unit rfl rfl rfl ⟨by decide, by decide⟩ (Nat.le_of_ble_eq_true rfl) rfl (Nat.le_of_ble_eq_true rfl) (hU (dd + 2) (op + 1) (k + 1) out (put (put M 83 9 (nI (op + 1))) 83 6 (nI (k + 1))) _ (false, k1, o1) (by omega) (by omega) hks (by omega) hR.op.go e (fun M1 v2 hT2 hF2 => ?_))
          show V rS g (dd + 3) mX10_unit 67 [some (.ref 83), some (.int (33 : Int32)), none, none, none] [.int v2] M1 Q
          refine V.istore_n dX10_unit_67 rfl (i := 2) (by decide) (fun _ h => by cases h; exact Or.inl rfl) rfl ?_
          refine V.iload_n dX10_unit_68 rfl (i := 1) rfl ?_
          refine V.bipush dX10_unit_69 (v := 40) (by decide) ?_
          refine V.ic_ne (tgt := 88) dX10_unit_71 (by decide) (fun c71 => ?_) (fun q => absurd q ((by decide)))
          refine V.aload_n dX10_unit_88 rfl (i := 0) rfl ?_
          refine V.dup dX10_unit_89 rfl ?_
          refine V.getI dX10_unit_90 rfl flRX10_112 rfl ⟨by decide, by decide⟩ ?_
          refine V.iconst dX10_unit_93 (v := 1) (by decide) ?_
          refine V.isub dX10_unit_94 ?_
          refine V.putI dX10_unit_95 rfl fpRX10_112 rfl ⟨by decide, by decide⟩ ?_
          refine V.iload_n dX10_unit_98 rfl (i := 1) rfl ?_
          refine V.bipush dX10_unit_99 (v := 40) (by decide) ?_
          refine V.ic_ne (tgt := 108) dX10_unit_101 (by decide) (fun c101 => ?_) (fun q => absurd q ((by decide)))
          refine V.iload_n dX10_unit_108 rfl (i := 2) rfl ?_
          refine V.if_ne (tgt := 116) dX10_unit_109 (by decide) (fun c109 => ?_) (fun c109 => ?_)
          · refine V.iconst dX10_unit_116 (v := 0) (by decide) ?_
            exact V.ret dX10_unit_117 rfl (hQ _ _ (fun z => by cases z) (fun _ => FtP.op (p := k1) (hF2 rfl)))
          · refine V.iconst dX10_unit_112 (v := 1) (by decide) ?_
            refine V.goto dX10_unit_113 (tgt := 117) (by decide) ?_
            exact V.ret dX10_unit_117 rfl (hQ _ _ (fun z => by cases z) (fun _ => FtP.op (p := k1) (hF2 rfl)))
        · rw [rd_notT hd c33 ho5 e] at he
          subst he
          refine V.aload_n dX10_unit_0 rfl (i := 0) rfl ?_
          refine V.invv (z := mX10_here) (As := []) dX10_unit_1 rfl mlRX10_85 okX10_here npX10_here rfl rfl rfl ⟨by decide, by decide⟩ (Nat.le_of_ble_eq_true rfl) rfl (Nat.le_of_ble_eq_true rfl) (c_here hT hR hk ?_)
          show V rS g (dd + 3) mX10_unit 4 [some (.ref 83), none, none, none, none] [.int ((nx (fun i => M0 84 (base + i)) sz) k)] M Q
          refine V.top (x' := (33 : Int32)) (hc0) ?_
          refine V.istore_n dX10_unit_4 rfl (i := 1) (by decide) (fun _ h => by cases h; exact Or.inl rfl) rfl ?_
          refine V.iload_n dX10_unit_5 rfl (i := 1) rfl ?_
          refine V.bipush dX10_unit_6 (v := 33) (by decide) ?_
          refine V.ic_eq (tgt := 17) dX10_unit_8 (by decide) (fun c8 => ?_) (fun q => absurd (rfl) q)
          refine V.aload_n dX10_unit_17 rfl (i := 0) rfl ?_
          refine V.getI dX10_unit_18 rfl flRX10_112 rfl ⟨by decide, by decide⟩ ?_
          refine V.top (x' := (nI op)) (hR.2.2.2) ?_
          refine V.iconst dX10_unit_21 (v := 5) (by decide) ?_
          refine V.ic_ne (tgt := 30) dX10_unit_22 (by decide) (fun c22 => ?_) (fun q => absurd q ((fun z => absurd ((nI_eq (b := 5) (by omega) (by omega)).mp z) (by omega))))
          refine V.aload_n dX10_unit_30 rfl (i := 0) rfl ?_
          refine V.dup dX10_unit_31 rfl ?_
          refine V.getI dX10_unit_32 rfl flRX10_112 rfl ⟨by decide, by decide⟩ ?_
          refine V.top (x' := (nI op)) (hR.2.2.2) ?_
          refine V.iconst dX10_unit_35 (v := 1) (by decide) ?_
          refine V.iadd dX10_unit_36 ?_
          refine V.top (x' := (nI (op + 1))) (nI_add op 1) ?_
          refine V.putI dX10_unit_37 rfl fpRX10_112 rfl ⟨by decide, by decide⟩ ?_
          refine V.aload_n dX10_unit_40 rfl (i := 0) rfl ?_
          refine V.dup dX10_unit_41 rfl ?_
          refine V.getI dX10_unit_42 rfl flRX10_72 rfl ⟨by decide, by decide⟩ ?_
          refine V.top (x' := (nI k)) ((hR.op (op' := op + 1)).2.1) ?_
          refine V.iconst dX10_unit_45 (v := 1) (by decide) ?_
          refine V.iadd dX10_unit_46 ?_
          refine V.top (x' := (nI (k + 1))) (nI_add k 1) ?_
          refine V.putI dX10_unit_47 rfl fpRX10_72 rfl ⟨by decide, by decide⟩ ?_
          refine V.iload_n dX10_unit_50 rfl (i := 1) rfl ?_
          refine V.bipush dX10_unit_51 (v := 40) (by decide) ?_
          refine V.ic_ne (tgt := 63) dX10_unit_53 (by decide) (fun c53 => ?_) (fun q => absurd q ((by decide)))
          refine V.aload_n dX10_unit_63 rfl (i := 0) rfl ?_
          refine V.invv (z := mX10_unit) (As := []) dX10_unit_64 rfl mlRX10_109 okX10_unit npX10_unit rfl rfl rfl ⟨by decide, by decide⟩ (Nat.le_of_ble_eq_true rfl) rfl (Nat.le_of_ble_eq_true rfl) (hU (dd + 2) (op + 1) (k + 1) out (put (put M 83 9 (nI (op + 1))) 83 6 (nI (k + 1))) _ (true, k1, o1) (by omega) (by omega) hks (by omega) hR.op.go e (fun M1 v2 hT2 hF2 => ?_))
          show V rS g (dd + 3) mX10_unit 67 [some (.ref 83), some (.int (33 : Int32)), none, none, none] [.int v2] M1 Q
          obtain ⟨w2, hw2, hv2, h2⟩ := hT2 rfl
          refine V.istore_n dX10_unit_67 rfl (i := 2) (by decide) (fun _ h => by cases h; exact Or.inl rfl) rfl ?_
          refine V.iload_n dX10_unit_68 rfl (i := 1) rfl ?_
          refine V.bipush dX10_unit_69 (v := 40) (by decide) ?_
          refine V.ic_ne (tgt := 88) dX10_unit_71 (by decide) (fun c71 => ?_) (fun q => absurd q ((by decide)))
          refine V.aload_n dX10_unit_88 rfl (i := 0) rfl ?_
          refine V.dup dX10_unit_89 rfl ?_
          refine V.getI dX10_unit_90 rfl flRX10_112 rfl ⟨by decide, by decide⟩ ?_
          refine V.top (x' := (nI (op + 1))) (h2.2.2.2) ?_
          refine V.iconst dX10_unit_93 (v := 1) (by decide) ?_
          refine V.isub dX10_unit_94 ?_
          refine V.top (x' := (nI op)) ((nI_pred op)) ?_
          refine V.putI dX10_unit_95 rfl fpRX10_112 rfl ⟨by decide, by decide⟩ ?_
          refine V.iload_n dX10_unit_98 rfl (i := 1) rfl ?_
          refine V.bipush dX10_unit_99 (v := 40) (by decide) ?_
          refine V.ic_ne (tgt := 108) dX10_unit_101 (by decide) (fun c101 => ?_) (fun q => absurd q ((by decide)))
          refine V.iload_n dX10_unit_108 rfl (i := 2) rfl ?_
          suffices kJ109 : V rS g (dd + 3) mX10_unit 117 [some (.ref 83), some (.int (33 : Int32)), some (.int v2), none, none] [.int (if v2 = (0 : Int32) then (1 : Int32) else (0 : Int32))] (put M1 83 9 (nI op)) Q by
            refine V.if_ne (tgt := 116) dX10_unit_109 (by decide) (fun c109 => ?_) (fun c109 => ?_)
            · refine V.iconst dX10_unit_116 (v := 0) (by decide) ?_
              rw [if_neg c109] at kJ109; exact kJ109
            · refine V.iconst dX10_unit_112 (v := 1) (by decide) ?_
              refine V.goto dX10_unit_113 (tgt := 117) (by decide) ?_
              rw [if_pos c109] at kJ109; exact kJ109
          exact V.ret dX10_unit_117 rfl (hQ _ _ (fun _ => ⟨w2 ++ [-33], (by rw [← List.append_assoc]; exact congrArg (· ++ [-33]) hw2), hv2.not, h2.op⟩) (fun z => by cases z))
      · rw [rd_not5 hd c33 ho5] at he
        subst he
        obtain rfl : op = 5 := by omega
        refine V.aload_n dX10_unit_0 rfl (i := 0) rfl ?_
        refine V.invv (z := mX10_here) (As := []) dX10_unit_1 rfl mlRX10_85 okX10_here npX10_here rfl rfl rfl ⟨by decide, by decide⟩ (Nat.le_of_ble_eq_true rfl) rfl (Nat.le_of_ble_eq_true rfl) (c_here hT hR hk ?_)
        show V rS g (dd + 3) mX10_unit 4 [some (.ref 83), none, none, none, none] [.int ((nx (fun i => M0 84 (base + i)) sz) k)] M Q
        refine V.top (x' := (33 : Int32)) (hc0) ?_
        refine V.istore_n dX10_unit_4 rfl (i := 1) (by decide) (fun _ h => by cases h; exact Or.inl rfl) rfl ?_
        refine V.iload_n dX10_unit_5 rfl (i := 1) rfl ?_
        refine V.bipush dX10_unit_6 (v := 33) (by decide) ?_
        refine V.ic_eq (tgt := 17) dX10_unit_8 (by decide) (fun c8 => ?_) (fun q => absurd (rfl) q)
        refine V.aload_n dX10_unit_17 rfl (i := 0) rfl ?_
        refine V.getI dX10_unit_18 rfl flRX10_112 rfl ⟨by decide, by decide⟩ ?_
        refine V.top (x' := (nI 5)) (hR.2.2.2) ?_
        refine V.iconst dX10_unit_21 (v := 5) (by decide) ?_
        refine V.ic_ne (tgt := 30) dX10_unit_22 (by decide) (fun q => absurd (rfl) q) (fun c22 => ?_)
        refine V.aload_n dX10_unit_25 rfl (i := 0) rfl ?_
        refine V.invv (z := mX10_wrong) (As := []) dX10_unit_26 rfl mlRX10_115 okX10_wrong npX10_wrong rfl rfl rfl ⟨by decide, by decide⟩ (Nat.le_of_ble_eq_true rfl) rfl (Nat.le_of_ble_eq_true rfl) (c_wrong hR ?_)
        show V rS g (dd + 3) mX10_unit 29 [some (.ref 83), some (.int (33 : Int32)), none, none, none] [.int (0 : Int32)] (put M 83 8 (nI k)) Q
        exact V.ret dX10_unit_29 rfl (hQ _ _ (fun z => by cases z) (fun _ => hR.no))
    · by_cases c40 : (nx (fun i => M0 84 (base + i)) sz) k = 40
      · have hks : k < sz := nx_in (fun z => by rw [c40] at z; exact absurd z (by decide))
        have hc0 := c40
        by_cases ho5 : op < 5
        · rcases e : rd (nx (fun i => M0 84 (base + i)) sz) us f 0 (op + 1) (k + 1) out with ⟨b, k1, o1⟩
          obtain ⟨i1, i2, i3, i4⟩ := rd_inv f 0 (op + 1) (k + 1) out _ (by omega) hks e
          simp only at i1 i2 i3
          cases b
          · rw [rd_brF hd c33 c40 ho5 e] at he
            subst he
            refine V.aload_n dX10_unit_0 rfl (i := 0) rfl ?_
            refine V.invv (z := mX10_here) (As := []) dX10_unit_1 rfl mlRX10_85 okX10_here npX10_here rfl rfl rfl ⟨by decide, by decide⟩ (Nat.le_of_ble_eq_true rfl) rfl (Nat.le_of_ble_eq_true rfl) (c_here hT hR hk ?_)
            show V rS g (dd + 3) mX10_unit 4 [some (.ref 83), none, none, none, none] [.int ((nx (fun i => M0 84 (base + i)) sz) k)] M Q
            refine V.top (x' := (40 : Int32)) (hc0) ?_
            refine V.istore_n dX10_unit_4 rfl (i := 1) (by decide) (fun _ h => by cases h; exact Or.inl rfl) rfl ?_
            refine V.iload_n dX10_unit_5 rfl (i := 1) rfl ?_
            refine V.bipush dX10_unit_6 (v := 33) (by decide) ?_
            refine V.ic_eq (tgt := 17) dX10_unit_8 (by decide) (fun q => absurd q ((by decide))) (fun c8 => ?_)
            refine V.iload_n dX10_unit_11 rfl (i := 1) rfl ?_
            refine V.bipush dX10_unit_12 (v := 40) (by decide) ?_
            refine V.ic_ne (tgt := 118) dX10_unit_14 (by decide) (fun q => absurd (rfl) q) (fun c14 => ?_)
            refine V.aload_n dX10_unit_17 rfl (i := 0) rfl ?_
            refine V.getI dX10_unit_18 rfl flRX10_112 rfl ⟨by decide, by decide⟩ ?_
            refine V.top (x' := (nI op)) (hR.2.2.2) ?_
            refine V.iconst dX10_unit_21 (v := 5) (by decide) ?_
            refine V.ic_ne (tgt := 30) dX10_unit_22 (by decide) (fun c22 => ?_) (fun q => absurd q ((fun z => absurd ((nI_eq (b := 5) (by omega) (by omega)).mp z) (by omega))))
            refine V.aload_n dX10_unit_30 rfl (i := 0) rfl ?_
            refine V.dup dX10_unit_31 rfl ?_
            refine V.getI dX10_unit_32 rfl flRX10_112 rfl ⟨by decide, by decide⟩ ?_
            refine V.top (x' := (nI op)) (hR.2.2.2) ?_
            refine V.iconst dX10_unit_35 (v := 1) (by decide) ?_
            refine V.iadd dX10_unit_36 ?_
            refine V.top (x' := (nI (op + 1))) (nI_add op 1) ?_
            refine V.putI dX10_unit_37 rfl fpRX10_112 rfl ⟨by decide, by decide⟩ ?_
            refine V.aload_n dX10_unit_40 rfl (i := 0) rfl ?_
            refine V.dup dX10_unit_41 rfl ?_
            refine V.getI dX10_unit_42 rfl flRX10_72 rfl ⟨by decide, by decide⟩ ?_
            refine V.top (x' := (nI k)) ((hR.op (op' := op + 1)).2.1) ?_
            refine V.iconst dX10_unit_45 (v := 1) (by decide) ?_
            refine V.iadd dX10_unit_46 ?_
            refine V.top (x' := (nI (k + 1))) (nI_add k 1) ?_
            refine V.putI dX10_unit_47 rfl fpRX10_72 rfl ⟨by decide, by decide⟩ ?_
            refine V.iload_n dX10_unit_50 rfl (i := 1) rfl ?_
            refine V.bipush dX10_unit_51 (v := 40) (by decide) ?_
            refine V.ic_ne (tgt := 63) dX10_unit_53 (by decide) (fun q => absurd (rfl) q) (fun c53 => ?_)
            refine V.aload_n dX10_unit_56 rfl (i := 0) rfl ?_
            refine V.invv (z := mX10_either) (As := []) dX10_unit_57 rfl mlRX10_118 okX10_either npX10_either rfl rfl rfl ⟨by decide, by decide⟩ (Nat.le_of_ble_eq_true rfl) rfl (Nat.le_of_ble_eq_true rfl) (hE (dd + 2) (op + 1) (k + 1) out (put (put M 83 9 (nI (op + 1))) 83 6 (nI (k + 1))) _ (false, k1, o1) (by omega) (by omega) hks (by omega) hR.op.go e (fun M1 v2 hT2 hF2 => ?_))
            show V rS g (dd + 3) mX10_unit 60 [some (.ref 83), some (.int (40 : Int32)), none, none, none] [.int v2] M1 Q
            refine V.goto dX10_unit_60 (tgt := 67) (by decide) ?_
            refine V.istore_n dX10_unit_67 rfl (i := 2) (by decide) (fun _ h => by cases h; exact Or.inl rfl) rfl ?_
            refine V.iload_n dX10_unit_68 rfl (i := 1) rfl ?_
            refine V.bipush dX10_unit_69 (v := 40) (by decide) ?_
            refine V.ic_ne (tgt := 88) dX10_unit_71 (by decide) (fun q => absurd (rfl) q) (fun c71 => ?_)
            refine V.aload_n dX10_unit_74 rfl (i := 0) rfl ?_
            refine V.bipush dX10_unit_75 (v := 41) (by decide) ?_
            refine V.invv (z := mX10_takes) (As := [_]) dX10_unit_77 rfl mlRX10_96 okX10_takes npX10_takes rfl rfl rfl ⟨by decide, by decide⟩ (Nat.le_of_ble_eq_true rfl) rfl (Nat.le_of_ble_eq_true rfl) (c_takesF (p := k1) (hF2 rfl) (by omega) (by decide) ?_)
            show V rS g (dd + 3) mX10_unit 80 [some (.ref 83), some (.int (40 : Int32)), some (.int v2), none, none] [.int (0 : Int32)] M1 Q
            refine V.if_ne (tgt := 88) dX10_unit_80 (by decide) (fun q => absurd (rfl) q) (fun c80 => ?_)
            refine V.aload_n dX10_unit_83 rfl (i := 0) rfl ?_
            refine V.invv (z := mX10_wrong) (As := []) dX10_unit_84 rfl mlRX10_115 okX10_wrong npX10_wrong rfl rfl rfl ⟨by decide, by decide⟩ (Nat.le_of_ble_eq_true rfl) rfl (Nat.le_of_ble_eq_true rfl) (c_wrongF (p := k1) (hF2 rfl) (by omega) ?_)
            show V rS g (dd + 3) mX10_unit 87 [some (.ref 83), some (.int (40 : Int32)), some (.int v2), none, none] [.int (0 : Int32)] (put M1 83 8 (nI k1)) Q
            exact V.ret dX10_unit_87 rfl (hQ _ _ (fun z => by cases z) (fun _ => ⟨(hF2 rfl).1.p8, put_s⟩))
          · by_cases c41 : (nx (fun i => M0 84 (base + i)) sz) k1 = 41
            · rw [rd_brT hd c33 c40 ho5 e c41] at he
              subst he
              refine V.aload_n dX10_unit_0 rfl (i := 0) rfl ?_
              refine V.invv (z := mX10_here) (As := []) dX10_unit_1 rfl mlRX10_85 okX10_here npX10_here rfl rfl rfl ⟨by decide, by decide⟩ (Nat.le_of_ble_eq_true rfl) rfl (Nat.le_of_ble_eq_true rfl) (c_here hT hR hk ?_)
              show V rS g (dd + 3) mX10_unit 4 [some (.ref 83), none, none, none, none] [.int ((nx (fun i => M0 84 (base + i)) sz) k)] M Q
              refine V.top (x' := (40 : Int32)) (hc0) ?_
              refine V.istore_n dX10_unit_4 rfl (i := 1) (by decide) (fun _ h => by cases h; exact Or.inl rfl) rfl ?_
              refine V.iload_n dX10_unit_5 rfl (i := 1) rfl ?_
              refine V.bipush dX10_unit_6 (v := 33) (by decide) ?_
              refine V.ic_eq (tgt := 17) dX10_unit_8 (by decide) (fun q => absurd q ((by decide))) (fun c8 => ?_)
              refine V.iload_n dX10_unit_11 rfl (i := 1) rfl ?_
              refine V.bipush dX10_unit_12 (v := 40) (by decide) ?_
              refine V.ic_ne (tgt := 118) dX10_unit_14 (by decide) (fun q => absurd (rfl) q) (fun c14 => ?_)
              refine V.aload_n dX10_unit_17 rfl (i := 0) rfl ?_
              refine V.getI dX10_unit_18 rfl flRX10_112 rfl ⟨by decide, by decide⟩ ?_
              refine V.top (x' := (nI op)) (hR.2.2.2) ?_
              refine V.iconst dX10_unit_21 (v := 5) (by decide) ?_
              refine V.ic_ne (tgt := 30) dX10_unit_22 (by decide) (fun c22 => ?_) (fun q => absurd q ((fun z => absurd ((nI_eq (b := 5) (by omega) (by omega)).mp z) (by omega))))
              refine V.aload_n dX10_unit_30 rfl (i := 0) rfl ?_
              refine V.dup dX10_unit_31 rfl ?_
              refine V.getI dX10_unit_32 rfl flRX10_112 rfl ⟨by decide, by decide⟩ ?_
              refine V.top (x' := (nI op)) (hR.2.2.2) ?_
              refine V.iconst dX10_unit_35 (v := 1) (by decide) ?_
              refine V.iadd dX10_unit_36 ?_
              refine V.top (x' := (nI (op + 1))) (nI_add op 1) ?_
              refine V.putI dX10_unit_37 rfl fpRX10_112 rfl ⟨by decide, by decide⟩ ?_
              refine V.aload_n dX10_unit_40 rfl (i := 0) rfl ?_
              refine V.dup dX10_unit_41 rfl ?_
              refine V.getI dX10_unit_42 rfl flRX10_72 rfl ⟨by decide, by decide⟩ ?_
              refine V.top (x' := (nI k)) ((hR.op (op' := op + 1)).2.1) ?_
              refine V.iconst dX10_unit_45 (v := 1) (by decide) ?_
              refine V.iadd dX10_unit_46 ?_
              refine V.top (x' := (nI (k + 1))) (nI_add k 1) ?_
              refine V.putI dX10_unit_47 rfl fpRX10_72 rfl ⟨by decide, by decide⟩ ?_
              refine V.iload_n dX10_unit_50 rfl (i := 1) rfl ?_
              refine V.bipush dX10_unit_51 (v := 40) (by decide) ?_
              refine V.ic_ne (tgt := 63) dX10_unit_53 (by decide) (fun q => absurd (rfl) q) (fun c53 => ?_)
              refine V.aload_n dX10_unit_56 rfl (i := 0) rfl ?_
              refine V.invv (z := mX10_either) (As := []) dX10_unit_57 rfl mlRX10_118 okX10_either npX10_either rfl rfl rfl ⟨by decide, by decide⟩ (Nat.le_of_ble_eq_true rfl) rfl (Nat.le_of_ble_eq_true rfl) (hE (dd + 2) (op + 1) (k + 1) out (put (put M 83 9 (nI (op + 1))) 83 6 (nI (k + 1))) _ (true, k1, o1) (by omega) (by omega) hks (by omega) hR.op.go e (fun M1 v2 hT2 hF2 => ?_))
              show V rS g (dd + 3) mX10_unit 60 [some (.ref 83), some (.int (40 : Int32)), none, none, none] [.int v2] M1 Q
              refine V.goto dX10_unit_60 (tgt := 67) (by decide) ?_
              obtain ⟨w2, hw2, hv2, h2⟩ := hT2 rfl
              refine V.istore_n dX10_unit_67 rfl (i := 2) (by decide) (fun _ h => by cases h; exact Or.inl rfl) rfl ?_
              refine V.iload_n dX10_unit_68 rfl (i := 1) rfl ?_
              refine V.bipush dX10_unit_69 (v := 40) (by decide) ?_
              refine V.ic_ne (tgt := 88) dX10_unit_71 (by decide) (fun q => absurd (rfl) q) (fun c71 => ?_)
              refine V.aload_n dX10_unit_74 rfl (i := 0) rfl ?_
              refine V.bipush dX10_unit_75 (v := 41) (by decide) ?_
              refine V.invv (z := mX10_takes) (As := [_]) dX10_unit_77 rfl mlRX10_96 okX10_takes npX10_takes rfl rfl rfl ⟨by decide, by decide⟩ (Nat.le_of_ble_eq_true rfl) rfl (Nat.le_of_ble_eq_true rfl) (c_takesT hT h2 i2 c41 ?_)
              show V rS g (dd + 3) mX10_unit 80 [some (.ref 83), some (.int (40 : Int32)), some (.int v2), none, none] [.int (1 : Int32)] (put M1 83 6 (nI (k1 + 1))) Q
              refine V.if_ne (tgt := 88) dX10_unit_80 (by decide) (fun c80 => ?_) (fun q => absurd q ((by decide)))
              refine V.aload_n dX10_unit_88 rfl (i := 0) rfl ?_
              refine V.dup dX10_unit_89 rfl ?_
              refine V.getI dX10_unit_90 rfl flRX10_112 rfl ⟨by decide, by decide⟩ ?_
              refine V.top (x' := (nI (op + 1))) ((h2.go (k' := k1 + 1)).2.2.2) ?_
              refine V.iconst dX10_unit_93 (v := 1) (by decide) ?_
              refine V.isub dX10_unit_94 ?_
              refine V.top (x' := (nI op)) ((nI_pred op)) ?_
              refine V.putI dX10_unit_95 rfl fpRX10_112 rfl ⟨by decide, by decide⟩ ?_
              refine V.iload_n dX10_unit_98 rfl (i := 1) rfl ?_
              refine V.bipush dX10_unit_99 (v := 40) (by decide) ?_
              refine V.ic_ne (tgt := 108) dX10_unit_101 (by decide) (fun q => absurd (rfl) q) (fun c101 => ?_)
              refine V.iload_n dX10_unit_104 rfl (i := 2) rfl ?_
              refine V.goto dX10_unit_105 (tgt := 117) (by decide) ?_
              exact V.ret dX10_unit_117 rfl (hQ _ _ (fun _ => ⟨w2, hw2, hv2, h2.go.op⟩) (fun z => by cases z))
            · rw [rd_brN hd c33 c40 ho5 e c41] at he
              subst he
              refine V.aload_n dX10_unit_0 rfl (i := 0) rfl ?_
              refine V.invv (z := mX10_here) (As := []) dX10_unit_1 rfl mlRX10_85 okX10_here npX10_here rfl rfl rfl ⟨by decide, by decide⟩ (Nat.le_of_ble_eq_true rfl) rfl (Nat.le_of_ble_eq_true rfl) (c_here hT hR hk ?_)
              show V rS g (dd + 3) mX10_unit 4 [some (.ref 83), none, none, none, none] [.int ((nx (fun i => M0 84 (base + i)) sz) k)] M Q
              refine V.top (x' := (40 : Int32)) (hc0) ?_
              refine V.istore_n dX10_unit_4 rfl (i := 1) (by decide) (fun _ h => by cases h; exact Or.inl rfl) rfl ?_
              refine V.iload_n dX10_unit_5 rfl (i := 1) rfl ?_
              refine V.bipush dX10_unit_6 (v := 33) (by decide) ?_
              refine V.ic_eq (tgt := 17) dX10_unit_8 (by decide) (fun q => absurd q ((by decide))) (fun c8 => ?_)
              refine V.iload_n dX10_unit_11 rfl (i := 1) rfl ?_
              refine V.bipush dX10_unit_12 (v := 40) (by decide) ?_
              refine V.ic_ne (tgt := 118) dX10_unit_14 (by decide) (fun q => absurd (rfl) q) (fun c14 => ?_)
              refine V.aload_n dX10_unit_17 rfl (i := 0) rfl ?_
              refine V.getI dX10_unit_18 rfl flRX10_112 rfl ⟨by decide, by decide⟩ ?_
              refine V.top (x' := (nI op)) (hR.2.2.2) ?_
              refine V.iconst dX10_unit_21 (v := 5) (by decide) ?_
              refine V.ic_ne (tgt := 30) dX10_unit_22 (by decide) (fun c22 => ?_) (fun q => absurd q ((fun z => absurd ((nI_eq (b := 5) (by omega) (by omega)).mp z) (by omega))))
              refine V.aload_n dX10_unit_30 rfl (i := 0) rfl ?_
              refine V.dup dX10_unit_31 rfl ?_
              refine V.getI dX10_unit_32 rfl flRX10_112 rfl ⟨by decide, by decide⟩ ?_
              refine V.top (x' := (nI op)) (hR.2.2.2) ?_
              refine V.iconst dX10_unit_35 (v := 1) (by decide) ?_
              refine V.iadd dX10_unit_36 ?_
              refine V.top (x' := (nI (op + 1))) (nI_add op 1) ?_
              refine V.putI dX10_unit_37 rfl fpRX10_112 rfl ⟨by decide, by decide⟩ ?_
              refine V.aload_n dX10_unit_40 rfl (i := 0) rfl ?_
              refine V.dup dX10_unit_41 rfl ?_
              refine V.getI dX10_unit_42 rfl flRX10_72 rfl ⟨by decide, by decide⟩ ?_
              refine V.top (x' := (nI k)) ((hR.op (op' := op + 1)).2.1) ?_
              refine V.iconst dX10_unit_45 (v := 1) (by decide) ?_
              refine V.iadd dX10_unit_46 ?_
              refine V.top (x' := (nI (k + 1))) (nI_add k 1) ?_
              refine V.putI dX10_unit_47 rfl fpRX10_72 rfl ⟨by decide, by decide⟩ ?_
              refine V.iload_n dX10_unit_50 rfl (i := 1) rfl ?_
              refine V.bipush dX10_unit_51 (v := 40) (by decide) ?_
              refine V.ic_ne (tgt := 63) dX10_unit_53 (by decide) (fun q => absurd (rfl) q) (fun c53 => ?_)
              refine V.aload_n dX10_unit_56 rfl (i := 0) rfl ?_
              refine V.invv (z := mX10_either) (As := []) dX10_unit_57 rfl mlRX10_118 okX10_either npX10_either rfl rfl rfl ⟨by decide, by decide⟩ (Nat.le_of_ble_eq_true rfl) rfl (Nat.le_of_ble_eq_true rfl) (hE (dd + 2) (op + 1) (k + 1) out (put (put M 83 9 (nI (op + 1))) 83 6 (nI (k + 1))) _ (true, k1, o1) (by omega) (by omega) hks (by omega) hR.op.go e (fun M1 v2 hT2 hF2 => ?_))
              show V rS g (dd + 3) mX10_unit 60 [some (.ref 83), some (.int (40 : Int32)), none, none, none] [.int v2] M1 Q
              refine V.goto dX10_unit_60 (tgt := 67) (by decide) ?_
              obtain ⟨w2, hw2, hv2, h2⟩ := hT2 rfl
              refine V.istore_n dX10_unit_67 rfl (i := 2) (by decide) (fun _ h => by cases h; exact Or.inl rfl) rfl ?_
              refine V.iload_n dX10_unit_68 rfl (i := 1) rfl ?_
              refine V.bipush dX10_unit_69 (v := 40) (by decide) ?_
              refine V.ic_ne (tgt := 88) dX10_unit_71 (by decide) (fun q => absurd (rfl) q) (fun c71 => ?_)
              refine V.aload_n dX10_unit_74 rfl (i := 0) rfl ?_
              refine V.bipush dX10_unit_75 (v := 41) (by decide) ?_
              refine V.invv (z := mX10_takes) (As := [_]) dX10_unit_77 rfl mlRX10_96 okX10_takes npX10_takes rfl rfl rfl ⟨by decide, by decide⟩ (Nat.le_of_ble_eq_true rfl) rfl (Nat.le_of_ble_eq_true rfl) (c_takesN hT h2 i2 c41 ?_)
              show V rS g (dd + 3) mX10_unit 80 [some (.ref 83), some (.int (40 : Int32)), some (.int v2), none, none] [.int (0 : Int32)] M1 Q
              refine V.if_ne (tgt := 88) dX10_unit_80 (by decide) (fun q => absurd (rfl) q) (fun c80 => ?_)
              refine V.aload_n dX10_unit_83 rfl (i := 0) rfl ?_
              refine V.invv (z := mX10_wrong) (As := []) dX10_unit_84 rfl mlRX10_115 okX10_wrong npX10_wrong rfl rfl rfl ⟨by decide, by decide⟩ (Nat.le_of_ble_eq_true rfl) rfl (Nat.le_of_ble_eq_true rfl) (c_wrong h2 ?_)
              show V rS g (dd + 3) mX10_unit 87 [some (.ref 83), some (.int (40 : Int32)), some (.int v2), none, none] [.int (0 : Int32)] (put M1 83 8 (nI k1)) Q
              exact V.ret dX10_unit_87 rfl (hQ _ _ (fun z => by cases z) (fun _ => h2.no))
        · rw [rd_br5 hd c33 c40 ho5] at he
          subst he
          obtain rfl : op = 5 := by omega
          refine V.aload_n dX10_unit_0 rfl (i := 0) rfl ?_
          refine V.invv (z := mX10_here) (As := []) dX10_unit_1 rfl mlRX10_85 okX10_here npX10_here rfl rfl rfl ⟨by decide, by decide⟩ (Nat.le_of_ble_eq_true rfl) rfl (Nat.le_of_ble_eq_true rfl) (c_here hT hR hk ?_)
          show V rS g (dd + 3) mX10_unit 4 [some (.ref 83), none, none, none, none] [.int ((nx (fun i => M0 84 (base + i)) sz) k)] M Q
          refine V.top (x' := (40 : Int32)) (hc0) ?_
          refine V.istore_n dX10_unit_4 rfl (i := 1) (by decide) (fun _ h => by cases h; exact Or.inl rfl) rfl ?_
          refine V.iload_n dX10_unit_5 rfl (i := 1) rfl ?_
          refine V.bipush dX10_unit_6 (v := 33) (by decide) ?_
          refine V.ic_eq (tgt := 17) dX10_unit_8 (by decide) (fun q => absurd q ((by decide))) (fun c8 => ?_)
          refine V.iload_n dX10_unit_11 rfl (i := 1) rfl ?_
          refine V.bipush dX10_unit_12 (v := 40) (by decide) ?_
          refine V.ic_ne (tgt := 118) dX10_unit_14 (by decide) (fun q => absurd (rfl) q) (fun c14 => ?_)
          refine V.aload_n dX10_unit_17 rfl (i := 0) rfl ?_
          refine V.getI dX10_unit_18 rfl flRX10_112 rfl ⟨by decide, by decide⟩ ?_
          refine V.top (x' := (nI 5)) (hR.2.2.2) ?_
          refine V.iconst dX10_unit_21 (v := 5) (by decide) ?_
          refine V.ic_ne (tgt := 30) dX10_unit_22 (by decide) (fun q => absurd (rfl) q) (fun c22 => ?_)
          refine V.aload_n dX10_unit_25 rfl (i := 0) rfl ?_
          refine V.invv (z := mX10_wrong) (As := []) dX10_unit_26 rfl mlRX10_115 okX10_wrong npX10_wrong rfl rfl rfl ⟨by decide, by decide⟩ (Nat.le_of_ble_eq_true rfl) rfl (Nat.le_of_ble_eq_true rfl) (c_wrong hR ?_)
          show V rS g (dd + 3) mX10_unit 29 [some (.ref 83), some (.int (40 : Int32)), none, none, none] [.int (0 : Int32)] (put M 83 8 (nI k)) Q
          exact V.ret dX10_unit_29 rfl (hQ _ _ (fun z => by cases z) (fun _ => hR.no))
      · obtain ⟨c0, hc0⟩ : ∃ c0, (nx (fun i => M0 84 (base + i)) sz) k = c0 := ⟨_, rfl⟩
        have n33 := c33
        have n40 := c40
        rw [hc0] at n33 n40
        by_cases hn : 0 ≤ nmI us ((nx (fun i => M0 84 (base + i)) sz) k)
        · have hks := nm_in hn
          obtain ⟨j, hj, hj2⟩ := nmI_rg hn
          rw [rd_nm hd c33 c40 hn] at he
          subst he
          have hj5 : j < 5 := by split at hj <;> omega
          rw [hc0] at hn
          have hj3 := hj2
          rw [hc0] at hj3
          refine V.aload_n dX10_unit_0 rfl (i := 0) rfl ?_
          refine V.invv (z := mX10_here) (As := []) dX10_unit_1 rfl mlRX10_85 okX10_here npX10_here rfl rfl rfl ⟨by decide, by decide⟩ (Nat.le_of_ble_eq_true rfl) rfl (Nat.le_of_ble_eq_true rfl) (c_here hT hR hk ?_)
          show V rS g (dd + 3) mX10_unit 4 [some (.ref 83), none, none, none, none] [.int ((nx (fun i => M0 84 (base + i)) sz) k)] M Q
          refine V.top (x' := c0) (hc0) ?_
          refine V.istore_n dX10_unit_4 rfl (i := 1) (by decide) (fun _ h => by cases h; exact Or.inl rfl) rfl ?_
          refine V.iload_n dX10_unit_5 rfl (i := 1) rfl ?_
          refine V.bipush dX10_unit_6 (v := 33) (by decide) ?_
          refine V.ic_eq (tgt := 17) dX10_unit_8 (by decide) (fun q => absurd q (n33)) (fun c8 => ?_)
          refine V.iload_n dX10_unit_11 rfl (i := 1) rfl ?_
          refine V.bipush dX10_unit_12 (v := 40) (by decide) ?_
          refine V.ic_ne (tgt := 118) dX10_unit_14 (by decide) (fun c14 => ?_) (fun q => absurd q (n40))
          refine V.aload_n dX10_unit_118 rfl (i := 0) rfl ?_
          refine V.iload_n dX10_unit_119 rfl (i := 1) rfl ?_
          refine V.invv (z := mX10_nameOf) (As := [_]) dX10_unit_120 rfl mlRX10_121 okX10_nameOf npX10_nameOf rfl rfl rfl ⟨by decide, by decide⟩ (Nat.le_of_ble_eq_true rfl) rfl (Nat.le_of_ble_eq_true rfl) (c_nameOf hT.2.2.2.2.2 (by rw [hR.1.2 10 (by decide) (by decide) (by decide)]; exact hT.2.2.2.2.1) ?_)
          show V rS g (dd + 3) mX10_unit 123 [some (.ref 83), some (.int c0), none, none, none] [.int (nmI us c0)] M Q
          refine V.top (x' := (nI j)) (hj3) ?_
          refine V.istore_n dX10_unit_123 rfl (i := 2) (by decide) (fun _ h => by cases h; exact Or.inl rfl) rfl ?_
          refine V.iload_n dX10_unit_124 rfl (i := 2) rfl ?_
          refine V.if_lt (tgt := 145) dX10_unit_125 (by decide) (fun q => absurd q ((nI_pos (by omega)))) (fun c125 => ?_)
          refine V.aload_n dX10_unit_128 rfl (i := 0) rfl ?_
          refine V.dup dX10_unit_129 rfl ?_
          refine V.getI dX10_unit_130 rfl flRX10_72 rfl ⟨by decide, by decide⟩ ?_
          refine V.top (x' := (nI k)) (hR.2.1) ?_
          refine V.iconst dX10_unit_133 (v := 1) (by decide) ?_
          refine V.iadd dX10_unit_134 ?_
          refine V.top (x' := (nI (k + 1))) (nI_add k 1) ?_
          refine V.putI dX10_unit_135 rfl fpRX10_72 rfl ⟨by decide, by decide⟩ ?_
          refine V.aload_n dX10_unit_138 rfl (i := 0) rfl ?_
          refine V.getR dX10_unit_139 rfl flRX10_22 rfl ⟨by decide, by decide⟩ ?_
          refine V.iload_n dX10_unit_142 rfl (i := 2) rfl ?_
          refine V.ialdN dX10_unit_143 rfl ⟨by decide, by decide⟩ (by first | assumption | decide | omega) (by decide) ?_
          exact V.ret dX10_unit_144 rfl (hQ _ _ (fun _ => ⟨[-1 - nmI us ((nx (fun i => M0 84 (base + i)) sz) k)], rfl, (by rw [hj2, put_cell (by decide), hR.1.1 88 (by decide)]; exact Ev.nm hj), hR.go⟩) (fun z => by cases z))
        · rw [rd_no hd c33 c40 hn] at he
          subst he
          rw [hc0] at hn
          refine V.aload_n dX10_unit_0 rfl (i := 0) rfl ?_
          refine V.invv (z := mX10_here) (As := []) dX10_unit_1 rfl mlRX10_85 okX10_here npX10_here rfl rfl rfl ⟨by decide, by decide⟩ (Nat.le_of_ble_eq_true rfl) rfl (Nat.le_of_ble_eq_true rfl) (c_here hT hR hk ?_)
          show V rS g (dd + 3) mX10_unit 4 [some (.ref 83), none, none, none, none] [.int ((nx (fun i => M0 84 (base + i)) sz) k)] M Q
          refine V.top (x' := c0) (hc0) ?_
          refine V.istore_n dX10_unit_4 rfl (i := 1) (by decide) (fun _ h => by cases h; exact Or.inl rfl) rfl ?_
          refine V.iload_n dX10_unit_5 rfl (i := 1) rfl ?_
          refine V.bipush dX10_unit_6 (v := 33) (by decide) ?_
          refine V.ic_eq (tgt := 17) dX10_unit_8 (by decide) (fun q => absurd q (n33)) (fun c8 => ?_)
          refine V.iload_n dX10_unit_11 rfl (i := 1) rfl ?_
          refine V.bipush dX10_unit_12 (v := 40) (by decide) ?_
          refine V.ic_ne (tgt := 118) dX10_unit_14 (by decide) (fun c14 => ?_) (fun q => absurd q (n40))
          refine V.aload_n dX10_unit_118 rfl (i := 0) rfl ?_
          refine V.iload_n dX10_unit_119 rfl (i := 1) rfl ?_
          refine V.invv (z := mX10_nameOf) (As := [_]) dX10_unit_120 rfl mlRX10_121 okX10_nameOf npX10_nameOf rfl rfl rfl ⟨by decide, by decide⟩ (Nat.le_of_ble_eq_true rfl) rfl (Nat.le_of_ble_eq_true rfl) (c_nameOf hT.2.2.2.2.2 (by rw [hR.1.2 10 (by decide) (by decide) (by decide)]; exact hT.2.2.2.2.1) ?_)
          show V rS g (dd + 3) mX10_unit 123 [some (.ref 83), some (.int c0), none, none, none] [.int (nmI us c0)] M Q
          refine V.istore_n dX10_unit_123 rfl (i := 2) (by decide) (fun _ h => by cases h; exact Or.inl rfl) rfl ?_
          refine V.iload_n dX10_unit_124 rfl (i := 2) rfl ?_
          refine V.if_lt (tgt := 145) dX10_unit_125 (by decide) (fun c125 => ?_) (fun q => absurd ((Int32.not_le.mp hn)) q)
          refine V.iconst dX10_unit_145 (v := 0) (by decide) ?_
          refine V.istore_n dX10_unit_146 rfl (i := 3) (by decide) (fun _ h => by cases h; exact Or.inl rfl) rfl ?_
          refine V.iconst dX10_unit_147 (v := 0) (by decide) ?_
          refine V.istore dX10_unit_148 (i := 4) (by decide) (fun _ h => by cases h; exact Or.inl rfl) rfl ?_
          refine V.iload dX10_unit_150 rfl ?_
          refine V.iconst dX10_unit_152 (v := 4) (by decide) ?_
          refine V.top (x' := (4 : Int32)) (rfl) ?_
          refine V.ic_ge (tgt := 202) dX10_unit_153 (by decide) (fun q => absurd q ((by decide))) (fun c153 => ?_)
          refine V.aload_n dX10_unit_156 rfl (i := 0) rfl ?_
          refine V.invv (z := mX10_here) (As := []) dX10_unit_157 rfl mlRX10_85 okX10_here npX10_here rfl rfl rfl ⟨by decide, by decide⟩ (Nat.le_of_ble_eq_true rfl) rfl (Nat.le_of_ble_eq_true rfl) (c_here hT hR hk ?_)
          show V rS g (dd + 3) mX10_unit 160 [some (.ref 83), some (.int c0), some (.int (nmI us c0)), some (.int (0 : Int32)), some (.int (0 : Int32))] [.int ((nx (fun i => M0 84 (base + i)) sz) k)] M Q
          refine V.i2l dX10_unit_160 ?_
          refine V.ldc2 dX10_unit_161 rfl clRX10_125 ?_
          refine V.ldc2 dX10_unit_164 rfl clRX10_127 ?_
          refine V.invs (z := mX10_in) (As := [_, _, _]) dX10_unit_167 rfl mlRX10_66 okX10_in npX10_in rfl (Nat.le_of_ble_eq_true rfl) rfl (Nat.le_of_ble_eq_true rfl) (c_in32 (v := ((nx (fun i => M0 84 (base + i)) sz) k)) (lo := (48 : Int32)) (hi := (57 : Int32)) (by first | rfl | decide) (by first | rfl | decide)   ?_)
          show V rS g (dd + 3) mX10_unit 170 [some (.ref 83), some (.int c0), some (.int (nmI us c0)), some (.int (0 : Int32)), some (.int (0 : Int32))] [.int (b2i ((48 : Int32) ≤ ((nx (fun i => M0 84 (base + i)) sz) k) ∧ ((nx (fun i => M0 84 (base + i)) sz) k) ≤ (57 : Int32)))] M Q
          refine V.top (x' := (b2i (dig ((nx (fun i => M0 84 (base + i)) sz) k) = true))) (isdg) ?_
          refine V.if_eq (tgt := 202) dX10_unit_170 (by decide) (fun c170 => ?_) (fun q => absurd ((b2i_f hd)) q)
          refine V.iload dX10_unit_202 rfl ?_
          refine V.if_ne (tgt := 214) dX10_unit_204 (by decide) (fun q => absurd (rfl) q) (fun c204 => ?_)
          refine V.aload_n dX10_unit_207 rfl (i := 0) rfl ?_
          refine V.invv (z := mX10_wrong) (As := []) dX10_unit_208 rfl mlRX10_115 okX10_wrong npX10_wrong rfl rfl rfl ⟨by decide, by decide⟩ (Nat.le_of_ble_eq_true rfl) rfl (Nat.le_of_ble_eq_true rfl) (c_wrong hR ?_)
          show V rS g (dd + 3) mX10_unit 211 [some (.ref 83), some (.int c0), some (.int (nmI us c0)), some (.int (0 : Int32)), some (.int (0 : Int32))] [.int (0 : Int32)] (put M 83 8 (nI k)) Q
          refine V.goto dX10_unit_211 (tgt := 215) (by decide) ?_
          exact V.ret dX10_unit_215 rfl (hQ _ _ (fun z => by cases z) (fun _ => hR.no))
def EAll (g : GG) (M0 : Mem) (us base sz f : Nat) : Prop := EM g M0 us base sz f 0 mX10_either [some (.ref 83), none, none] ∧ EM g M0 us base sz f 1 mX10_both [some (.ref 83), none, none] ∧ EM g M0 us base sz f 2 mX10_compared [some (.ref 83), none, none, none] ∧ EM g M0 us base sz f 3 mX10_sum [some (.ref 83), none, none, none] ∧ EM g M0 us base sz f 4 mX10_product [some (.ref 83), none, none, none] ∧ EM g M0 us base sz f 5 mX10_unit [some (.ref 83), none, none, none, none] ∧ EP g M0 us base sz f 0 mX10_either [none] ∧ EP g M0 us base sz f 1 mX10_both [none] ∧ EP g M0 us base sz f 3 mX10_sum [none, none] ∧ EP g M0 us base sz f 4 mX10_product [none, none]
theorem evAll {g : GG} {M0 : Mem} {us base sz : Nat} (hT : EvT M0 us base sz) : ∀ f, EAll g M0 us base sz f ∧ EAll g M0 us base sz (f + 1)
  | 0 => by
    have h0 : EAll g M0 us base sz 0 := ⟨fun D op k out M Q r hD ho hk hf => by omega, fun D op k out M Q r hD ho hk hf => by omega, fun D op k out M Q r hD ho hk hf => by omega, fun D op k out M Q r hD ho hk hf => by omega, fun D op k out M Q r hD ho hk hf => by omega, fun D op k out M Q r hD ho hk hf => by omega, fun D op k out w0 v M Q r hD ho hk hf => by omega, fun D op k out w0 v M Q r hD ho hk hf => by omega, fun D op k out w0 v M Q r hD ho hk hf => by omega, fun D op k out w0 v M Q r hD ho hk hf => by omega⟩
    obtain ⟨a0, a1, a2, a3, a4, a5, p0, p1, p3, p4⟩ := h0
    exact ⟨⟨a0, a1, a2, a3, a4, a5, p0, p1, p3, p4⟩, s_EM_either hT a1 p0, s_EM_both hT a2 p1, fun D op k out M Q r hD ho hk hf => by omega, s_EM_sum hT a4 p3, s_EM_product hT a5 p4, s_EU hT a5 a0, s_EP_either hT a1 p0, s_EP_both hT a2 p1, s_EP_sum hT a4 p3, s_EP_product hT a5 p4⟩
  | f + 1 => by
    obtain ⟨hA, hB⟩ := evAll hT f
    obtain ⟨a0, a1, a2, a3, a4, a5, p0, p1, p3, p4⟩ := hB
    exact ⟨⟨a0, a1, a2, a3, a4, a5, p0, p1, p3, p4⟩, s_EM_either hT a1 p0, s_EM_both hT a2 p1, s_EM_compared hT a3 hA.2.2.2.1, s_EM_sum hT a4 p3, s_EM_product hT a5 p4, s_EU hT a5 a0, s_EP_either hT a1 p0, s_EP_both hT a2 p1, s_EP_sum hT a4 p3, s_EP_product hT a5 p4⟩
/-- what working a text out may change -/
def KpR (M M' : Mem) : Prop := (∀ c, c ≠ 83 → c ≠ 88 → M' c = M c) ∧ ∀ j, (j < 5 ∨ 10 < j) → M' 83 j = M 83 j
theorem KpR.rf {M : Mem} : KpR M M := ⟨fun _ _ _ => rfl, fun _ _ => rfl⟩
theorem KpR.tr {M M1 M2 : Mem} (h : KpR M M1) (h2 : KpR M1 M2) : KpR M M2 := ⟨fun c a b => (h2.1 c a b).trans (h.1 c a b), fun j hj => (h2.2 j hj).trans (h.2 j hj)⟩
theorem KpR.p88 {M M1 : Mem} {j : Nat} {x : Int32} (h : KpR M M1) : KpR M (put M1 88 j x) := ⟨fun c a b => by rw [put_cell b]; exact h.1 c a b, fun i hi => by rw [put_cell (by decide)]; exact h.2 i hi⟩
theorem KpR.p83 {M M1 : Mem} {j : Nat} {x : Int32} (h : KpR M M1) (hj : 5 ≤ j ∧ j ≤ 10) : KpR M (put M1 83 j x) := ⟨fun c a b => by rw [put_cell a]; exact h.1 c a b, fun i hi => by rw [put_n (fun q => by omega)]; exact h.2 i hi⟩
theorem KpR.ev {M M1 M2 : Mem} (h : KpR M M1) (h2 : EvS M1 M2) : KpR M M2 := ⟨fun c a b => (h2.1 c a).trans (h.1 c a b), fun j hj => (h2.2 j (by omega) (by omega) (by omega)).trans (h.2 j hj)⟩

set_option maxHeartbeats 4000000 in
set_option maxRecDepth 100000 in
theorem c_worked {g : GG} {d : Nat} {M : Mem} {Q : Option Value → Mem → Prop} {us base n : Nat} (hu : us < 2) (h50 : n ≤ 50) (hb : base + n ≤ 360) (hQ : ∀ M' v b k1 o1, rdT (nx (fun i => M 84 (base + i)) n) us = (b, k1, o1) → KpR M M' → (∀ j, M' 88 j = M 88 j) → (b = true ∧ k1 = n → M' 83 8 = -1 ∧ Ev us (M 88) o1 v) → (¬ (b = true ∧ k1 = n) → M' 83 8 = nI k1) → Q (some (.int v)) M') : V rS g (d + 60) mX10_worked 0 [some (.ref 83), some (.int (nI base)), some (.int (nI n)), some (.int (nI us)), none] [] M Q := by
  have hT : EvT (put (put (put (put (put (put M 83 5 (nI base)) 83 6 0) 83 7 (nI n)) 83 8 (-1)) 83 9 0) 83 10 (nI us)) us base n := by
    refine ⟨?_, ?_, h50, hb, put_s, hu⟩
    · rw [put_n (fun q => absurd q.2 (by decide)), put_n (fun q => absurd q.2 (by decide)), put_n (fun q => absurd q.2 (by decide)), put_n (fun q => absurd q.2 (by decide)), put_n (fun q => absurd q.2 (by decide)), put_s]
    · rw [put_n (fun q => absurd q.2 (by decide)), put_n (fun q => absurd q.2 (by decide)), put_n (fun q => absurd q.2 (by decide)), put_s]
  have hR : EvP (put (put (put (put (put (put M 83 5 (nI base)) 83 6 0) 83 7 (nI n)) 83 8 (-1)) 83 9 0) 83 10 (nI us)) (put (put (put (put (put (put M 83 5 (nI base)) 83 6 0) 83 7 (nI n)) 83 8 (-1)) 83 9 0) 83 10 (nI us)) 0 0 := by
    refine ⟨⟨fun _ _ => rfl, fun _ _ _ _ => rfl⟩, ?_, ?_, ?_⟩
    · rw [put_n (fun q => absurd q.2 (by decide)), put_n (fun q => absurd q.2 (by decide)), put_n (fun q => absurd q.2 (by decide)), put_n (fun q => absurd q.2 (by decide)), put_s]; rfl
    · rw [put_n (fun q => absurd q.2 (by decide)), put_n (fun q => absurd q.2 (by decide)), put_s]
    · rw [put_n (fun q => absurd q.2 (by decide)), put_s]; rfl
  have hK : KpR M (put (put (put (put (put (put M 83 5 (nI base)) 83 6 0) 83 7 (nI n)) 83 8 (-1)) 83 9 0) 83 10 (nI us)) := ((((((KpR.rf).p83 (by omega)).p83 (by omega)).p83 (by omega)).p83 (by omega)).p83 (by omega)).p83 (by omega)
  have h84 : nx (fun i => (put (put (put (put (put (put M 83 5 (nI base)) 83 6 0) 83 7 (nI n)) 83 8 (-1)) 83 9 0) 83 10 (nI us)) 84 (base + i)) n = (nx (fun i => M 84 (base + i)) n) := by
    simp only [put_cell (show (84 : Nat) ≠ 83 by decide)]
  have h88 : (put (put (put (put (put (put M 83 5 (nI base)) 83 6 0) 83 7 (nI n)) 83 8 (-1)) 83 9 0) 83 10 (nI us)) 88 = M 88 := by
    simp only [put_cell (show (88 : Nat) ≠ 83 by decide)]
  have hus : (if nI us = (1 : Int32) then (1 : Int32) else (0 : Int32)) = nI us := by
    have : us = 0 ∨ us = 1 := by omega
    rcases this with rfl | rfl <;> decide
  have hz : nI us = 0 ∨ nI us = 1 := by
    have : us = 0 ∨ us = 1 := by omega
    rcases this with rfl | rfl
    · exact Or.inl rfl
    · exact Or.inr rfl
  rcases e : rdT (nx (fun i => M 84 (base + i)) n) us with ⟨b, k1, o1⟩
  have hl := rdT_len e
  simp only at hl
  have hE := (evAll (g := g) hT 500).1.1
  cases b
  · skip
    refine V.aload_n dX10_worked_0 rfl (i := 0) rfl ?_
    refine V.iload_n dX10_worked_1 rfl (i := 1) rfl ?_
    refine V.putI dX10_worked_2 rfl fpRX10_82 rfl ⟨by decide, by decide⟩ ?_
    refine V.aload_n dX10_worked_5 rfl (i := 0) rfl ?_
    refine V.iconst dX10_worked_6 (v := 0) (by decide) ?_
    refine V.putI dX10_worked_7 rfl fpRX10_72 rfl ⟨by decide, by decide⟩ ?_
    refine V.aload_n dX10_worked_10 rfl (i := 0) rfl ?_
    refine V.iload_n dX10_worked_11 rfl (i := 2) rfl ?_
    refine V.putI dX10_worked_12 rfl fpRX10_76 rfl ⟨by decide, by decide⟩ ?_
    refine V.aload_n dX10_worked_15 rfl (i := 0) rfl ?_
    refine V.iconst dX10_worked_16 (v := (-1)) (by decide) ?_
    refine V.putI dX10_worked_17 rfl fpRX10_79 rfl ⟨by decide, by decide⟩ ?_
    refine V.aload_n dX10_worked_20 rfl (i := 0) rfl ?_
    refine V.iconst dX10_worked_21 (v := 0) (by decide) ?_
    refine V.putI dX10_worked_22 rfl fpRX10_112 rfl ⟨by decide, by decide⟩ ?_
    refine V.aload_n dX10_worked_25 rfl (i := 0) rfl ?_
    refine V.iload_n dX10_worked_26 rfl (i := 3) rfl ?_
    refine V.iconst dX10_worked_27 (v := 1) (by decide) ?_
    suffices kJ28 : V rS g (d + 60) mX10_worked 36 [some (.ref 83), some (.int (nI base)), some (.int (nI n)), some (.int (nI us)), none] [.int (if (nI us) = (1 : Int32) then (1 : Int32) else (0 : Int32)), .ref 83] (put (put (put (put (put M 83 5 (nI base)) 83 6 (0 : Int32)) 83 7 (nI n)) 83 8 (-1 : Int32)) 83 9 (0 : Int32)) Q by
      refine V.ic_ne (tgt := 35) dX10_worked_28 (by decide) (fun c28 => ?_) (fun c28 => ?_)
      · refine V.iconst dX10_worked_35 (v := 0) (by decide) ?_
        rw [if_neg c28] at kJ28; exact kJ28
      · refine V.iconst dX10_worked_31 (v := 1) (by decide) ?_
        refine V.goto dX10_worked_32 (tgt := 36) (by decide) ?_
        rw [if_pos c28] at kJ28; exact kJ28
    refine V.top (x' := (nI us)) (hus) ?_
    refine V.putZ dX10_worked_36 rfl fpRX10_89 rfl ⟨by decide, by decide⟩ (hz) ?_
    refine V.aload_n dX10_worked_39 rfl (i := 0) rfl ?_
    refine V.invv (z := mX10_either) (As := []) dX10_worked_40 rfl mlRX10_118 okX10_either npX10_either rfl rfl rfl ⟨by decide, by decide⟩ (Nat.le_of_ble_eq_true rfl) rfl (Nat.le_of_ble_eq_true rfl) (hE (d + 59) 0 0 [] _ _ (false, k1, o1) (by omega) (by omega) (by omega) (by omega) hR (by rw [h84]; exact e) (fun M1 v1 hT1 hF1 => ?_))
    show V rS g (d + 60) mX10_worked 43 [some (.ref 83), some (.int (nI base)), some (.int (nI n)), some (.int (nI us)), none] [.int v1] M1 Q
    refine V.istore dX10_worked_43 (i := 4) (by decide) (fun _ h => by cases h; exact Or.inl rfl) rfl ?_
    refine V.aload_n dX10_worked_45 rfl (i := 0) rfl ?_
    refine V.getI dX10_worked_46 rfl flRX10_79 rfl ⟨by decide, by decide⟩ ?_
    refine V.top (x' := (nI k1)) ((hF1 rfl).2) ?_
    refine V.if_ge (tgt := 68) dX10_worked_49 (by decide) (fun c49 => ?_) (fun q => absurd ((nI_pos' (by omega))) q)
    refine V.iload dX10_worked_68 rfl ?_
    exact V.ret dX10_worked_70 rfl (hQ M1 v1 false k1 o1 e (hK.ev (hF1 rfl).1) (fun j => by rw [(hF1 rfl).1.1 88 (by decide), h88]) (fun z => by cases z.1) (fun _ => (hF1 rfl).2))
  · skip
    refine V.aload_n dX10_worked_0 rfl (i := 0) rfl ?_
    refine V.iload_n dX10_worked_1 rfl (i := 1) rfl ?_
    refine V.putI dX10_worked_2 rfl fpRX10_82 rfl ⟨by decide, by decide⟩ ?_
    refine V.aload_n dX10_worked_5 rfl (i := 0) rfl ?_
    refine V.iconst dX10_worked_6 (v := 0) (by decide) ?_
    refine V.putI dX10_worked_7 rfl fpRX10_72 rfl ⟨by decide, by decide⟩ ?_
    refine V.aload_n dX10_worked_10 rfl (i := 0) rfl ?_
    refine V.iload_n dX10_worked_11 rfl (i := 2) rfl ?_
    refine V.putI dX10_worked_12 rfl fpRX10_76 rfl ⟨by decide, by decide⟩ ?_
    refine V.aload_n dX10_worked_15 rfl (i := 0) rfl ?_
    refine V.iconst dX10_worked_16 (v := (-1)) (by decide) ?_
    refine V.putI dX10_worked_17 rfl fpRX10_79 rfl ⟨by decide, by decide⟩ ?_
    refine V.aload_n dX10_worked_20 rfl (i := 0) rfl ?_
    refine V.iconst dX10_worked_21 (v := 0) (by decide) ?_
    refine V.putI dX10_worked_22 rfl fpRX10_112 rfl ⟨by decide, by decide⟩ ?_
    refine V.aload_n dX10_worked_25 rfl (i := 0) rfl ?_
    refine V.iload_n dX10_worked_26 rfl (i := 3) rfl ?_
    refine V.iconst dX10_worked_27 (v := 1) (by decide) ?_
    suffices kJ28 : V rS g (d + 60) mX10_worked 36 [some (.ref 83), some (.int (nI base)), some (.int (nI n)), some (.int (nI us)), none] [.int (if (nI us) = (1 : Int32) then (1 : Int32) else (0 : Int32)), .ref 83] (put (put (put (put (put M 83 5 (nI base)) 83 6 (0 : Int32)) 83 7 (nI n)) 83 8 (-1 : Int32)) 83 9 (0 : Int32)) Q by
      refine V.ic_ne (tgt := 35) dX10_worked_28 (by decide) (fun c28 => ?_) (fun c28 => ?_)
      · refine V.iconst dX10_worked_35 (v := 0) (by decide) ?_
        rw [if_neg c28] at kJ28; exact kJ28
      · refine V.iconst dX10_worked_31 (v := 1) (by decide) ?_
        refine V.goto dX10_worked_32 (tgt := 36) (by decide) ?_
        rw [if_pos c28] at kJ28; exact kJ28
    refine V.top (x' := (nI us)) (hus) ?_
    refine V.putZ dX10_worked_36 rfl fpRX10_89 rfl ⟨by decide, by decide⟩ (hz) ?_
    refine V.aload_n dX10_worked_39 rfl (i := 0) rfl ?_
    refine V.invv (z := mX10_either) (As := []) dX10_worked_40 rfl mlRX10_118 okX10_either npX10_either rfl rfl rfl ⟨by decide, by decide⟩ (Nat.le_of_ble_eq_true rfl) rfl (Nat.le_of_ble_eq_true rfl) (hE (d + 59) 0 0 [] _ _ (true, k1, o1) (by omega) (by omega) (by omega) (by omega) hR (by rw [h84]; exact e) (fun M1 v1 hT1 hF1 => ?_))
    show V rS g (d + 60) mX10_worked 43 [some (.ref 83), some (.int (nI base)), some (.int (nI n)), some (.int (nI us)), none] [.int v1] M1 Q
    refine V.istore dX10_worked_43 (i := 4) (by decide) (fun _ h => by cases h; exact Or.inl rfl) rfl ?_
    skip
    obtain ⟨w1, hw1, hv1, h1⟩ := hT1 rfl
    have hw2 : o1 = w1 := hw1
    subst hw2
    rw [h88] at hv1
    have h7 : M1 83 7 = nI n := by rw [h1.1.2 7 (by decide) (by decide) (by decide)]; exact hT.2.1
    by_cases hk1 : k1 = n
    · skip
      refine V.aload_n dX10_worked_45 rfl (i := 0) rfl ?_
      refine V.getI dX10_worked_46 rfl flRX10_79 rfl ⟨by decide, by decide⟩ ?_
      refine V.top (x' := (-1 : Int32)) (h1.2.2.1) ?_
      refine V.if_ge (tgt := 68) dX10_worked_49 (by decide) (fun q => absurd q ((by decide))) (fun c49 => ?_)
      refine V.aload_n dX10_worked_52 rfl (i := 0) rfl ?_
      refine V.getI dX10_worked_53 rfl flRX10_72 rfl ⟨by decide, by decide⟩ ?_
      refine V.top (x' := (nI k1)) (h1.2.1) ?_
      refine V.aload_n dX10_worked_56 rfl (i := 0) rfl ?_
      refine V.getI dX10_worked_57 rfl flRX10_76 rfl ⟨by decide, by decide⟩ ?_
      refine V.top (x' := (nI n)) (h7) ?_
      refine V.ic_ge (tgt := 68) dX10_worked_60 (by decide) (fun c60 => ?_) (fun q => absurd ((by rw [hk1]; exact Int32.le_refl _)) q)
      refine V.iload dX10_worked_68 rfl ?_
      exact V.ret dX10_worked_70 rfl (hQ M1 v1 true k1 o1 e (hK.ev h1.1) (fun j => by rw [h1.1.1 88 (by decide), h88]) (fun _ => ⟨h1.2.2.1, hv1⟩) (fun z => absurd ⟨rfl, hk1⟩ z))
    · skip
      refine V.aload_n dX10_worked_45 rfl (i := 0) rfl ?_
      refine V.getI dX10_worked_46 rfl flRX10_79 rfl ⟨by decide, by decide⟩ ?_
      refine V.top (x' := (-1 : Int32)) (h1.2.2.1) ?_
      refine V.if_ge (tgt := 68) dX10_worked_49 (by decide) (fun q => absurd q ((by decide))) (fun c49 => ?_)
      refine V.aload_n dX10_worked_52 rfl (i := 0) rfl ?_
      refine V.getI dX10_worked_53 rfl flRX10_72 rfl ⟨by decide, by decide⟩ ?_
      refine V.top (x' := (nI k1)) (h1.2.1) ?_
      refine V.aload_n dX10_worked_56 rfl (i := 0) rfl ?_
      refine V.getI dX10_worked_57 rfl flRX10_76 rfl ⟨by decide, by decide⟩ ?_
      refine V.top (x' := (nI n)) (h7) ?_
      refine V.ic_ge (tgt := 68) dX10_worked_60 (by decide) (fun q => absurd q ((nI_ge (a := k1) (b := n) (by omega) (by omega)))) (fun c60 => ?_)
      refine V.aload_n dX10_worked_63 rfl (i := 0) rfl ?_
      refine V.invv (z := mX10_wrong) (As := []) dX10_worked_64 rfl mlRX10_115 okX10_wrong npX10_wrong rfl rfl rfl ⟨by decide, by decide⟩ (Nat.le_of_ble_eq_true rfl) rfl (Nat.le_of_ble_eq_true rfl) (c_wrong h1 ?_)
      show V rS g (d + 60) mX10_worked 67 [some (.ref 83), some (.int (nI base)), some (.int (nI n)), some (.int (nI us)), some (.int v1)] [.int (0 : Int32)] (put M1 83 8 (nI k1)) Q
      exact V.ret dX10_worked_67 rfl (hQ _ 0 true k1 o1 e ((hK.ev h1.1).p83 (by omega)) (fun j => by rw [put_cell (by decide), h1.1.1 88 (by decide), h88]) (fun z => absurd z.2 hk1) (fun _ => put_s))

