/-! ===== public methods: move, check ===== -/
theorem standN {i n : Int32} {z : Nat} (hz : z ≤ 40) (h : 0 ≤ n ∧ 0 ≤ i ∧ i ≤ nI z ∧ n ≤ nI z - i) : ∃ j k, i = nI j ∧ n = nI k ∧ j + k ≤ z := by
  obtain ⟨j, hj, rfl⟩ := nI_ex (n := z + 1) (by omega) h.2.1 (Int32.lt_of_le_of_lt h.2.2.1 (nI_lt (by omega) (by omega)))
  have h4 := h.2.2.2
  rw [pk_sub (by omega)] at h4
  obtain ⟨k, hk, rfl⟩ := nI_ex (n := z - j + 1) (by omega) h.1 (Int32.lt_of_le_of_lt h4 (nI_lt (by omega) (by omega)))
  exact ⟨j, k, rfl, rfl, by omega⟩

set_option maxHeartbeats 4000000 in
set_option maxRecDepth 100000 in
theorem c9_move {g : GG} {d : Nat} {M : Mem} {Q : Option Value → Mem → Prop} {a i b j c : Int32} (hsz : ∀ s, s < 4 → ∃ z, z ≤ 40 ∧ M 63 s = nI z) (hbad : ¬ ((0 ≤ a ∧ a ≤ 3) ∧ 0 ≤ b ∧ b ≤ 3) → Q (some (.int (-1000000001))) (put M 9 1 (M 9 1 + 1))) (hnone : ∀ s t, s < 4 → t < 4 → a = nI s → b = nI t → (M 62 s = 0 ∨ M 62 t = 0) → Q (some (.int (-1000000002))) (put M 9 2 (M 9 2 + 1))) (hkind : ∀ s t, s < 4 → t < 4 → a = nI s → b = nI t → ¬ (M 62 s = 0 ∨ M 62 t = 0) → ¬ M 62 s = M 62 t → Q (some (.int (-1000000005))) (put M 9 5 (M 9 5 + 1))) (hbad2 : ∀ s t, s < 4 → t < 4 → a = nI s → b = nI t → ¬ (M 62 s = 0 ∨ M 62 t = 0) → M 62 s = M 62 t → ¬ ((0 ≤ c ∧ 0 ≤ i ∧ i ≤ M 63 s ∧ c ≤ M 63 s - i) ∧ (0 ≤ c ∧ 0 ≤ j ∧ j ≤ M 63 t ∧ c ≤ M 63 t - j)) → Q (some (.int (-1000000001))) (put M 9 1 (M 9 1 + 1))) (hok : ∀ s t x y k, s < 4 → t < 4 → a = nI s → b = nI t → i = nI x → j = nI y → c = nI k → x + k ≤ 40 → y + k ≤ 40 → ¬ (M 62 s = 0 ∨ M 62 t = 0) → M 62 s = M 62 t → (0 ≤ c ∧ 0 ≤ i ∧ i ≤ M 63 s ∧ c ≤ M 63 s - i) ∧ (0 ≤ c ∧ 0 ≤ j ∧ j ≤ M 63 t ∧ c ≤ M 63 t - j) → Q (some (.int (nI k))) (um M (64 + t) (va_cpy (M (64 + s)) (M (64 + t)) x y k))) : V cS g (d + 2) mX9_move 0 [some (.ref 0), some (.int a), some (.int i), some (.int b), some (.int j), some (.int c)] [] M Q := by
  by_cases h : (0 ≤ a ∧ a ≤ 3) ∧ 0 ≤ b ∧ b ≤ 3
  · obtain ⟨s, hs, rfl⟩ := nI_ex (n := 4) (by omega) h.1.1 (Int32.lt_of_le_of_lt h.1.2 (by decide))
    obtain ⟨t, ht, rfl⟩ := nI_ex (n := 4) (by omega) h.2.1 (Int32.lt_of_le_of_lt h.2.2 (by decide))
    by_cases hm : M 62 s = 0 ∨ M 62 t = 0
    · skip
      refine V.iload_n dX9_move_0 rfl (i := 1) rfl ?_
      refine V.invs (z := mX4_canBe) (As := [_]) dX9_move_1 rfl mlRX9_151 okX4_canBe npX4_canBe rfl (Nat.le_of_ble_eq_true rfl) rfl (Nat.le_of_ble_eq_true rfl) (c_canBe   ?_)
      show V cS g (d + 2) mX9_move 4 [some (.ref 0), some (.int (nI s)), some (.int i), some (.int (nI t)), some (.int j), some (.int c)] [.int (b2i (0 ≤ (nI s) ∧ (nI s) ≤ 3))] (M) Q
      refine V.if_eq (tgt := 14) dX9_move_4 (by decide) (fun q => absurd q ((fun z => b2i_0.mp z h.1))) (fun c4 => ?_)
      refine V.iload_n dX9_move_7 rfl (i := 3) rfl ?_
      refine V.invs (z := mX4_canBe) (As := [_]) dX9_move_8 rfl mlRX9_151 okX4_canBe npX4_canBe rfl (Nat.le_of_ble_eq_true rfl) rfl (Nat.le_of_ble_eq_true rfl) (c_canBe   ?_)
      show V cS g (d + 2) mX9_move 11 [some (.ref 0), some (.int (nI s)), some (.int i), some (.int (nI t)), some (.int j), some (.int c)] [.int (b2i (0 ≤ (nI t) ∧ (nI t) ≤ 3))] ((M)) Q
      refine V.if_ne (tgt := 21) dX9_move_11 (by decide) (fun c11 => ?_) (fun q => absurd q ((fun z => b2i_0.mp z h.2)))
      refine V.aload_n dX9_move_21 rfl (i := 0) rfl ?_
      refine V.getR dX9_move_22 rfl flRX9_61 rfl ⟨by decide, by decide⟩ ?_
      refine V.iload_n dX9_move_25 rfl (i := 1) rfl ?_
      refine V.invv (z := mX4_isMissing) (As := [_]) dX9_move_26 rfl mlRX9_154 okX4_isMissing npX4_isMissing rfl rfl rfl ⟨by decide, by decide⟩ (Nat.le_of_ble_eq_true rfl) rfl (Nat.le_of_ble_eq_true rfl) (c_isMissing  (by first | assumption | decide | omega) ?_)
      show V cS g (d + 2) mX9_move 29 [some (.ref 0), some (.int (nI s)), some (.int i), some (.int (nI t)), some (.int j), some (.int c)] [.int (b2i (((M)) 62 s = 0))] (((M))) Q
      refine V.if_ne (tgt := 43) dX9_move_29 (by decide) (fun c29 => ?_) (fun c29 => ?_)
      · refine V.aload_n dX9_move_43 rfl (i := 0) rfl ?_
        refine V.ldc dX9_move_44 rfl ctRX9_157 ?_
        refine V.invv (z := mX9_error) (As := [_]) dX9_move_46 rfl mlRX9_82 okX9_error npX9_error rfl rfl rfl ⟨by decide, by decide⟩ (Nat.le_of_ble_eq_true rfl) rfl (Nat.le_of_ble_eq_true rfl) (c_err2   ?_)
        show V cS g (d + 2) mX9_move 49 [some (.ref 0), some (.int (nI s)), some (.int i), some (.int (nI t)), some (.int j), some (.int c)] [.int (-1000000002 : Int32)] (put (((M))) 9 2 ((((M))) 9 2 + 1)) Q
        exact V.ret dX9_move_49 rfl (hnone s t hs ht rfl rfl hm)
      · refine V.aload_n dX9_move_32 rfl (i := 0) rfl ?_
        refine V.getR dX9_move_33 rfl flRX9_61 rfl ⟨by decide, by decide⟩ ?_
        refine V.iload_n dX9_move_36 rfl (i := 3) rfl ?_
        refine V.invv (z := mX4_isMissing) (As := [_]) dX9_move_37 rfl mlRX9_154 okX4_isMissing npX4_isMissing rfl rfl rfl ⟨by decide, by decide⟩ (Nat.le_of_ble_eq_true rfl) rfl (Nat.le_of_ble_eq_true rfl) (c_isMissing  (by first | assumption | decide | omega) ?_)
        show V cS g (d + 2) mX9_move 40 [some (.ref 0), some (.int (nI s)), some (.int i), some (.int (nI t)), some (.int j), some (.int c)] [.int (b2i ((((M))) 62 t = 0))] ((((M)))) Q
        refine V.if_eq (tgt := 50) dX9_move_40 (by decide) (fun c40 => ?_) (fun c40 => ?_)
        · exact absurd hm (fun z => z.elim (b2i_0.mp c29) (b2i_0.mp c40))
        · refine V.aload_n dX9_move_43 rfl (i := 0) rfl ?_
          refine V.ldc dX9_move_44 rfl ctRX9_157 ?_
          refine V.invv (z := mX9_error) (As := [_]) dX9_move_46 rfl mlRX9_82 okX9_error npX9_error rfl rfl rfl ⟨by decide, by decide⟩ (Nat.le_of_ble_eq_true rfl) rfl (Nat.le_of_ble_eq_true rfl) (c_err2   ?_)
          show V cS g (d + 2) mX9_move 49 [some (.ref 0), some (.int (nI s)), some (.int i), some (.int (nI t)), some (.int j), some (.int c)] [.int (-1000000002 : Int32)] (put ((((M)))) 9 2 (((((M)))) 9 2 + 1)) Q
          exact V.ret dX9_move_49 rfl (hnone s t hs ht rfl rfl hm)
    · have hm1 : ¬ M 62 s = 0 := fun z => hm (Or.inl z)
      have hm2 : ¬ M 62 t = 0 := fun z => hm (Or.inr z)
      by_cases hal : M 62 s = M 62 t
      · by_cases hst : (0 ≤ c ∧ 0 ≤ i ∧ i ≤ M 63 s ∧ c ≤ M 63 s - i) ∧ (0 ≤ c ∧ 0 ≤ j ∧ j ≤ M 63 t ∧ c ≤ M 63 t - j)
        · obtain ⟨z1, hz1, e1⟩ := hsz s hs
          obtain ⟨z2, hz2, e2⟩ := hsz t ht
          obtain ⟨x, k, rfl, rfl, h1⟩ := standN hz1 (e1 ▸ hst.1)
          obtain ⟨y, k', rfl, hkk, h2⟩ := standN hz2 (e2 ▸ hst.2)
          by_cases hk2 : k' = k
          · subst hk2
            refine V.iload_n dX9_move_0 rfl (i := 1) rfl ?_
            refine V.invs (z := mX4_canBe) (As := [_]) dX9_move_1 rfl mlRX9_151 okX4_canBe npX4_canBe rfl (Nat.le_of_ble_eq_true rfl) rfl (Nat.le_of_ble_eq_true rfl) (c_canBe   ?_)
            show V cS g (d + 2) mX9_move 4 [some (.ref 0), some (.int (nI s)), some (.int (nI x)), some (.int (nI t)), some (.int (nI y)), some (.int (nI k'))] [.int (b2i (0 ≤ (nI s) ∧ (nI s) ≤ 3))] (M) Q
            refine V.if_eq (tgt := 14) dX9_move_4 (by decide) (fun q => absurd q ((fun z => b2i_0.mp z h.1))) (fun c4 => ?_)
            refine V.iload_n dX9_move_7 rfl (i := 3) rfl ?_
            refine V.invs (z := mX4_canBe) (As := [_]) dX9_move_8 rfl mlRX9_151 okX4_canBe npX4_canBe rfl (Nat.le_of_ble_eq_true rfl) rfl (Nat.le_of_ble_eq_true rfl) (c_canBe   ?_)
            show V cS g (d + 2) mX9_move 11 [some (.ref 0), some (.int (nI s)), some (.int (nI x)), some (.int (nI t)), some (.int (nI y)), some (.int (nI k'))] [.int (b2i (0 ≤ (nI t) ∧ (nI t) ≤ 3))] ((M)) Q
            refine V.if_ne (tgt := 21) dX9_move_11 (by decide) (fun c11 => ?_) (fun q => absurd q ((fun z => b2i_0.mp z h.2)))
            refine V.aload_n dX9_move_21 rfl (i := 0) rfl ?_
            refine V.getR dX9_move_22 rfl flRX9_61 rfl ⟨by decide, by decide⟩ ?_
            refine V.iload_n dX9_move_25 rfl (i := 1) rfl ?_
            refine V.invv (z := mX4_isMissing) (As := [_]) dX9_move_26 rfl mlRX9_154 okX4_isMissing npX4_isMissing rfl rfl rfl ⟨by decide, by decide⟩ (Nat.le_of_ble_eq_true rfl) rfl (Nat.le_of_ble_eq_true rfl) (c_isMissing  (by first | assumption | decide | omega) ?_)
            show V cS g (d + 2) mX9_move 29 [some (.ref 0), some (.int (nI s)), some (.int (nI x)), some (.int (nI t)), some (.int (nI y)), some (.int (nI k'))] [.int (b2i (((M)) 62 s = 0))] (((M))) Q
            refine V.if_ne (tgt := 43) dX9_move_29 (by decide) (fun q => absurd ((b2i_f hm1)) q) (fun c29 => ?_)
            refine V.aload_n dX9_move_32 rfl (i := 0) rfl ?_
            refine V.getR dX9_move_33 rfl flRX9_61 rfl ⟨by decide, by decide⟩ ?_
            refine V.iload_n dX9_move_36 rfl (i := 3) rfl ?_
            refine V.invv (z := mX4_isMissing) (As := [_]) dX9_move_37 rfl mlRX9_154 okX4_isMissing npX4_isMissing rfl rfl rfl ⟨by decide, by decide⟩ (Nat.le_of_ble_eq_true rfl) rfl (Nat.le_of_ble_eq_true rfl) (c_isMissing  (by first | assumption | decide | omega) ?_)
            show V cS g (d + 2) mX9_move 40 [some (.ref 0), some (.int (nI s)), some (.int (nI x)), some (.int (nI t)), some (.int (nI y)), some (.int (nI k'))] [.int (b2i ((((M))) 62 t = 0))] ((((M)))) Q
            refine V.if_eq (tgt := 50) dX9_move_40 (by decide) (fun c40 => ?_) (fun q => absurd ((b2i_f hm2)) q)
            refine V.aload_n dX9_move_50 rfl (i := 0) rfl ?_
            refine V.getR dX9_move_51 rfl flRX9_61 rfl ⟨by decide, by decide⟩ ?_
            refine V.iload_n dX9_move_54 rfl (i := 1) rfl ?_
            refine V.iload_n dX9_move_55 rfl (i := 3) rfl ?_
            refine V.invv (z := mX4_areAlike) (As := [_, _]) dX9_move_56 rfl mlRX9_335 okX4_areAlike npX4_areAlike rfl rfl rfl ⟨by decide, by decide⟩ (Nat.le_of_ble_eq_true rfl) rfl (Nat.le_of_ble_eq_true rfl) (c_areAlike  (by first | assumption | decide | omega) (by first | assumption | decide | omega) ?_)
            show V cS g (d + 2) mX9_move 59 [some (.ref 0), some (.int (nI s)), some (.int (nI x)), some (.int (nI t)), some (.int (nI y)), some (.int (nI k'))] [.int (b2i (((((M)))) 62 s = ((((M)))) 62 t))] (((((M))))) Q
            refine V.if_ne (tgt := 69) dX9_move_59 (by decide) (fun c59 => ?_) (fun q => absurd q ((fun z => b2i_0.mp z hal)))
            refine V.aload_n dX9_move_69 rfl (i := 0) rfl ?_
            refine V.getR dX9_move_70 rfl flRX9_61 rfl ⟨by decide, by decide⟩ ?_
            refine V.iload_n dX9_move_73 rfl (i := 1) rfl ?_
            refine V.iload_n dX9_move_74 rfl (i := 2) rfl ?_
            refine V.iload dX9_move_75 rfl ?_
            refine V.invv (z := mX4_stand) (As := [_, _, _]) dX9_move_77 rfl mlRX9_328 okX4_stand npX4_stand rfl rfl rfl ⟨by decide, by decide⟩ (Nat.le_of_ble_eq_true rfl) rfl (Nat.le_of_ble_eq_true rfl) (c_stand  (by first | assumption | decide | omega) ?_)
            show V cS g (d + 2) mX9_move 80 [some (.ref 0), some (.int (nI s)), some (.int (nI x)), some (.int (nI t)), some (.int (nI y)), some (.int (nI k'))] [.int (b2i (0 ≤ (nI k') ∧ 0 ≤ (nI x) ∧ (nI x) ≤ (((((M))))) 63 s ∧ (nI k') ≤ (((((M))))) 63 s - (nI x)))] ((((((M)))))) Q
            refine V.if_eq (tgt := 98) dX9_move_80 (by decide) (fun q => absurd q ((fun z => b2i_0.mp z hst.1))) (fun c80 => ?_)
            refine V.aload_n dX9_move_83 rfl (i := 0) rfl ?_
            refine V.getR dX9_move_84 rfl flRX9_61 rfl ⟨by decide, by decide⟩ ?_
            refine V.iload_n dX9_move_87 rfl (i := 3) rfl ?_
            refine V.iload dX9_move_88 rfl ?_
            refine V.iload dX9_move_90 rfl ?_
            refine V.invv (z := mX4_stand) (As := [_, _, _]) dX9_move_92 rfl mlRX9_328 okX4_stand npX4_stand rfl rfl rfl ⟨by decide, by decide⟩ (Nat.le_of_ble_eq_true rfl) rfl (Nat.le_of_ble_eq_true rfl) (c_stand  (by first | assumption | decide | omega) ?_)
            show V cS g (d + 2) mX9_move 95 [some (.ref 0), some (.int (nI s)), some (.int (nI x)), some (.int (nI t)), some (.int (nI y)), some (.int (nI k'))] [.int (b2i (0 ≤ (nI k') ∧ 0 ≤ (nI y) ∧ (nI y) ≤ ((((((M)))))) 63 t ∧ (nI k') ≤ ((((((M)))))) 63 t - (nI y)))] (((((((M))))))) Q
            refine V.if_ne (tgt := 105) dX9_move_95 (by decide) (fun c95 => ?_) (fun q => absurd q ((fun z => b2i_0.mp z hst.2)))
            refine V.aload_n dX9_move_105 rfl (i := 0) rfl ?_
            refine V.getR dX9_move_106 rfl flRX9_61 rfl ⟨by decide, by decide⟩ ?_
            refine V.iload_n dX9_move_109 rfl (i := 1) rfl ?_
            refine V.iload_n dX9_move_110 rfl (i := 2) rfl ?_
            refine V.iload_n dX9_move_111 rfl (i := 3) rfl ?_
            refine V.iload dX9_move_112 rfl ?_
            refine V.iload dX9_move_114 rfl ?_
            refine V.invv (z := mX4_carry) (As := [_, _, _, _, _]) dX9_move_116 rfl mlRX9_338 okX4_carry npX4_carry rfl rfl rfl ⟨by decide, by decide⟩ (Nat.le_of_ble_eq_true rfl) rfl (Nat.le_of_ble_eq_true rfl) (c_carry hs ht (by omega) (by omega) ?_)
            show V cS g (d + 2) mX9_move 119 [some (.ref 0), some (.int (nI s)), some (.int (nI x)), some (.int (nI t)), some (.int (nI y)), some (.int (nI k'))] [] (um M (64 + t) (va_cpy (M (64 + s)) (M (64 + t)) x y k')) Q
            refine V.iload dX9_move_119 rfl ?_
            exact V.ret dX9_move_121 rfl (hok s t x y k' hs ht rfl rfl rfl rfl rfl (by omega) (by omega) hm hal hst)
          · exfalso
            have h3 := hst.1.2.2.2
            rw [e1, pk_sub (by omega)] at h3
            have h4 : nI k ≤ nI 40 := Int32.le_trans h3 (nI_le (by omega) (by omega))
            have hk40 : k ≤ 40 := by omega
            exact hk2 ((nI_eq (by omega) (by omega)).mp hkk).symm
        · skip
          refine V.iload_n dX9_move_0 rfl (i := 1) rfl ?_
          refine V.invs (z := mX4_canBe) (As := [_]) dX9_move_1 rfl mlRX9_151 okX4_canBe npX4_canBe rfl (Nat.le_of_ble_eq_true rfl) rfl (Nat.le_of_ble_eq_true rfl) (c_canBe   ?_)
          show V cS g (d + 2) mX9_move 4 [some (.ref 0), some (.int (nI s)), some (.int i), some (.int (nI t)), some (.int j), some (.int c)] [.int (b2i (0 ≤ (nI s) ∧ (nI s) ≤ 3))] (M) Q
          refine V.if_eq (tgt := 14) dX9_move_4 (by decide) (fun q => absurd q ((fun z => b2i_0.mp z h.1))) (fun c4 => ?_)
          refine V.iload_n dX9_move_7 rfl (i := 3) rfl ?_
          refine V.invs (z := mX4_canBe) (As := [_]) dX9_move_8 rfl mlRX9_151 okX4_canBe npX4_canBe rfl (Nat.le_of_ble_eq_true rfl) rfl (Nat.le_of_ble_eq_true rfl) (c_canBe   ?_)
          show V cS g (d + 2) mX9_move 11 [some (.ref 0), some (.int (nI s)), some (.int i), some (.int (nI t)), some (.int j), some (.int c)] [.int (b2i (0 ≤ (nI t) ∧ (nI t) ≤ 3))] ((M)) Q
          refine V.if_ne (tgt := 21) dX9_move_11 (by decide) (fun c11 => ?_) (fun q => absurd q ((fun z => b2i_0.mp z h.2)))
          refine V.aload_n dX9_move_21 rfl (i := 0) rfl ?_
          refine V.getR dX9_move_22 rfl flRX9_61 rfl ⟨by decide, by decide⟩ ?_
          refine V.iload_n dX9_move_25 rfl (i := 1) rfl ?_
          refine V.invv (z := mX4_isMissing) (As := [_]) dX9_move_26 rfl mlRX9_154 okX4_isMissing npX4_isMissing rfl rfl rfl ⟨by decide, by decide⟩ (Nat.le_of_ble_eq_true rfl) rfl (Nat.le_of_ble_eq_true rfl) (c_isMissing  (by first | assumption | decide | omega) ?_)
          show V cS g (d + 2) mX9_move 29 [some (.ref 0), some (.int (nI s)), some (.int i), some (.int (nI t)), some (.int j), some (.int c)] [.int (b2i (((M)) 62 s = 0))] (((M))) Q
          refine V.if_ne (tgt := 43) dX9_move_29 (by decide) (fun q => absurd ((b2i_f hm1)) q) (fun c29 => ?_)
          refine V.aload_n dX9_move_32 rfl (i := 0) rfl ?_
          refine V.getR dX9_move_33 rfl flRX9_61 rfl ⟨by decide, by decide⟩ ?_
          refine V.iload_n dX9_move_36 rfl (i := 3) rfl ?_
          refine V.invv (z := mX4_isMissing) (As := [_]) dX9_move_37 rfl mlRX9_154 okX4_isMissing npX4_isMissing rfl rfl rfl ⟨by decide, by decide⟩ (Nat.le_of_ble_eq_true rfl) rfl (Nat.le_of_ble_eq_true rfl) (c_isMissing  (by first | assumption | decide | omega) ?_)
          show V cS g (d + 2) mX9_move 40 [some (.ref 0), some (.int (nI s)), some (.int i), some (.int (nI t)), some (.int j), some (.int c)] [.int (b2i ((((M))) 62 t = 0))] ((((M)))) Q
          refine V.if_eq (tgt := 50) dX9_move_40 (by decide) (fun c40 => ?_) (fun q => absurd ((b2i_f hm2)) q)
          refine V.aload_n dX9_move_50 rfl (i := 0) rfl ?_
          refine V.getR dX9_move_51 rfl flRX9_61 rfl ⟨by decide, by decide⟩ ?_
          refine V.iload_n dX9_move_54 rfl (i := 1) rfl ?_
          refine V.iload_n dX9_move_55 rfl (i := 3) rfl ?_
          refine V.invv (z := mX4_areAlike) (As := [_, _]) dX9_move_56 rfl mlRX9_335 okX4_areAlike npX4_areAlike rfl rfl rfl ⟨by decide, by decide⟩ (Nat.le_of_ble_eq_true rfl) rfl (Nat.le_of_ble_eq_true rfl) (c_areAlike  (by first | assumption | decide | omega) (by first | assumption | decide | omega) ?_)
          show V cS g (d + 2) mX9_move 59 [some (.ref 0), some (.int (nI s)), some (.int i), some (.int (nI t)), some (.int j), some (.int c)] [.int (b2i (((((M)))) 62 s = ((((M)))) 62 t))] (((((M))))) Q
          refine V.if_ne (tgt := 69) dX9_move_59 (by decide) (fun c59 => ?_) (fun q => absurd q ((fun z => b2i_0.mp z hal)))
          refine V.aload_n dX9_move_69 rfl (i := 0) rfl ?_
          refine V.getR dX9_move_70 rfl flRX9_61 rfl ⟨by decide, by decide⟩ ?_
          refine V.iload_n dX9_move_73 rfl (i := 1) rfl ?_
          refine V.iload_n dX9_move_74 rfl (i := 2) rfl ?_
          refine V.iload dX9_move_75 rfl ?_
          refine V.invv (z := mX4_stand) (As := [_, _, _]) dX9_move_77 rfl mlRX9_328 okX4_stand npX4_stand rfl rfl rfl ⟨by decide, by decide⟩ (Nat.le_of_ble_eq_true rfl) rfl (Nat.le_of_ble_eq_true rfl) (c_stand  (by first | assumption | decide | omega) ?_)
          show V cS g (d + 2) mX9_move 80 [some (.ref 0), some (.int (nI s)), some (.int i), some (.int (nI t)), some (.int j), some (.int c)] [.int (b2i (0 ≤ c ∧ 0 ≤ i ∧ i ≤ (((((M))))) 63 s ∧ c ≤ (((((M))))) 63 s - i))] ((((((M)))))) Q
          refine V.if_eq (tgt := 98) dX9_move_80 (by decide) (fun c80 => ?_) (fun c80 => ?_)
          · refine V.aload_n dX9_move_98 rfl (i := 0) rfl ?_
            refine V.ldc dX9_move_99 rfl ctRX9_81 ?_
            refine V.invv (z := mX9_error) (As := [_]) dX9_move_101 rfl mlRX9_82 okX9_error npX9_error rfl rfl rfl ⟨by decide, by decide⟩ (Nat.le_of_ble_eq_true rfl) rfl (Nat.le_of_ble_eq_true rfl) (c_err1   ?_)
            show V cS g (d + 2) mX9_move 104 [some (.ref 0), some (.int (nI s)), some (.int i), some (.int (nI t)), some (.int j), some (.int c)] [.int (-1000000001 : Int32)] (put ((((((M)))))) 9 1 (((((((M)))))) 9 1 + 1)) Q
            exact V.ret dX9_move_104 rfl (hbad2 s t hs ht rfl rfl hm hal hst)
          · refine V.aload_n dX9_move_83 rfl (i := 0) rfl ?_
            refine V.getR dX9_move_84 rfl flRX9_61 rfl ⟨by decide, by decide⟩ ?_
            refine V.iload_n dX9_move_87 rfl (i := 3) rfl ?_
            refine V.iload dX9_move_88 rfl ?_
            refine V.iload dX9_move_90 rfl ?_
            refine V.invv (z := mX4_stand) (As := [_, _, _]) dX9_move_92 rfl mlRX9_328 okX4_stand npX4_stand rfl rfl rfl ⟨by decide, by decide⟩ (Nat.le_of_ble_eq_true rfl) rfl (Nat.le_of_ble_eq_true rfl) (c_stand  (by first | assumption | decide | omega) ?_)
            show V cS g (d + 2) mX9_move 95 [some (.ref 0), some (.int (nI s)), some (.int i), some (.int (nI t)), some (.int j), some (.int c)] [.int (b2i (0 ≤ c ∧ 0 ≤ j ∧ j ≤ ((((((M)))))) 63 t ∧ c ≤ ((((((M)))))) 63 t - j))] (((((((M))))))) Q
            refine V.if_ne (tgt := 105) dX9_move_95 (by decide) (fun c95 => ?_) (fun c95 => ?_)
            · exact absurd ⟨(Classical.byContradiction fun z => c80 (b2i_f z)), (Classical.byContradiction fun z => c95 (b2i_f z))⟩ hst
            · refine V.aload_n dX9_move_98 rfl (i := 0) rfl ?_
              refine V.ldc dX9_move_99 rfl ctRX9_81 ?_
              refine V.invv (z := mX9_error) (As := [_]) dX9_move_101 rfl mlRX9_82 okX9_error npX9_error rfl rfl rfl ⟨by decide, by decide⟩ (Nat.le_of_ble_eq_true rfl) rfl (Nat.le_of_ble_eq_true rfl) (c_err1   ?_)
              show V cS g (d + 2) mX9_move 104 [some (.ref 0), some (.int (nI s)), some (.int i), some (.int (nI t)), some (.int j), some (.int c)] [.int (-1000000001 : Int32)] (put (((((((M))))))) 9 1 ((((((((M))))))) 9 1 + 1)) Q
              exact V.ret dX9_move_104 rfl (hbad2 s t hs ht rfl rfl hm hal hst)
      · skip
        refine V.iload_n dX9_move_0 rfl (i := 1) rfl ?_
        refine V.invs (z := mX4_canBe) (As := [_]) dX9_move_1 rfl mlRX9_151 okX4_canBe npX4_canBe rfl (Nat.le_of_ble_eq_true rfl) rfl (Nat.le_of_ble_eq_true rfl) (c_canBe   ?_)
        show V cS g (d + 2) mX9_move 4 [some (.ref 0), some (.int (nI s)), some (.int i), some (.int (nI t)), some (.int j), some (.int c)] [.int (b2i (0 ≤ (nI s) ∧ (nI s) ≤ 3))] (M) Q
        refine V.if_eq (tgt := 14) dX9_move_4 (by decide) (fun q => absurd q ((fun z => b2i_0.mp z h.1))) (fun c4 => ?_)
        refine V.iload_n dX9_move_7 rfl (i := 3) rfl ?_
        refine V.invs (z := mX4_canBe) (As := [_]) dX9_move_8 rfl mlRX9_151 okX4_canBe npX4_canBe rfl (Nat.le_of_ble_eq_true rfl) rfl (Nat.le_of_ble_eq_true rfl) (c_canBe   ?_)
        show V cS g (d + 2) mX9_move 11 [some (.ref 0), some (.int (nI s)), some (.int i), some (.int (nI t)), some (.int j), some (.int c)] [.int (b2i (0 ≤ (nI t) ∧ (nI t) ≤ 3))] ((M)) Q
        refine V.if_ne (tgt := 21) dX9_move_11 (by decide) (fun c11 => ?_) (fun q => absurd q ((fun z => b2i_0.mp z h.2)))
        refine V.aload_n dX9_move_21 rfl (i := 0) rfl ?_
        refine V.getR dX9_move_22 rfl flRX9_61 rfl ⟨by decide, by decide⟩ ?_
        refine V.iload_n dX9_move_25 rfl (i := 1) rfl ?_
        refine V.invv (z := mX4_isMissing) (As := [_]) dX9_move_26 rfl mlRX9_154 okX4_isMissing npX4_isMissing rfl rfl rfl ⟨by decide, by decide⟩ (Nat.le_of_ble_eq_true rfl) rfl (Nat.le_of_ble_eq_true rfl) (c_isMissing  (by first | assumption | decide | omega) ?_)
        show V cS g (d + 2) mX9_move 29 [some (.ref 0), some (.int (nI s)), some (.int i), some (.int (nI t)), some (.int j), some (.int c)] [.int (b2i (((M)) 62 s = 0))] (((M))) Q
        refine V.if_ne (tgt := 43) dX9_move_29 (by decide) (fun q => absurd ((b2i_f hm1)) q) (fun c29 => ?_)
        refine V.aload_n dX9_move_32 rfl (i := 0) rfl ?_
        refine V.getR dX9_move_33 rfl flRX9_61 rfl ⟨by decide, by decide⟩ ?_
        refine V.iload_n dX9_move_36 rfl (i := 3) rfl ?_
        refine V.invv (z := mX4_isMissing) (As := [_]) dX9_move_37 rfl mlRX9_154 okX4_isMissing npX4_isMissing rfl rfl rfl ⟨by decide, by decide⟩ (Nat.le_of_ble_eq_true rfl) rfl (Nat.le_of_ble_eq_true rfl) (c_isMissing  (by first | assumption | decide | omega) ?_)
        show V cS g (d + 2) mX9_move 40 [some (.ref 0), some (.int (nI s)), some (.int i), some (.int (nI t)), some (.int j), some (.int c)] [.int (b2i ((((M))) 62 t = 0))] ((((M)))) Q
        refine V.if_eq (tgt := 50) dX9_move_40 (by decide) (fun c40 => ?_) (fun q => absurd ((b2i_f hm2)) q)
        refine V.aload_n dX9_move_50 rfl (i := 0) rfl ?_
        refine V.getR dX9_move_51 rfl flRX9_61 rfl ⟨by decide, by decide⟩ ?_
        refine V.iload_n dX9_move_54 rfl (i := 1) rfl ?_
        refine V.iload_n dX9_move_55 rfl (i := 3) rfl ?_
        refine V.invv (z := mX4_areAlike) (As := [_, _]) dX9_move_56 rfl mlRX9_335 okX4_areAlike npX4_areAlike rfl rfl rfl ⟨by decide, by decide⟩ (Nat.le_of_ble_eq_true rfl) rfl (Nat.le_of_ble_eq_true rfl) (c_areAlike  (by first | assumption | decide | omega) (by first | assumption | decide | omega) ?_)
        show V cS g (d + 2) mX9_move 59 [some (.ref 0), some (.int (nI s)), some (.int i), some (.int (nI t)), some (.int j), some (.int c)] [.int (b2i (((((M)))) 62 s = ((((M)))) 62 t))] (((((M))))) Q
        refine V.if_ne (tgt := 69) dX9_move_59 (by decide) (fun q => absurd ((b2i_f hal)) q) (fun c59 => ?_)
        refine V.aload_n dX9_move_62 rfl (i := 0) rfl ?_
        refine V.ldc dX9_move_63 rfl ctRX9_134 ?_
        refine V.invv (z := mX9_error) (As := [_]) dX9_move_65 rfl mlRX9_82 okX9_error npX9_error rfl rfl rfl ⟨by decide, by decide⟩ (Nat.le_of_ble_eq_true rfl) rfl (Nat.le_of_ble_eq_true rfl) (c_err5   ?_)
        show V cS g (d + 2) mX9_move 68 [some (.ref 0), some (.int (nI s)), some (.int i), some (.int (nI t)), some (.int j), some (.int c)] [.int (-1000000005 : Int32)] (put (((((M))))) 9 5 ((((((M))))) 9 5 + 1)) Q
        exact V.ret dX9_move_68 rfl (hkind s t hs ht rfl rfl hm hal)
  · skip
    refine V.iload_n dX9_move_0 rfl (i := 1) rfl ?_
    refine V.invs (z := mX4_canBe) (As := [_]) dX9_move_1 rfl mlRX9_151 okX4_canBe npX4_canBe rfl (Nat.le_of_ble_eq_true rfl) rfl (Nat.le_of_ble_eq_true rfl) (c_canBe   ?_)
    show V cS g (d + 2) mX9_move 4 [some (.ref 0), some (.int a), some (.int i), some (.int b), some (.int j), some (.int c)] [.int (b2i (0 ≤ a ∧ a ≤ 3))] (M) Q
    refine V.if_eq (tgt := 14) dX9_move_4 (by decide) (fun c4 => ?_) (fun c4 => ?_)
    · refine V.aload_n dX9_move_14 rfl (i := 0) rfl ?_
      refine V.ldc dX9_move_15 rfl ctRX9_81 ?_
      refine V.invv (z := mX9_error) (As := [_]) dX9_move_17 rfl mlRX9_82 okX9_error npX9_error rfl rfl rfl ⟨by decide, by decide⟩ (Nat.le_of_ble_eq_true rfl) rfl (Nat.le_of_ble_eq_true rfl) (c_err1   ?_)
      show V cS g (d + 2) mX9_move 20 [some (.ref 0), some (.int a), some (.int i), some (.int b), some (.int j), some (.int c)] [.int (-1000000001 : Int32)] (put (M) 9 1 ((M) 9 1 + 1)) Q
      exact V.ret dX9_move_20 rfl (hbad h)
    · refine V.iload_n dX9_move_7 rfl (i := 3) rfl ?_
      refine V.invs (z := mX4_canBe) (As := [_]) dX9_move_8 rfl mlRX9_151 okX4_canBe npX4_canBe rfl (Nat.le_of_ble_eq_true rfl) rfl (Nat.le_of_ble_eq_true rfl) (c_canBe   ?_)
      show V cS g (d + 2) mX9_move 11 [some (.ref 0), some (.int a), some (.int i), some (.int b), some (.int j), some (.int c)] [.int (b2i (0 ≤ b ∧ b ≤ 3))] ((M)) Q
      refine V.if_ne (tgt := 21) dX9_move_11 (by decide) (fun c11 => ?_) (fun c11 => ?_)
      · exact absurd ⟨(Classical.byContradiction fun z => c4 (b2i_f z)), (Classical.byContradiction fun z => c11 (b2i_f z))⟩ h
      · refine V.aload_n dX9_move_14 rfl (i := 0) rfl ?_
        refine V.ldc dX9_move_15 rfl ctRX9_81 ?_
        refine V.invv (z := mX9_error) (As := [_]) dX9_move_17 rfl mlRX9_82 okX9_error npX9_error rfl rfl rfl ⟨by decide, by decide⟩ (Nat.le_of_ble_eq_true rfl) rfl (Nat.le_of_ble_eq_true rfl) (c_err1   ?_)
        show V cS g (d + 2) mX9_move 20 [some (.ref 0), some (.int a), some (.int i), some (.int b), some (.int j), some (.int c)] [.int (-1000000001 : Int32)] (put ((M)) 9 1 (((M)) 9 1 + 1)) Q
        exact V.ret dX9_move_20 rfl (hbad h)
/-- the i-th number told is no offset, or clashes with one ahead of it -/
def ctP (wt : Nat → Int32) (hp : Nat → Nat → Bool) (wy : Nat → Nat → Int32) (br : Int32) (ne i : Nat) : Bool := !(decide (-900 ≤ wt i) && decide (wt i ≤ 900)) || anB (fun a => anB (clP hp wy br a (wt a) i (wt i)) ne) i
theorem bI_an {p : Nat → Bool} {n : Nat} (hn : n ≤ 30) : bI p n = 0 ↔ ¬ anB p n = true := by
  rw [bI_zero hn, anB_iff]
  constructor
  · rintro h ⟨k, h1, h2⟩
    rw [h k h1] at h2
    cases h2
  · intro h k hk
    exact Bool.eq_false_iff.mpr (fun z => h ⟨k, hk, z⟩)

set_option maxHeartbeats 4000000 in
set_option maxRecDepth 100000 in
theorem l_ct {g : GG} {d : Nat} {M : Mem} {Q : Option Value → Mem → Prop} {hp : Nat → Nat → Bool} {wy : Nat → Nat → Int32} {n ne : Nat} (hN : cnts M n ne) (hH : Hd M hp wy n ne) {i : Nat} (hi : i < n) (hQ : Q (some (.int (b2i (anB (fun a => anB (clP hp wy (M 1 6) a (M 16 a) i (M 16 i)) ne) i = true)))) M) : ∀ (k a : Nat), a + k = i → anB (fun a => anB (clP hp wy (M 1 6) a (M 16 a) i (M 16 i)) ne) a = false → V cS g (d + 2) mX9_clashesAsTold 40 [some (.ref 0), some (.int (nI i)), some (.int (M 16 i)), some (.int (nI a))] [] M Q := by
  have h8 := hN.2.1
  have h10 := hN.2.2.2
  intro k
  induction k with
  | zero =>
    intro a hk hf
    obtain rfl : a = i := by omega
    refine V.iload_n dX9_clashesAsTold_40 rfl (i := 3) rfl ?_
    refine V.iload_n dX9_clashesAsTold_41 rfl (i := 1) rfl ?_
    refine V.ic_ge (tgt := 75) dX9_clashesAsTold_42 (by decide) (fun c42 => ?_) (fun q => absurd ((Int32.le_refl _)) q)
    refine V.iconst dX9_clashesAsTold_75 (v := 0) (by decide) ?_
    exact V.zret dX9_clashesAsTold_76 rfl (by first | exact Or.inl rfl | exact Or.inr rfl | assumption | exact b2i_zo _ | (repeat' split) <;> first | exact Or.inl rfl | exact Or.inr rfl | assumption | exact b2i_zo _) (Qi hQ (by rw [hf]; rfl))
  | succ k ih =>
    intro a hk hf
    have ha20 : a < 20 := by omega
    refine V.iload_n dX9_clashesAsTold_40 rfl (i := 3) rfl ?_
    refine V.iload_n dX9_clashesAsTold_41 rfl (i := 1) rfl ?_
    refine V.ic_ge (tgt := 75) dX9_clashesAsTold_42 (by decide) (fun q => absurd q ((nI_ge (a := a) (b := i) (by omega) (by omega)))) (fun c42 => ?_)
    refine V.aload_n dX9_clashesAsTold_45 rfl (i := 0) rfl ?_
    refine V.getR dX9_clashesAsTold_46 rfl flRX9_31 rfl ⟨by decide, by decide⟩ ?_
    refine V.iload_n dX9_clashesAsTold_49 rfl (i := 3) rfl ?_
    refine V.aload_n dX9_clashesAsTold_50 rfl (i := 0) rfl ?_
    refine V.getR dX9_clashesAsTold_51 rfl flRX9_12 rfl ⟨by decide, by decide⟩ ?_
    refine V.getR dX9_clashesAsTold_54 rfl flRX9_351 rfl ⟨by decide, by decide⟩ ?_
    refine V.iload_n dX9_clashesAsTold_57 rfl (i := 3) rfl ?_
    refine V.ialdN dX9_clashesAsTold_58 rfl ⟨by decide, by decide⟩ (by first | assumption | decide | omega) (by decide) ?_
    refine V.iload_n dX9_clashesAsTold_59 rfl (i := 1) rfl ?_
    refine V.iload_n dX9_clashesAsTold_60 rfl (i := 2) rfl ?_
    refine V.invv (z := mX1_earsOfClash) (As := [_, _, _, _]) dX9_clashesAsTold_61 rfl mlRX9_361 okX1_earsOfClash npX1_earsOfClash rfl rfl rfl ⟨by decide, by decide⟩ (Nat.le_of_ble_eq_true rfl) rfl (Nat.le_of_ble_eq_true rfl) (c_eoc4 hN hH (by omega) hi ?_)
    show V cS g (d + 2) mX9_clashesAsTold 64 [some (.ref 0), some (.int (nI i)), some (.int (M 16 i)), some (.int (nI a))] [.int (bI (clP hp wy (M 1 6) a (M 16 a) i (M 16 i)) ne)] M Q
    refine V.if_eq (tgt := 69) dX9_clashesAsTold_64 (by decide) (fun c64 => ?_) (fun c64 => ?_)
    · refine V.iinc dX9_clashesAsTold_69 rfl (v := (nI (a + 1))) (nI_1 _) (by decide) (fun _ h => by cases h; exact Or.inl rfl) rfl ?_
      refine V.goto dX9_clashesAsTold_72 (tgt := 40) (by decide) ?_
      exact ih (a + 1) (by omega) (by rw [anB, hf, Bool.false_or]; exact Bool.eq_false_iff.mpr ((bI_an (by omega)).mp c64))
    · refine V.iconst dX9_clashesAsTold_67 (v := 1) (by decide) ?_
      exact V.zret dX9_clashesAsTold_68 rfl (by first | exact Or.inl rfl | exact Or.inr rfl | assumption | exact b2i_zo _ | (repeat' split) <;> first | exact Or.inl rfl | exact Or.inr rfl | assumption | exact b2i_zo _) (Qi hQ (by rw [b2i_t (anB_iff.mpr ⟨a, by omega, Classical.byContradiction fun z => c64 ((bI_an (by omega)).mpr z)⟩)]))
set_option maxHeartbeats 4000000 in
set_option maxRecDepth 100000 in
theorem c_ct {g : GG} {d : Nat} {M : Mem} {Q : Option Value → Mem → Prop} {hp : Nat → Nat → Bool} {wy : Nat → Nat → Int32} {n ne : Nat} (hN : cnts M n ne) (hH : Hd M hp wy n ne) {i : Nat} (hi : i < n) (hQ : Q (some (.int (b2i ((ctP (M 16) hp wy (M 1 6) ne i) = true)))) M) : V cS g (d + 2) mX9_clashesAsTold 0 [some (.ref 0), some (.int (nI i)), none, none] [] M Q := by
  have h8 := hN.2.1
  have h20 : i < 20 := by omega
  by_cases hr : -900 ≤ M 16 i ∧ M 16 i ≤ 900
  · have hc : (ctP (M 16) hp wy (M 1 6) ne i) = anB (fun a => anB (clP hp wy (M 1 6) a (M 16 a) i (M 16 i)) ne) i := by
      unfold ctP
      rw [decide_eq_true hr.1, decide_eq_true hr.2]
      rfl
    rw [hc] at hQ
    refine V.iload_n dX9_clashesAsTold_0 rfl (i := 1) rfl ?_
    refine V.if_lt (tgt := 10) dX9_clashesAsTold_1 (by decide) (fun q => absurd q ((nI_pos (by omega)))) (fun c1 => ?_)
    refine V.iload_n dX9_clashesAsTold_4 rfl (i := 1) rfl ?_
    refine V.bipush dX9_clashesAsTold_5 (v := 8) (by decide) ?_
    refine V.ic_lt (tgt := 12) dX9_clashesAsTold_7 (by decide) (fun c7 => ?_) (fun q => absurd ((nI_lt (b := 8) (by omega) (by omega))) q)
    refine V.aload_n dX9_clashesAsTold_12 rfl (i := 0) rfl ?_
    refine V.getR dX9_clashesAsTold_13 rfl flRX9_12 rfl ⟨by decide, by decide⟩ ?_
    refine V.getR dX9_clashesAsTold_16 rfl flRX9_351 rfl ⟨by decide, by decide⟩ ?_
    refine V.iload_n dX9_clashesAsTold_19 rfl (i := 1) rfl ?_
    refine V.ialdN dX9_clashesAsTold_20 rfl ⟨by decide, by decide⟩ (by first | assumption | decide | omega) (by decide) ?_
    refine V.istore_n dX9_clashesAsTold_21 rfl (i := 2) (by decide) (fun _ h => by cases h; exact Or.inl rfl) rfl ?_
    refine V.iload_n dX9_clashesAsTold_22 rfl (i := 2) rfl ?_
    refine V.sipush dX9_clashesAsTold_23 (v := (-900)) (by decide) ?_
    refine V.ic_lt (tgt := 36) dX9_clashesAsTold_26 (by decide) (fun q => absurd q ((Int32.not_lt.mpr hr.1))) (fun c26 => ?_)
    refine V.iload_n dX9_clashesAsTold_29 rfl (i := 2) rfl ?_
    refine V.sipush dX9_clashesAsTold_30 (v := 900) (by decide) ?_
    refine V.ic_le (tgt := 38) dX9_clashesAsTold_33 (by decide) (fun c33 => ?_) (fun q => absurd ((hr.2)) q)
    refine V.iconst dX9_clashesAsTold_38 (v := 0) (by decide) ?_
    refine V.istore_n dX9_clashesAsTold_39 rfl (i := 3) (by decide) (fun _ h => by cases h; exact Or.inl rfl) rfl ?_
    exact l_ct hN hH hi hQ i 0 (by omega) rfl
  · have hc : (ctP (M 16) hp wy (M 1 6) ne i) = true := by
      unfold ctP
      have : (decide (-900 ≤ M 16 i) && decide (M 16 i ≤ 900)) = false := Bool.eq_false_iff.mpr (fun z => hr (by rw [Bool.and_eq_true] at z; exact ⟨of_decide_eq_true z.1, of_decide_eq_true z.2⟩))
      rw [this]
      rfl
    rw [b2i_t hc] at hQ
    refine V.iload_n dX9_clashesAsTold_0 rfl (i := 1) rfl ?_
    refine V.if_lt (tgt := 10) dX9_clashesAsTold_1 (by decide) (fun q => absurd q ((nI_pos (by omega)))) (fun c1 => ?_)
    refine V.iload_n dX9_clashesAsTold_4 rfl (i := 1) rfl ?_
    refine V.bipush dX9_clashesAsTold_5 (v := 8) (by decide) ?_
    refine V.ic_lt (tgt := 12) dX9_clashesAsTold_7 (by decide) (fun c7 => ?_) (fun q => absurd ((nI_lt (b := 8) (by omega) (by omega))) q)
    refine V.aload_n dX9_clashesAsTold_12 rfl (i := 0) rfl ?_
    refine V.getR dX9_clashesAsTold_13 rfl flRX9_12 rfl ⟨by decide, by decide⟩ ?_
    refine V.getR dX9_clashesAsTold_16 rfl flRX9_351 rfl ⟨by decide, by decide⟩ ?_
    refine V.iload_n dX9_clashesAsTold_19 rfl (i := 1) rfl ?_
    refine V.ialdN dX9_clashesAsTold_20 rfl ⟨by decide, by decide⟩ (by first | assumption | decide | omega) (by decide) ?_
    refine V.istore_n dX9_clashesAsTold_21 rfl (i := 2) (by decide) (fun _ h => by cases h; exact Or.inl rfl) rfl ?_
    refine V.iload_n dX9_clashesAsTold_22 rfl (i := 2) rfl ?_
    refine V.sipush dX9_clashesAsTold_23 (v := (-900)) (by decide) ?_
    refine V.ic_lt (tgt := 36) dX9_clashesAsTold_26 (by decide) (fun c26 => ?_) (fun c26 => ?_)
    · refine V.iconst dX9_clashesAsTold_36 (v := 1) (by decide) ?_
      exact V.zret dX9_clashesAsTold_37 rfl (by first | exact Or.inl rfl | exact Or.inr rfl | assumption | exact b2i_zo _ | (repeat' split) <;> first | exact Or.inl rfl | exact Or.inr rfl | assumption | exact b2i_zo _) (hQ)
    · refine V.iload_n dX9_clashesAsTold_29 rfl (i := 2) rfl ?_
      refine V.sipush dX9_clashesAsTold_30 (v := 900) (by decide) ?_
      refine V.ic_le (tgt := 38) dX9_clashesAsTold_33 (by decide) (fun c33 => ?_) (fun c33 => ?_)
      · exact absurd ⟨Int32.not_lt.mp c26, c33⟩ hr
      · refine V.iconst dX9_clashesAsTold_36 (v := 1) (by decide) ?_
        exact V.zret dX9_clashesAsTold_37 rfl (by first | exact Or.inl rfl | exact Or.inr rfl | assumption | exact b2i_zo _ | (repeat' split) <;> first | exact Or.inl rfl | exact Or.inr rfl | assumption | exact b2i_zo _) (hQ)
set_option maxHeartbeats 4000000 in
set_option maxRecDepth 100000 in
theorem l_check {g : GG} {d : Nat} {M : Mem} {Q : Option Value → Mem → Prop} {hp : Nat → Nat → Bool} {wy : Nat → Nat → Int32} {n ne : Nat} (hN : cnts M n ne) (hH : Hd M hp wy n ne) {w : Nat} {a : Int32} (hw : w ≤ 20) (hQ : Q (some (.int (if (fst (fun i => decide (w ≤ i) || (decide (n ≤ i) || ctP (M 16) hp wy (M 1 6) ne i)) (max w n)) < max w n then nI (1 + (fst (fun i => decide (w ≤ i) || (decide (n ≤ i) || ctP (M 16) hp wy (M 1 6) ne i)) (max w n))) else 0))) M) : ∀ (k i : Nat), i + k = max w n → (∀ j, j < i → (fun i => decide (w ≤ i) || (decide (n ≤ i) || ctP (M 16) hp wy (M 1 6) ne i)) j = false) → V cS g (d + 3) mX9_check 60 [some (.ref 0), some (.int a), some (.int (nI w)), some (.int (nI (max w n))), some (.int (nI i))] [] M Q := by
  have h8 := hN.2.1
  have hn := hN.1
  intro k
  induction k with
  | zero =>
    intro i hk hj
    obtain rfl : i = max w n := by omega
    have hf : (fst (fun i => decide (w ≤ i) || (decide (n ≤ i) || ctP (M 16) hp wy (M 1 6) ne i)) (max w n)) = max w n := fst_all hj
    rw [hf, if_neg (Nat.lt_irrefl _)] at hQ
    refine V.iload dX9_check_60 rfl ?_
    refine V.iload_n dX9_check_62 rfl (i := 3) rfl ?_
    refine V.ic_ge (tgt := 104) dX9_check_63 (by decide) (fun c63 => ?_) (fun q => absurd ((Int32.le_refl _)) q)
    refine V.iconst dX9_check_104 (v := 0) (by decide) ?_
    exact V.ret dX9_check_105 rfl (hQ)
  | succ k ih =>
    intro i hk hj
    by_cases hc : (fun i => decide (w ≤ i) || (decide (n ≤ i) || ctP (M 16) hp wy (M 1 6) ne i)) i = true
    · have hf : (fst (fun i => decide (w ≤ i) || (decide (n ≤ i) || ctP (M 16) hp wy (M 1 6) ne i)) (max w n)) = i := fst_is (by omega) hc hj
      rw [hf, if_pos (by omega)] at hQ
      have hQ2 : Q (some (.int (1 + nI i))) M := Qi hQ (nI_add 1 i)
      refine V.iload dX9_check_60 rfl ?_
      refine V.iload_n dX9_check_62 rfl (i := 3) rfl ?_
      refine V.ic_ge (tgt := 104) dX9_check_63 (by decide) (fun q => absurd q ((nI_ge (a := i) (b := max w n) (by omega) (by omega)))) (fun c63 => ?_)
      refine V.iload dX9_check_66 rfl ?_
      refine V.iload_n dX9_check_68 rfl (i := 2) rfl ?_
      refine V.ic_ge (tgt := 93) dX9_check_69 (by decide) (fun c69 => ?_) (fun c69 => ?_)
      · refine V.iconst dX9_check_93 (v := 1) (by decide) ?_
        refine V.iload dX9_check_94 rfl ?_
        refine V.iadd dX9_check_96 ?_
        refine V.top (x' := (nI (1 + i))) (nI_add 1 i) ?_
        exact V.ret dX9_check_97 rfl (by first | exact hQ | exact hQ2)
      · refine V.iload dX9_check_72 rfl ?_
        refine V.aload_n dX9_check_74 rfl (i := 0) rfl ?_
        refine V.getR dX9_check_75 rfl flRX9_12 rfl ⟨by decide, by decide⟩ ?_
        refine V.getI dX9_check_78 rfl flRX9_104 rfl ⟨by decide, by decide⟩ ?_
        refine V.top (x' := (nI n)) (hn) ?_
        refine V.ic_ge (tgt := 93) dX9_check_81 (by decide) (fun c81 => ?_) (fun c81 => ?_)
        · refine V.iconst dX9_check_93 (v := 1) (by decide) ?_
          refine V.iload dX9_check_94 rfl ?_
          refine V.iadd dX9_check_96 ?_
          refine V.top (x' := (nI (1 + i))) (nI_add 1 i) ?_
          exact V.ret dX9_check_97 rfl (by first | exact hQ | exact hQ2)
        · refine V.aload_n dX9_check_84 rfl (i := 0) rfl ?_
          refine V.iload dX9_check_85 rfl ?_
          refine V.invv (z := mX9_clashesAsTold) (As := [_]) dX9_check_87 rfl mlRX9_354 okX9_clashesAsTold npX9_clashesAsTold rfl rfl rfl ⟨by decide, by decide⟩ (Nat.le_of_ble_eq_true rfl) rfl (Nat.le_of_ble_eq_true rfl) (c_ct hN hH (by have := Int32.not_le.mp c81; exact (nI_ltI (by omega) (by omega)).mp this) ?_)
          show V cS g (d + 3) mX9_check 90 [some (.ref 0), some (.int a), some (.int (nI w)), some (.int (nI (max w n))), some (.int (nI i))] [.int (b2i (ctP (M 16) hp wy (M 1 6) ne i = true))] M Q
          refine V.if_eq (tgt := 98) dX9_check_90 (by decide) (fun c90 => ?_) (fun c90 => ?_)
          · exfalso; rw [Bool.or_eq_true, Bool.or_eq_true] at hc; exact hc.elim (fun z => c69 (nI_le (of_decide_eq_true z) (by omega))) (fun z => z.elim (fun z => c81 (nI_le (of_decide_eq_true z) (by omega))) (fun z => b2i_0.mp c90 z))
          · refine V.iconst dX9_check_93 (v := 1) (by decide) ?_
            refine V.iload dX9_check_94 rfl ?_
            refine V.iadd dX9_check_96 ?_
            refine V.top (x' := (nI (1 + i))) (nI_add 1 i) ?_
            exact V.ret dX9_check_97 rfl (by first | exact hQ | exact hQ2)
    · have hc3 : ¬ w ≤ i ∧ ¬ n ≤ i ∧ ¬ ctP (M 16) hp wy (M 1 6) ne i = true := ⟨fun z => hc (by show (_ || _) = true; rw [decide_eq_true z]; rfl), fun z => hc (by show (_ || (_ || _)) = true; rw [decide_eq_true z]; simp), fun z => hc (by show (_ || (_ || _)) = true; rw [z]; simp)⟩
      refine V.iload dX9_check_60 rfl ?_
      refine V.iload_n dX9_check_62 rfl (i := 3) rfl ?_
      refine V.ic_ge (tgt := 104) dX9_check_63 (by decide) (fun q => absurd q ((nI_ge (a := i) (b := max w n) (by omega) (by omega)))) (fun c63 => ?_)
      refine V.iload dX9_check_66 rfl ?_
      refine V.iload_n dX9_check_68 rfl (i := 2) rfl ?_
      refine V.ic_ge (tgt := 93) dX9_check_69 (by decide) (fun q => absurd q ((nI_ge (a := i) (b := w) (by omega) (by omega)))) (fun c69 => ?_)
      refine V.iload dX9_check_72 rfl ?_
      refine V.aload_n dX9_check_74 rfl (i := 0) rfl ?_
      refine V.getR dX9_check_75 rfl flRX9_12 rfl ⟨by decide, by decide⟩ ?_
      refine V.getI dX9_check_78 rfl flRX9_104 rfl ⟨by decide, by decide⟩ ?_
      refine V.top (x' := (nI n)) (hn) ?_
      refine V.ic_ge (tgt := 93) dX9_check_81 (by decide) (fun q => absurd q ((nI_ge (a := i) (b := n) (by omega) (by omega)))) (fun c81 => ?_)
      refine V.aload_n dX9_check_84 rfl (i := 0) rfl ?_
      refine V.iload dX9_check_85 rfl ?_
      refine V.invv (z := mX9_clashesAsTold) (As := [_]) dX9_check_87 rfl mlRX9_354 okX9_clashesAsTold npX9_clashesAsTold rfl rfl rfl ⟨by decide, by decide⟩ (Nat.le_of_ble_eq_true rfl) rfl (Nat.le_of_ble_eq_true rfl) (c_ct hN hH (by omega) ?_)
      show V cS g (d + 3) mX9_check 90 [some (.ref 0), some (.int a), some (.int (nI w)), some (.int (nI (max w n))), some (.int (nI i))] [.int (b2i (ctP (M 16) hp wy (M 1 6) ne i = true))] M Q
      refine V.if_eq (tgt := 98) dX9_check_90 (by decide) (fun c90 => ?_) (fun q => absurd ((b2i_f hc3.2.2)) q)
      refine V.iinc dX9_check_98 rfl (v := (nI (i + 1))) (nI_1 _) (by decide) (fun _ h => by cases h; exact Or.inl rfl) rfl ?_
      refine V.goto dX9_check_101 (tgt := 60) (by decide) ?_
      exact ih (i + 1) (by omega) (fun j h => by by_cases q : j = i; subst q; exact Bool.eq_false_iff.mpr hc; exact hj j (by omega))
theorem mxn {a b : Nat} (ha : a < 1000) (hb : b < 1000) : (if nI a < nI b then nI b else nI a) = nI (max a b) := by
  by_cases h : a < b
  · rw [if_pos (nI_lt h (by omega)), show max a b = b by omega]
  · rw [if_neg (nI_nlt (by omega) (by omega)), show max a b = a by omega]

set_option maxHeartbeats 4000000 in
set_option maxRecDepth 100000 in
theorem c9_check {g : GG} {d : Nat} {M : Mem} {Q : Option Value → Mem → Prop} {a : Int32} {n ne w : Nat} (hV : VB M n ne) (hw : M 1 14 = nI w) (h20 : w ≤ 20) (hbad : ¬ (0 ≤ a ∧ a ≤ 23) → Q (some (.int (-1000000001))) (put (put M 1 14 0) 9 1 (M 9 1 + 1))) (hok : (0 ≤ a ∧ a ≤ 23) → ∀ M', eqx scrH (put M 1 14 0) M' → Q (some (.int (if (fst (fun i => decide (w ≤ i) || (decide (n ≤ i) || ctP (M 16) (hpH M a) (wyH M) (M 1 6) ne i)) (max w n)) < max w n then nI (1 + (fst (fun i => decide (w ≤ i) || (decide (n ≤ i) || ctP (M 16) (hpH M a) (wyH M) (M 1 6) ne i)) (max w n))) else 0))) M') : V cS g (d + 5) mX9_check 0 [some (.ref 0), some (.int a), none, none, none] [] M Q := by
  have h8 := hV.2.1
  have hV1 : VB (put M 1 14 0) n ne := by
    unfold VB
    rw [put_n (fun q => absurd q.2 (by decide)), put_n (fun q => absurd q.2 (by decide)), put_cell (by decide), put_cell (by decide)]
    refine ⟨hV.1, hV.2.1, hV.2.2.1, hV.2.2.2.1, hV.2.2.2.2.1, fun b hb => ?_, hV.2.2.2.2.2.2⟩
    rw [put_cell (by omega)]
    exact hV.2.2.2.2.2.1 b hb
  by_cases h : 0 ≤ a ∧ a ≤ 23
  · skip
    refine V.aload_n dX9_check_0 rfl (i := 0) rfl ?_
    refine V.getR dX9_check_1 rfl flRX9_12 rfl ⟨by decide, by decide⟩ ?_
    refine V.getI dX9_check_4 rfl flRX9_348 rfl ⟨by decide, by decide⟩ ?_
    refine V.top (x' := (nI w)) (hw) ?_
    refine V.istore_n dX9_check_7 rfl (i := 2) (by decide) (fun _ h => by cases h; exact Or.inl rfl) rfl ?_
    refine V.aload_n dX9_check_8 rfl (i := 0) rfl ?_
    refine V.getR dX9_check_9 rfl flRX9_12 rfl ⟨by decide, by decide⟩ ?_
    refine V.iconst dX9_check_12 (v := 0) (by decide) ?_
    refine V.putI dX9_check_13 rfl fpRX9_348 rfl ⟨by decide, by decide⟩ ?_
    refine V.iload_n dX9_check_16 rfl (i := 1) rfl ?_
    refine V.invs (z := mX9_isHour) (As := [_]) dX9_check_17 rfl mlRX9_138 okX9_isHour npX9_isHour rfl (Nat.le_of_ble_eq_true rfl) rfl (Nat.le_of_ble_eq_true rfl) (c_isHour   ?_)
    show V cS g (d + 5) mX9_check 20 [some (.ref 0), some (.int a), some (.int (nI w)), none, none] [.int (b2i (0 ≤ a ∧ a ≤ 23))] ((put M 1 14 (0 : Int32))) Q
    refine V.if_ne (tgt := 30) dX9_check_20 (by decide) (fun c20 => ?_) (fun q => absurd q ((fun z => b2i_0.mp z h)))
    refine V.aload_n dX9_check_30 rfl (i := 0) rfl ?_
    refine V.getR dX9_check_31 rfl flRX9_31 rfl ⟨by decide, by decide⟩ ?_
    refine V.iload_n dX9_check_34 rfl (i := 1) rfl ?_
    refine V.aload_n dX9_check_35 rfl (i := 0) rfl ?_
    refine V.getR dX9_check_36 rfl flRX9_12 rfl ⟨by decide, by decide⟩ ?_
    refine V.getI dX9_check_39 rfl flRX9_94 rfl ⟨by decide, by decide⟩ ?_
    refine V.invv (z := mX1_listen) (As := [_, _]) dX9_check_42 rfl mlRX9_195 okX1_listen npX1_listen rfl rfl rfl ⟨by decide, by decide⟩ (Nat.le_of_ble_eq_true rfl) rfl (Nat.le_of_ble_eq_true rfl) (c_listen hV1 (fun M1 hM1 hH1 => ?_))
    show V cS g (d + 5) mX9_check 45 [some (.ref 0), some (.int a), some (.int (nI w)), none, none] [] M1 Q
    refine V.iload_n dX9_check_45 rfl (i := 2) rfl ?_
    refine V.aload_n dX9_check_46 rfl (i := 0) rfl ?_
    refine V.getR dX9_check_47 rfl flRX9_12 rfl ⟨by decide, by decide⟩ ?_
    refine V.getI dX9_check_50 rfl flRX9_104 rfl ⟨by decide, by decide⟩ ?_
    refine V.top (x' := (nI n)) ((by rw [hM1 1 (by decide)]; exact hV1.1)) ?_
    refine V.mmax dX9_check_53 rfl mlRX9_285 (Nat.le_of_ble_eq_true rfl) ?_
    refine V.top (x' := (nI (max w n))) ((mxn (by omega) (by omega))) ?_
    refine V.istore_n dX9_check_56 rfl (i := 3) (by decide) (fun _ h => by cases h; exact Or.inl rfl) rfl ?_
    refine V.iconst dX9_check_57 (v := 0) (by decide) ?_
    refine V.istore dX9_check_58 (i := 4) (by decide) (fun _ h => by cases h; exact Or.inl rfl) rfl ?_
    refine l_check (d := d + 2) (hV1.eq hM1 (by decide) (by decide) (by decide) (fun b hb => by simp; omega)).cn hH1 h20 (Qi (hok h M1 hM1) ?_) (max w n) 0 (by omega) (fun j hj => absurd hj (Nat.not_lt_zero _))
    have e16 : M1 16 = M 16 := by rw [hM1 16 (by decide), put_cell (by decide)]
    have e6 : M1 1 6 = M 1 6 := by rw [hM1 1 (by decide), put_n (fun q => absurd q.2 (by decide))]
    have hs : strS (put M 1 14 0) = strS M := strS_eq (put_cell (by decide)) (put_cell (by decide)) (put_cell (by decide))
    have hhp : hpF (put M 1 14 0) (fun b => strk (put M 1 14 0 (30 + b) 0) (put M 1 14 0 (30 + b) 1) (put M 1 14 0 (30 + b) 6) a) (put M 1 14 0 1 5) = hpH M a := by
      funext b e
      unfold hpH hpF
      have h30 : put M 1 14 0 (30 + b) = M (30 + b) := put_cell (by omega)
      rw [hs, put_n (b := 1) (fun q => absurd q.2 (by decide)), put_cell (c := 12) (by decide)]
      simp only [h30]
    have hwy : wyF (put M 1 14 0) (put M 1 14 0 1 5) = wyH M := by
      funext b e
      unfold wyH wyF
      rw [put_n (b := 1) (fun q => absurd q.2 (by decide)), put_cell (c := 12) (by decide), put_n (b := 30 + b) (fun q => by omega)]
    rw [e16, e6, hhp, hwy]
  · skip
    refine V.aload_n dX9_check_0 rfl (i := 0) rfl ?_
    refine V.getR dX9_check_1 rfl flRX9_12 rfl ⟨by decide, by decide⟩ ?_
    refine V.getI dX9_check_4 rfl flRX9_348 rfl ⟨by decide, by decide⟩ ?_
    refine V.istore_n dX9_check_7 rfl (i := 2) (by decide) (fun _ h => by cases h; exact Or.inl rfl) rfl ?_
    refine V.aload_n dX9_check_8 rfl (i := 0) rfl ?_
    refine V.getR dX9_check_9 rfl flRX9_12 rfl ⟨by decide, by decide⟩ ?_
    refine V.iconst dX9_check_12 (v := 0) (by decide) ?_
    refine V.putI dX9_check_13 rfl fpRX9_348 rfl ⟨by decide, by decide⟩ ?_
    refine V.iload_n dX9_check_16 rfl (i := 1) rfl ?_
    refine V.invs (z := mX9_isHour) (As := [_]) dX9_check_17 rfl mlRX9_138 okX9_isHour npX9_isHour rfl (Nat.le_of_ble_eq_true rfl) rfl (Nat.le_of_ble_eq_true rfl) (c_isHour   ?_)
    show V cS g (d + 5) mX9_check 20 [some (.ref 0), some (.int a), some (.int (M 1 14)), none, none] [.int (b2i (0 ≤ a ∧ a ≤ 23))] ((put M 1 14 (0 : Int32))) Q
    refine V.if_ne (tgt := 30) dX9_check_20 (by decide) (fun c20 => ?_) (fun c20 => ?_)
    · exact absurd (Classical.byContradiction fun z => c20 (b2i_f z)) h
    · refine V.aload_n dX9_check_23 rfl (i := 0) rfl ?_
      refine V.ldc dX9_check_24 rfl ctRX9_81 ?_
      refine V.invv (z := mX9_error) (As := [_]) dX9_check_26 rfl mlRX9_82 okX9_error npX9_error rfl rfl rfl ⟨by decide, by decide⟩ (Nat.le_of_ble_eq_true rfl) rfl (Nat.le_of_ble_eq_true rfl) (c_err1   ?_)
      show V cS g (d + 5) mX9_check 29 [some (.ref 0), some (.int a), some (.int (M 1 14)), none, none] [.int (-1000000001 : Int32)] (put ((put M 1 14 (0 : Int32))) 9 1 (((put M 1 14 (0 : Int32))) 9 1 + 1)) Q
      exact V.ret dX9_check_29 rfl (Qm (hbad h) (by rw [put_n (b := 9) (fun q => absurd q.1 (by decide))]))

