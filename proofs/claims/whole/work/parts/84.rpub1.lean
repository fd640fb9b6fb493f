/-! ===== the reference: simple public methods ===== -/
set_option maxHeartbeats 4000000 in
set_option maxRecDepth 100000 in
theorem c10_hill {g : GG} {d : Nat} {M : Mem} {Q : Option Value → Mem → Prop} {a w : Int32} (hbad : ¬ ((0 ≤ a ∧ a ≤ 99) ∧ 0 ≤ w ∧ w ≤ 9) → Q (some (.int (-1000000001))) (put M 87 1 (M 87 1 + 1))) (hok : ((0 ≤ a ∧ a ≤ 99) ∧ 0 ≤ w ∧ w ≤ 9) → ∀ b, b < 100 → a = nI b → Q (some (.int (M 84 b))) (put M 84 b w)) : V rS g (d + 2) mX10_hill 0 [some (.ref 83), some (.int a), some (.int w), none] [] M Q := by
  by_cases h : ((0 ≤ a ∧ a ≤ 99) ∧ 0 ≤ w ∧ w ≤ 9)
  · obtain ⟨b, hb, rfl⟩ := nI_ex (n := 100) (by omega) h.1.1 (Int32.lt_of_le_of_lt h.1.2 (by decide))
    refine V.iload_n dX10_hill_0 rfl (i := 1) rfl ?_
    refine V.i2l dX10_hill_1 ?_
    refine V.lconst dX10_hill_2 (v := 0) (by decide) ?_
    refine V.ldc2 dX10_hill_3 rfl clRX10_150 ?_
    refine V.invs (z := mX10_in) (As := [_, _, _]) dX10_hill_6 rfl mlRX10_66 okX10_in npX10_in rfl (Nat.le_of_ble_eq_true rfl) rfl (Nat.le_of_ble_eq_true rfl) (c_in32 (v := (nI b)) (lo := (0 : Int32)) (hi := (99 : Int32)) (by first | rfl | decide) (by first | rfl | decide)   ?_)
    show V rS g (d + 2) mX10_hill 9 [some (.ref 83), some (.int (nI b)), some (.int w), none] [.int (b2i ((0 : Int32) ≤ (nI b) ∧ (nI b) ≤ (99 : Int32)))] M Q
    refine V.if_eq (tgt := 24) dX10_hill_9 (by decide) (fun q => absurd q ((fun z => b2i_0.mp z h.1))) (fun c9 => ?_)
    refine V.iload_n dX10_hill_12 rfl (i := 2) rfl ?_
    refine V.i2l dX10_hill_13 ?_
    refine V.lconst dX10_hill_14 (v := 0) (by decide) ?_
    refine V.ldc2 dX10_hill_15 rfl clRX10_152 ?_
    refine V.invs (z := mX10_in) (As := [_, _, _]) dX10_hill_18 rfl mlRX10_66 okX10_in npX10_in rfl (Nat.le_of_ble_eq_true rfl) rfl (Nat.le_of_ble_eq_true rfl) (c_in32 (v := w) (lo := (0 : Int32)) (hi := (9 : Int32)) (by first | rfl | decide) (by first | rfl | decide)   ?_)
    show V rS g (d + 2) mX10_hill 21 [some (.ref 83), some (.int (nI b)), some (.int w), none] [.int (b2i ((0 : Int32) ≤ w ∧ w ≤ (9 : Int32)))] M Q
    refine V.if_ne (tgt := 30) dX10_hill_21 (by decide) (fun c21 => ?_) (fun q => absurd q ((fun z => b2i_0.mp z h.2)))
    refine V.aload_n dX10_hill_30 rfl (i := 0) rfl ?_
    refine V.getR dX10_hill_31 rfl flRX10_7 rfl ⟨by decide, by decide⟩ ?_
    refine V.iconst dX10_hill_34 (v := 0) (by decide) ?_
    refine V.iload_n dX10_hill_35 rfl (i := 1) rfl ?_
    refine V.iadd dX10_hill_36 ?_
    refine V.top (x' := (nI (0 + b))) (nI_add 0 b) ?_
    refine V.top (x' := (nI b)) ((by rw [Nat.zero_add])) ?_
    refine V.ialdN dX10_hill_37 rfl ⟨by decide, by decide⟩ (by first | assumption | decide | omega) (by decide) ?_
    refine V.istore_n dX10_hill_38 rfl (i := 3) (by decide) (fun _ h => by cases h; exact Or.inl rfl) rfl ?_
    refine V.aload_n dX10_hill_39 rfl (i := 0) rfl ?_
    refine V.getR dX10_hill_40 rfl flRX10_7 rfl ⟨by decide, by decide⟩ ?_
    refine V.iconst dX10_hill_43 (v := 0) (by decide) ?_
    refine V.iload_n dX10_hill_44 rfl (i := 1) rfl ?_
    refine V.iadd dX10_hill_45 ?_
    refine V.top (x' := (nI (0 + b))) (nI_add 0 b) ?_
    refine V.top (x' := (nI b)) ((by rw [Nat.zero_add])) ?_
    refine V.iload_n dX10_hill_46 rfl (i := 2) rfl ?_
    refine V.iastN dX10_hill_47 rfl ⟨by decide, by decide⟩ (by first | assumption | decide | omega) (by decide) ?_
    refine V.iload_n dX10_hill_48 rfl (i := 3) rfl ?_
    exact V.ret dX10_hill_49 rfl (hok h b hb rfl)
  · skip
    refine V.iload_n dX10_hill_0 rfl (i := 1) rfl ?_
    refine V.i2l dX10_hill_1 ?_
    refine V.lconst dX10_hill_2 (v := 0) (by decide) ?_
    refine V.ldc2 dX10_hill_3 rfl clRX10_150 ?_
    refine V.invs (z := mX10_in) (As := [_, _, _]) dX10_hill_6 rfl mlRX10_66 okX10_in npX10_in rfl (Nat.le_of_ble_eq_true rfl) rfl (Nat.le_of_ble_eq_true rfl) (c_in32 (v := a) (lo := (0 : Int32)) (hi := (99 : Int32)) (by first | rfl | decide) (by first | rfl | decide)   ?_)
    show V rS g (d + 2) mX10_hill 9 [some (.ref 83), some (.int a), some (.int w), none] [.int (b2i ((0 : Int32) ≤ a ∧ a ≤ (99 : Int32)))] M Q
    refine V.if_eq (tgt := 24) dX10_hill_9 (by decide) (fun c9 => ?_) (fun c9 => ?_)
    · refine V.aload_n dX10_hill_24 rfl (i := 0) rfl ?_
      refine V.iconst dX10_hill_25 (v := 1) (by decide) ?_
      refine V.invv (z := mX10_finds) (As := [_]) dX10_hill_26 rfl mlRX10_131 okX10_finds npX10_finds rfl rfl rfl ⟨by decide, by decide⟩ (Nat.le_of_ble_eq_true rfl) rfl (Nat.le_of_ble_eq_true rfl) (c_fnd1   ?_)
      show V rS g (d + 2) mX10_hill 29 [some (.ref 83), some (.int a), some (.int w), none] [.int (-1000000001 : Int32)] (put M 87 1 (M 87 1 + 1)) Q
      exact V.ret dX10_hill_29 rfl (hbad h)
    · refine V.iload_n dX10_hill_12 rfl (i := 2) rfl ?_
      refine V.i2l dX10_hill_13 ?_
      refine V.lconst dX10_hill_14 (v := 0) (by decide) ?_
      refine V.ldc2 dX10_hill_15 rfl clRX10_152 ?_
      refine V.invs (z := mX10_in) (As := [_, _, _]) dX10_hill_18 rfl mlRX10_66 okX10_in npX10_in rfl (Nat.le_of_ble_eq_true rfl) rfl (Nat.le_of_ble_eq_true rfl) (c_in32 (v := w) (lo := (0 : Int32)) (hi := (9 : Int32)) (by first | rfl | decide) (by first | rfl | decide)   ?_)
      show V rS g (d + 2) mX10_hill 21 [some (.ref 83), some (.int a), some (.int w), none] [.int (b2i ((0 : Int32) ≤ w ∧ w ≤ (9 : Int32)))] M Q
      refine V.if_ne (tgt := 30) dX10_hill_21 (by decide) (fun c21 => ?_) (fun c21 => ?_)
      · exact absurd ⟨(Classical.byContradiction fun z => c9 (b2i_f z)), (Classical.byContradiction fun z => c21 (b2i_f z))⟩ h
      · refine V.aload_n dX10_hill_24 rfl (i := 0) rfl ?_
        refine V.iconst dX10_hill_25 (v := 1) (by decide) ?_
        refine V.invv (z := mX10_finds) (As := [_]) dX10_hill_26 rfl mlRX10_131 okX10_finds npX10_finds rfl rfl rfl ⟨by decide, by decide⟩ (Nat.le_of_ble_eq_true rfl) rfl (Nat.le_of_ble_eq_true rfl) (c_fnd1   ?_)
        show V rS g (d + 2) mX10_hill 29 [some (.ref 83), some (.int a), some (.int w), none] [.int (-1000000001 : Int32)] (put M 87 1 (M 87 1 + 1)) Q
        exact V.ret dX10_hill_29 rfl (hbad h)
set_option maxHeartbeats 4000000 in
set_option maxRecDepth 100000 in
theorem c10_set {g : GG} {d : Nat} {M : Mem} {Q : Option Value → Mem → Prop} {a w : Int32} (hbad : ¬ ((a = 0 ∧ -5 ≤ w ∧ w ≤ 5) ∨ (a = 1 ∧ 0 ≤ w ∧ w ≤ 30) ∨ (a = 2 ∧ 0 ≤ w ∧ w ≤ 300)) → Q (some (.int (-1000000001))) (put M 87 1 (M 87 1 + 1))) (hok : ((a = 0 ∧ -5 ≤ w ∧ w ≤ 5) ∨ (a = 1 ∧ 0 ≤ w ∧ w ≤ 30) ∨ (a = 2 ∧ 0 ≤ w ∧ w ≤ 300)) → ∀ j, j < 3 → a = nI j → Q (some (.int (M 84 (100 + j)))) (put M 84 (100 + j) w)) : V rS g (d + 2) mX10_set 0 [some (.ref 83), some (.int a), some (.int w), none, none] [] M Q := by
  by_cases h : ((a = 0 ∧ -5 ≤ w ∧ w ≤ 5) ∨ (a = 1 ∧ 0 ≤ w ∧ w ≤ 30) ∨ (a = 2 ∧ 0 ≤ w ∧ w ≤ 300))
  · have h0 := h
    rcases h with ⟨rfl, h⟩ | ⟨rfl, h⟩ | ⟨rfl, h⟩
    · skip
      refine V.iload_n dX10_set_0 rfl (i := 1) rfl ?_
      refine V.if_ne (tgt := 18) dX10_set_1 (by decide) (fun q => absurd (rfl) q) (fun c1 => ?_)
      refine V.iload_n dX10_set_4 rfl (i := 2) rfl ?_
      refine V.i2l dX10_set_5 ?_
      refine V.ldc2 dX10_set_6 rfl clRX10_154 ?_
      refine V.ldc2 dX10_set_9 rfl clRX10_156 ?_
      refine V.invs (z := mX10_in) (As := [_, _, _]) dX10_set_12 rfl mlRX10_66 okX10_in npX10_in rfl (Nat.le_of_ble_eq_true rfl) rfl (Nat.le_of_ble_eq_true rfl) (c_in32 (v := w) (lo := (-5 : Int32)) (hi := (5 : Int32)) (by first | rfl | decide) (by first | rfl | decide)   ?_)
      show V rS g (d + 2) mX10_set 15 [some (.ref 83), some (.int (nI 0)), some (.int w), none, none] [.int (b2i ((-5 : Int32) ≤ w ∧ w ≤ (5 : Int32)))] M Q
      refine V.goto dX10_set_15 (tgt := 57) (by decide) ?_
      refine V.istore_n dX10_set_57 rfl (i := 3) (by decide) (fun _ h => by cases h; exact Or.inl rfl) rfl ?_
      refine V.iload_n dX10_set_58 rfl (i := 3) rfl ?_
      refine V.if_ne (tgt := 68) dX10_set_59 (by decide) (fun c59 => ?_) (fun q => absurd q ((fun z => b2i_0.mp z h)))
      refine V.aload_n dX10_set_68 rfl (i := 0) rfl ?_
      refine V.getR dX10_set_69 rfl flRX10_7 rfl ⟨by decide, by decide⟩ ?_
      refine V.bipush dX10_set_72 (v := 100) (by decide) ?_
      refine V.iload_n dX10_set_74 rfl (i := 1) rfl ?_
      refine V.iadd dX10_set_75 ?_
      refine V.top (x' := (nI (100 + 0))) (nI_add 100 0) ?_
      refine V.ialdN dX10_set_76 rfl ⟨by decide, by decide⟩ (by first | assumption | decide | omega) (by decide) ?_
      refine V.istore dX10_set_77 (i := 4) (by decide) (fun _ h => by cases h; exact Or.inl rfl) rfl ?_
      refine V.aload_n dX10_set_79 rfl (i := 0) rfl ?_
      refine V.getR dX10_set_80 rfl flRX10_7 rfl ⟨by decide, by decide⟩ ?_
      refine V.bipush dX10_set_83 (v := 100) (by decide) ?_
      refine V.iload_n dX10_set_85 rfl (i := 1) rfl ?_
      refine V.iadd dX10_set_86 ?_
      refine V.top (x' := (nI (100 + 0))) (nI_add 100 0) ?_
      refine V.iload_n dX10_set_87 rfl (i := 2) rfl ?_
      refine V.iastN dX10_set_88 rfl ⟨by decide, by decide⟩ (by first | assumption | decide | omega) (by decide) ?_
      refine V.iload dX10_set_89 rfl ?_
      exact V.ret dX10_set_91 rfl (hok h0 0 (by decide) rfl)
    · skip
      refine V.iload_n dX10_set_0 rfl (i := 1) rfl ?_
      refine V.if_ne (tgt := 18) dX10_set_1 (by decide) (fun c1 => ?_) (fun q => absurd q ((by decide)))
      refine V.iload_n dX10_set_18 rfl (i := 1) rfl ?_
      refine V.iconst dX10_set_19 (v := 1) (by decide) ?_
      refine V.ic_ne (tgt := 35) dX10_set_20 (by decide) (fun q => absurd (rfl) q) (fun c20 => ?_)
      refine V.iload_n dX10_set_23 rfl (i := 2) rfl ?_
      refine V.i2l dX10_set_24 ?_
      refine V.lconst dX10_set_25 (v := 0) (by decide) ?_
      refine V.ldc2 dX10_set_26 rfl clRX10_158 ?_
      refine V.invs (z := mX10_in) (As := [_, _, _]) dX10_set_29 rfl mlRX10_66 okX10_in npX10_in rfl (Nat.le_of_ble_eq_true rfl) rfl (Nat.le_of_ble_eq_true rfl) (c_in32 (v := w) (lo := (0 : Int32)) (hi := (30 : Int32)) (by first | rfl | decide) (by first | rfl | decide)   ?_)
      show V rS g (d + 2) mX10_set 32 [some (.ref 83), some (.int (nI 1)), some (.int w), none, none] [.int (b2i ((0 : Int32) ≤ w ∧ w ≤ (30 : Int32)))] M Q
      refine V.goto dX10_set_32 (tgt := 57) (by decide) ?_
      refine V.istore_n dX10_set_57 rfl (i := 3) (by decide) (fun _ h => by cases h; exact Or.inl rfl) rfl ?_
      refine V.iload_n dX10_set_58 rfl (i := 3) rfl ?_
      refine V.if_ne (tgt := 68) dX10_set_59 (by decide) (fun c59 => ?_) (fun q => absurd q ((fun z => b2i_0.mp z h)))
      refine V.aload_n dX10_set_68 rfl (i := 0) rfl ?_
      refine V.getR dX10_set_69 rfl flRX10_7 rfl ⟨by decide, by decide⟩ ?_
      refine V.bipush dX10_set_72 (v := 100) (by decide) ?_
      refine V.iload_n dX10_set_74 rfl (i := 1) rfl ?_
      refine V.iadd dX10_set_75 ?_
      refine V.top (x' := (nI (100 + 1))) (nI_add 100 1) ?_
      refine V.ialdN dX10_set_76 rfl ⟨by decide, by decide⟩ (by first | assumption | decide | omega) (by decide) ?_
      refine V.istore dX10_set_77 (i := 4) (by decide) (fun _ h => by cases h; exact Or.inl rfl) rfl ?_
      refine V.aload_n dX10_set_79 rfl (i := 0) rfl ?_
      refine V.getR dX10_set_80 rfl flRX10_7 rfl ⟨by decide, by decide⟩ ?_
      refine V.bipush dX10_set_83 (v := 100) (by decide) ?_
      refine V.iload_n dX10_set_85 rfl (i := 1) rfl ?_
      refine V.iadd dX10_set_86 ?_
      refine V.top (x' := (nI (100 + 1))) (nI_add 100 1) ?_
      refine V.iload_n dX10_set_87 rfl (i := 2) rfl ?_
      refine V.iastN dX10_set_88 rfl ⟨by decide, by decide⟩ (by first | assumption | decide | omega) (by decide) ?_
      refine V.iload dX10_set_89 rfl ?_
      exact V.ret dX10_set_91 rfl (hok h0 1 (by decide) rfl)
    · skip
      refine V.iload_n dX10_set_0 rfl (i := 1) rfl ?_
      refine V.if_ne (tgt := 18) dX10_set_1 (by decide) (fun c1 => ?_) (fun q => absurd q ((by decide)))
      refine V.iload_n dX10_set_18 rfl (i := 1) rfl ?_
      refine V.iconst dX10_set_19 (v := 1) (by decide) ?_
      refine V.ic_ne (tgt := 35) dX10_set_20 (by decide) (fun c20 => ?_) (fun q => absurd q ((by decide)))
      refine V.iload_n dX10_set_35 rfl (i := 1) rfl ?_
      refine V.iconst dX10_set_36 (v := 2) (by decide) ?_
      refine V.ic_ne (tgt := 56) dX10_set_37 (by decide) (fun q => absurd (rfl) q) (fun c37 => ?_)
      refine V.iload_n dX10_set_40 rfl (i := 2) rfl ?_
      refine V.i2l dX10_set_41 ?_
      refine V.lconst dX10_set_42 (v := 0) (by decide) ?_
      refine V.ldc2 dX10_set_43 rfl clRX10_160 ?_
      refine V.invs (z := mX10_in) (As := [_, _, _]) dX10_set_46 rfl mlRX10_66 okX10_in npX10_in rfl (Nat.le_of_ble_eq_true rfl) rfl (Nat.le_of_ble_eq_true rfl) (c_in32 (v := w) (lo := (0 : Int32)) (hi := (300 : Int32)) (by first | rfl | decide) (by first | rfl | decide)   ?_)
      show V rS g (d + 2) mX10_set 49 [some (.ref 83), some (.int (nI 2)), some (.int w), none, none] [.int (b2i ((0 : Int32) ≤ w ∧ w ≤ (300 : Int32)))] M Q
      suffices kJ49 : V rS g (d + 2) mX10_set 57 [some (.ref 83), some (.int (nI 2)), some (.int w), none, none] [.int (if (b2i ((0 : Int32) ≤ w ∧ w ≤ (300 : Int32))) = (0 : Int32) then (0 : Int32) else (1 : Int32))] M Q by
        refine V.if_eq (tgt := 56) dX10_set_49 (by decide) (fun q => absurd q ((fun z => b2i_0.mp z h))) (fun c49 => ?_)
        refine V.iconst dX10_set_52 (v := 1) (by decide) ?_
        refine V.goto dX10_set_53 (tgt := 57) (by decide) ?_
        rw [if_neg c49] at kJ49; exact kJ49
      refine V.istore_n dX10_set_57 rfl (i := 3) (by decide) (fun _ h => by cases h; exact Or.inl rfl) rfl ?_
      refine V.iload_n dX10_set_58 rfl (i := 3) rfl ?_
      refine V.if_ne (tgt := 68) dX10_set_59 (by decide) (fun c59 => ?_) (fun q => absurd q ((fun z => by rw [if_neg (fun y => b2i_0.mp y h)] at z; exact absurd z (by decide))))
      refine V.aload_n dX10_set_68 rfl (i := 0) rfl ?_
      refine V.getR dX10_set_69 rfl flRX10_7 rfl ⟨by decide, by decide⟩ ?_
      refine V.bipush dX10_set_72 (v := 100) (by decide) ?_
      refine V.iload_n dX10_set_74 rfl (i := 1) rfl ?_
      refine V.iadd dX10_set_75 ?_
      refine V.top (x' := (nI (100 + 2))) (nI_add 100 2) ?_
      refine V.ialdN dX10_set_76 rfl ⟨by decide, by decide⟩ (by first | assumption | decide | omega) (by decide) ?_
      refine V.istore dX10_set_77 (i := 4) (by decide) (fun _ h => by cases h; exact Or.inl rfl) rfl ?_
      refine V.aload_n dX10_set_79 rfl (i := 0) rfl ?_
      refine V.getR dX10_set_80 rfl flRX10_7 rfl ⟨by decide, by decide⟩ ?_
      refine V.bipush dX10_set_83 (v := 100) (by decide) ?_
      refine V.iload_n dX10_set_85 rfl (i := 1) rfl ?_
      refine V.iadd dX10_set_86 ?_
      refine V.top (x' := (nI (100 + 2))) (nI_add 100 2) ?_
      refine V.iload_n dX10_set_87 rfl (i := 2) rfl ?_
      refine V.iastN dX10_set_88 rfl ⟨by decide, by decide⟩ (by first | assumption | decide | omega) (by decide) ?_
      refine V.iload dX10_set_89 rfl ?_
      exact V.ret dX10_set_91 rfl (hok h0 2 (by decide) rfl)
  · skip
    refine V.iload_n dX10_set_0 rfl (i := 1) rfl ?_
    refine V.if_ne (tgt := 18) dX10_set_1 (by decide) (fun c1 => ?_) (fun c1 => ?_)
    · refine V.iload_n dX10_set_18 rfl (i := 1) rfl ?_
      refine V.iconst dX10_set_19 (v := 1) (by decide) ?_
      refine V.ic_ne (tgt := 35) dX10_set_20 (by decide) (fun c20 => ?_) (fun c20 => ?_)
      · refine V.iload_n dX10_set_35 rfl (i := 1) rfl ?_
        refine V.iconst dX10_set_36 (v := 2) (by decide) ?_
        refine V.ic_ne (tgt := 56) dX10_set_37 (by decide) (fun c37 => ?_) (fun c37 => ?_)
        · refine V.iconst dX10_set_56 (v := 0) (by decide) ?_
          refine V.istore_n dX10_set_57 rfl (i := 3) (by decide) (fun _ h => by cases h; exact Or.inl rfl) rfl ?_
          refine V.iload_n dX10_set_58 rfl (i := 3) rfl ?_
          refine V.if_ne (tgt := 68) dX10_set_59 (by decide) (fun c59 => ?_) (fun c59 => ?_)
          · first | exact absurd rfl c59 | exact absurd (by revert c59; unfold b2i; (repeat' split) <;> simp_all) h
          · refine V.aload_n dX10_set_62 rfl (i := 0) rfl ?_
            refine V.iconst dX10_set_63 (v := 1) (by decide) ?_
            refine V.invv (z := mX10_finds) (As := [_]) dX10_set_64 rfl mlRX10_131 okX10_finds npX10_finds rfl rfl rfl ⟨by decide, by decide⟩ (Nat.le_of_ble_eq_true rfl) rfl (Nat.le_of_ble_eq_true rfl) (c_fnd1   ?_)
            show V rS g (d + 2) mX10_set 67 [some (.ref 83), some (.int a), some (.int w), some (.int (0 : Int32)), none] [.int (-1000000001 : Int32)] (put M 87 1 (M 87 1 + 1)) Q
            exact V.ret dX10_set_67 rfl (hbad h)
        · refine V.iload_n dX10_set_40 rfl (i := 2) rfl ?_
          refine V.i2l dX10_set_41 ?_
          refine V.lconst dX10_set_42 (v := 0) (by decide) ?_
          refine V.ldc2 dX10_set_43 rfl clRX10_160 ?_
          refine V.invs (z := mX10_in) (As := [_, _, _]) dX10_set_46 rfl mlRX10_66 okX10_in npX10_in rfl (Nat.le_of_ble_eq_true rfl) rfl (Nat.le_of_ble_eq_true rfl) (c_in32 (v := w) (lo := (0 : Int32)) (hi := (300 : Int32)) (by first | rfl | decide) (by first | rfl | decide)   ?_)
          show V rS g (d + 2) mX10_set 49 [some (.ref 83), some (.int a), some (.int w), none, none] [.int (b2i ((0 : Int32) ≤ w ∧ w ≤ (300 : Int32)))] M Q
          suffices kJ49 : V rS g (d + 2) mX10_set 57 [some (.ref 83), some (.int a), some (.int w), none, none] [.int (if (b2i ((0 : Int32) ≤ w ∧ w ≤ (300 : Int32))) = (0 : Int32) then (0 : Int32) else (1 : Int32))] M Q by
            refine V.if_eq (tgt := 56) dX10_set_49 (by decide) (fun c49 => ?_) (fun c49 => ?_)
            · refine V.iconst dX10_set_56 (v := 0) (by decide) ?_
              rw [if_pos c49] at kJ49; exact kJ49
            · refine V.iconst dX10_set_52 (v := 1) (by decide) ?_
              refine V.goto dX10_set_53 (tgt := 57) (by decide) ?_
              rw [if_neg c49] at kJ49; exact kJ49
          refine V.istore_n dX10_set_57 rfl (i := 3) (by decide) (fun _ h => by cases h; exact Or.inl rfl) rfl ?_
          refine V.iload_n dX10_set_58 rfl (i := 3) rfl ?_
          refine V.if_ne (tgt := 68) dX10_set_59 (by decide) (fun c59 => ?_) (fun c59 => ?_)
          · first | exact absurd rfl c59 | exact absurd (by revert c59; unfold b2i; (repeat' split) <;> simp_all) h
          · refine V.aload_n dX10_set_62 rfl (i := 0) rfl ?_
            refine V.iconst dX10_set_63 (v := 1) (by decide) ?_
            refine V.invv (z := mX10_finds) (As := [_]) dX10_set_64 rfl mlRX10_131 okX10_finds npX10_finds rfl rfl rfl ⟨by decide, by decide⟩ (Nat.le_of_ble_eq_true rfl) rfl (Nat.le_of_ble_eq_true rfl) (c_fnd1   ?_)
            show V rS g (d + 2) mX10_set 67 [some (.ref 83), some (.int a), some (.int w), some (.int (if (b2i ((0 : Int32) ≤ w ∧ w ≤ (300 : Int32))) = (0 : Int32) then (0 : Int32) else (1 : Int32))), none] [.int (-1000000001 : Int32)] (put M 87 1 (M 87 1 + 1)) Q
            exact V.ret dX10_set_67 rfl (hbad h)
      · refine V.iload_n dX10_set_23 rfl (i := 2) rfl ?_
        refine V.i2l dX10_set_24 ?_
        refine V.lconst dX10_set_25 (v := 0) (by decide) ?_
        refine V.ldc2 dX10_set_26 rfl clRX10_158 ?_
        refine V.invs (z := mX10_in) (As := [_, _, _]) dX10_set_29 rfl mlRX10_66 okX10_in npX10_in rfl (Nat.le_of_ble_eq_true rfl) rfl (Nat.le_of_ble_eq_true rfl) (c_in32 (v := w) (lo := (0 : Int32)) (hi := (30 : Int32)) (by first | rfl | decide) (by first | rfl | decide)   ?_)
        show V rS g (d + 2) mX10_set 32 [some (.ref 83), some (.int a), some (.int w), none, none] [.int (b2i ((0 : Int32) ≤ w ∧ w ≤ (30 : Int32)))] M Q
        refine V.goto dX10_set_32 (tgt := 57) (by decide) ?_
        refine V.istore_n dX10_set_57 rfl (i := 3) (by decide) (fun _ h => by cases h; exact Or.inl rfl) rfl ?_
        refine V.iload_n dX10_set_58 rfl (i := 3) rfl ?_
        refine V.if_ne (tgt := 68) dX10_set_59 (by decide) (fun c59 => ?_) (fun c59 => ?_)
        · first | exact absurd rfl c59 | exact absurd (by revert c59; unfold b2i; (repeat' split) <;> simp_all) h
        · refine V.aload_n dX10_set_62 rfl (i := 0) rfl ?_
          refine V.iconst dX10_set_63 (v := 1) (by decide) ?_
          refine V.invv (z := mX10_finds) (As := [_]) dX10_set_64 rfl mlRX10_131 okX10_finds npX10_finds rfl rfl rfl ⟨by decide, by decide⟩ (Nat.le_of_ble_eq_true rfl) rfl (Nat.le_of_ble_eq_true rfl) (c_fnd1   ?_)
          show V rS g (d + 2) mX10_set 67 [some (.ref 83), some (.int a), some (.int w), some (.int (b2i ((0 : Int32) ≤ w ∧ w ≤ (30 : Int32)))), none] [.int (-1000000001 : Int32)] (put M 87 1 (M 87 1 + 1)) Q
          exact V.ret dX10_set_67 rfl (hbad h)
    · refine V.iload_n dX10_set_4 rfl (i := 2) rfl ?_
      refine V.i2l dX10_set_5 ?_
      refine V.ldc2 dX10_set_6 rfl clRX10_154 ?_
      refine V.ldc2 dX10_set_9 rfl clRX10_156 ?_
      refine V.invs (z := mX10_in) (As := [_, _, _]) dX10_set_12 rfl mlRX10_66 okX10_in npX10_in rfl (Nat.le_of_ble_eq_true rfl) rfl (Nat.le_of_ble_eq_true rfl) (c_in32 (v := w) (lo := (-5 : Int32)) (hi := (5 : Int32)) (by first | rfl | decide) (by first | rfl | decide)   ?_)
      show V rS g (d + 2) mX10_set 15 [some (.ref 83), some (.int a), some (.int w), none, none] [.int (b2i ((-5 : Int32) ≤ w ∧ w ≤ (5 : Int32)))] M Q
      refine V.goto dX10_set_15 (tgt := 57) (by decide) ?_
      refine V.istore_n dX10_set_57 rfl (i := 3) (by decide) (fun _ h => by cases h; exact Or.inl rfl) rfl ?_
      refine V.iload_n dX10_set_58 rfl (i := 3) rfl ?_
      refine V.if_ne (tgt := 68) dX10_set_59 (by decide) (fun c59 => ?_) (fun c59 => ?_)
      · first | exact absurd rfl c59 | exact absurd (by revert c59; unfold b2i; (repeat' split) <;> simp_all) h
      · refine V.aload_n dX10_set_62 rfl (i := 0) rfl ?_
        refine V.iconst dX10_set_63 (v := 1) (by decide) ?_
        refine V.invv (z := mX10_finds) (As := [_]) dX10_set_64 rfl mlRX10_131 okX10_finds npX10_finds rfl rfl rfl ⟨by decide, by decide⟩ (Nat.le_of_ble_eq_true rfl) rfl (Nat.le_of_ble_eq_true rfl) (c_fnd1   ?_)
        show V rS g (d + 2) mX10_set 67 [some (.ref 83), some (.int a), some (.int w), some (.int (b2i ((-5 : Int32) ≤ w ∧ w ≤ (5 : Int32)))), none] [.int (-1000000001 : Int32)] (put M 87 1 (M 87 1 + 1)) Q
        exact V.ret dX10_set_67 rfl (hbad h)
set_option maxHeartbeats 4000000 in
set_option maxRecDepth 100000 in
theorem c10_ofBell {g : GG} {d : Nat} {M : Mem} {Q : Option Value → Mem → Prop} {a w : Int32} {n : Nat} (hn : M 84 103 = nI n) (h8 : n ≤ 8) (hbad : ¬ ((0 ≤ a ∧ a < nI n) ∧ 0 ≤ w ∧ w ≤ 6) → Q (some (.int (-1000000001))) (put M 87 1 (M 87 1 + 1))) (hok : ((0 ≤ a ∧ a < nI n) ∧ 0 ≤ w ∧ w ≤ 6) → ∀ b j, b < n → j < 7 → a = nI b → w = nI j → Q (some (.int (M 84 (108 + 7 * b + j)))) M) : V rS g (d + 2) mX10_ofBell 0 [some (.ref 83), some (.int a), some (.int w)] [] M Q := by
  by_cases h : ((0 ≤ a ∧ a < nI n) ∧ 0 ≤ w ∧ w ≤ 6)
  · obtain ⟨b, hb, rfl⟩ := nI_ex (n := n) (by omega) h.1.1 h.1.2
    obtain ⟨j, hj, rfl⟩ := nI_ex (n := 7) (by omega) h.2.1 (Int32.lt_of_le_of_lt h.2.2 (by decide))
    refine V.aload_n dX10_ofBell_0 rfl (i := 0) rfl ?_
    refine V.iload_n dX10_ofBell_1 rfl (i := 1) rfl ?_
    refine V.invv (z := mX10_isBell) (As := [_]) dX10_ofBell_2 rfl mlRX10_170 okX10_isBell npX10_isBell rfl rfl rfl ⟨by decide, by decide⟩ (Nat.le_of_ble_eq_true rfl) rfl (Nat.le_of_ble_eq_true rfl) (c_bellR hn h8 ?_)
    show V rS g (d + 2) mX10_ofBell 5 [some (.ref 83), some (.int (nI b)), some (.int (nI j))] [.int (b2i (0 ≤ nI b ∧ nI b < nI n))] M Q
    refine V.if_eq (tgt := 29) dX10_ofBell_5 (by decide) (fun q => absurd q ((fun z => b2i_0.mp z h.1))) (fun c5 => ?_)
    refine V.iload_n dX10_ofBell_8 rfl (i := 2) rfl ?_
    refine V.i2l dX10_ofBell_9 ?_
    refine V.lconst dX10_ofBell_10 (v := 0) (by decide) ?_
    refine V.ldc2 dX10_ofBell_11 rfl clRX10_173 ?_
    refine V.invs (z := mX10_in) (As := [_, _, _]) dX10_ofBell_14 rfl mlRX10_66 okX10_in npX10_in rfl (Nat.le_of_ble_eq_true rfl) rfl (Nat.le_of_ble_eq_true rfl) (c_in32 (v := (nI j)) (lo := (0 : Int32)) (hi := (6 : Int32)) (by first | rfl | decide) (by first | rfl | decide)   ?_)
    show V rS g (d + 2) mX10_ofBell 17 [some (.ref 83), some (.int (nI b)), some (.int (nI j))] [.int (b2i ((0 : Int32) ≤ (nI j) ∧ (nI j) ≤ (6 : Int32)))] M Q
    refine V.if_eq (tgt := 29) dX10_ofBell_17 (by decide) (fun q => absurd q ((fun z => b2i_0.mp z h.2))) (fun c17 => ?_)
    refine V.aload_n dX10_ofBell_20 rfl (i := 0) rfl ?_
    refine V.iload_n dX10_ofBell_21 rfl (i := 1) rfl ?_
    refine V.iload_n dX10_ofBell_22 rfl (i := 2) rfl ?_
    refine V.invv (z := mX10_of) (As := [_, _]) dX10_ofBell_23 rfl mlRX10_175 okX10_of npX10_of rfl rfl rfl ⟨by decide, by decide⟩ (Nat.le_of_ble_eq_true rfl) rfl (Nat.le_of_ble_eq_true rfl) (c_of  (by omega) (by exact hj) ?_)
    show V rS g (d + 2) mX10_ofBell 26 [some (.ref 83), some (.int (nI b)), some (.int (nI j))] [.int (M 84 (108 + 7 * b + j))] (M) Q
    refine V.goto dX10_ofBell_26 (tgt := 34) (by decide) ?_
    exact V.ret dX10_ofBell_34 rfl (hok h b j hb hj rfl rfl)
  · skip
    refine V.aload_n dX10_ofBell_0 rfl (i := 0) rfl ?_
    refine V.iload_n dX10_ofBell_1 rfl (i := 1) rfl ?_
    refine V.invv (z := mX10_isBell) (As := [_]) dX10_ofBell_2 rfl mlRX10_170 okX10_isBell npX10_isBell rfl rfl rfl ⟨by decide, by decide⟩ (Nat.le_of_ble_eq_true rfl) rfl (Nat.le_of_ble_eq_true rfl) (c_bellR hn h8 ?_)
    show V rS g (d + 2) mX10_ofBell 5 [some (.ref 83), some (.int a), some (.int w)] [.int (b2i (0 ≤ a ∧ a < nI n))] M Q
    refine V.if_eq (tgt := 29) dX10_ofBell_5 (by decide) (fun c5 => ?_) (fun c5 => ?_)
    · refine V.aload_n dX10_ofBell_29 rfl (i := 0) rfl ?_
      refine V.iconst dX10_ofBell_30 (v := 1) (by decide) ?_
      refine V.invv (z := mX10_finds) (As := [_]) dX10_ofBell_31 rfl mlRX10_131 okX10_finds npX10_finds rfl rfl rfl ⟨by decide, by decide⟩ (Nat.le_of_ble_eq_true rfl) rfl (Nat.le_of_ble_eq_true rfl) (c_fnd1   ?_)
      show V rS g (d + 2) mX10_ofBell 34 [some (.ref 83), some (.int a), some (.int w)] [.int (-1000000001 : Int32)] (put M 87 1 (M 87 1 + 1)) Q
      exact V.ret dX10_ofBell_34 rfl (hbad h)
    · refine V.iload_n dX10_ofBell_8 rfl (i := 2) rfl ?_
      refine V.i2l dX10_ofBell_9 ?_
      refine V.lconst dX10_ofBell_10 (v := 0) (by decide) ?_
      refine V.ldc2 dX10_ofBell_11 rfl clRX10_173 ?_
      refine V.invs (z := mX10_in) (As := [_, _, _]) dX10_ofBell_14 rfl mlRX10_66 okX10_in npX10_in rfl (Nat.le_of_ble_eq_true rfl) rfl (Nat.le_of_ble_eq_true rfl) (c_in32 (v := w) (lo := (0 : Int32)) (hi := (6 : Int32)) (by first | rfl | decide) (by first | rfl | decide)   ?_)
      show V rS g (d + 2) mX10_ofBell 17 [some (.ref 83), some (.int a), some (.int w)] [.int (b2i ((0 : Int32) ≤ w ∧ w ≤ (6 : Int32)))] M Q
      refine V.if_eq (tgt := 29) dX10_ofBell_17 (by decide) (fun c17 => ?_) (fun c17 => ?_)
      · refine V.aload_n dX10_ofBell_29 rfl (i := 0) rfl ?_
        refine V.iconst dX10_ofBell_30 (v := 1) (by decide) ?_
        refine V.invv (z := mX10_finds) (As := [_]) dX10_ofBell_31 rfl mlRX10_131 okX10_finds npX10_finds rfl rfl rfl ⟨by decide, by decide⟩ (Nat.le_of_ble_eq_true rfl) rfl (Nat.le_of_ble_eq_true rfl) (c_fnd1   ?_)
        show V rS g (d + 2) mX10_ofBell 34 [some (.ref 83), some (.int a), some (.int w)] [.int (-1000000001 : Int32)] (put M 87 1 (M 87 1 + 1)) Q
        exact V.ret dX10_ofBell_34 rfl (hbad h)
      · exact absurd ⟨(Classical.byContradiction fun z => c5 (b2i_f z)), (Classical.byContradiction fun z => c17 (b2i_f z))⟩ h
theorem may_m {w v : Int32} (h1 : 2 ≤ w ∧ w ≤ 5) (h4 : ¬ w = 4) (h2 : 0 ≤ v ∧ v ≤ 99) : mayB w v = true := by
  have h3 : w = 2 ∨ w = 3 ∨ w = 5 := by simp only [Int32.lt_iff_toInt_lt, Int32.le_iff_toInt_le, ← Int32.toInt_inj, Int32.reduceToInt] at *; omega
  unfold mayB
  rw [if_pos h3, decide_eq_true h2.1, decide_eq_true h2.2]
  rfl

set_option maxHeartbeats 4000000 in
set_option maxRecDepth 100000 in
theorem c10_change {g : GG} {d : Nat} {M : Mem} {Q : Option Value → Mem → Prop} {a w v : Int32} {n : Nat} (hn : M 84 103 = nI n) (h8 : n ≤ 8) (hbad : ¬ ((0 ≤ a ∧ a < nI n) ∧ mayB w v = true) → Q (some (.int (-1000000001))) (put M 87 1 (M 87 1 + 1))) (hok : ((0 ≤ a ∧ a < nI n) ∧ mayB w v = true) → ∀ b j, b < n → 2 ≤ j → j < 7 → a = nI b → w = nI j → Q (some (.int (M 84 (108 + 7 * b + j)))) (put M 84 (108 + 7 * b + j) v)) : V rS g (d + 2) mX10_change 0 [some (.ref 83), some (.int a), some (.int w), some (.int v), none, none] [] M Q := by
  by_cases h : ((0 ≤ a ∧ a < nI n) ∧ mayB w v = true)
  · obtain ⟨b, hb, rfl⟩ := nI_ex (n := n) (by omega) h.1.1 h.1.2
    have hj : ∃ j, 2 ≤ j ∧ j < 7 ∧ w = nI j := by
      have h2 := h.2
      unfold mayB at h2
      by_cases e2 : w = 2
      · exact ⟨2, by decide, by decide, e2⟩
      by_cases e3 : w = 3
      · exact ⟨3, by decide, by decide, e3⟩
      by_cases e4 : w = 4
      · exact ⟨4, by decide, by decide, e4⟩
      by_cases e5 : w = 5
      · exact ⟨5, by decide, by decide, e5⟩
      by_cases e6 : w = 6
      · exact ⟨6, by decide, by decide, e6⟩
      rw [if_neg (fun z => z.elim e2 (fun z => z.elim e3 e5)), if_neg e4, if_neg e6] at h2
      exact absurd h2 Bool.false_ne_true
    obtain ⟨j, hj2, hj7, rfl⟩ := hj
    have hc : j = 2 ∨ j = 3 ∨ j = 4 ∨ j = 5 ∨ j = 6 := by omega
    have h2 := h.2
    rcases hc with rfl | rfl | rfl | rfl | rfl
    · skip
      have h3 : (0 : Int32) ≤ v ∧ v ≤ 99 := by unfold mayB at h2; simpa [show (nI 2 : Int32) = 2 from rfl] using h2
      refine V.iload_n dX10_change_0 rfl (i := 2) rfl ?_
      refine V.iconst dX10_change_1 (v := 4) (by decide) ?_
      refine V.ic_ne (tgt := 19) dX10_change_2 (by decide) (fun c2 => ?_) (fun q => absurd q ((by decide)))
      refine V.iload_n dX10_change_19 rfl (i := 2) rfl ?_
      refine V.bipush dX10_change_20 (v := 6) (by decide) ?_
      refine V.ic_ne (tgt := 35) dX10_change_22 (by decide) (fun c22 => ?_) (fun q => absurd q ((by decide)))
      refine V.iload_n dX10_change_35 rfl (i := 2) rfl ?_
      refine V.i2l dX10_change_36 ?_
      refine V.ldc2 dX10_change_37 rfl clRX10_183 ?_
      refine V.ldc2 dX10_change_40 rfl clRX10_156 ?_
      refine V.invs (z := mX10_in) (As := [_, _, _]) dX10_change_43 rfl mlRX10_66 okX10_in npX10_in rfl (Nat.le_of_ble_eq_true rfl) rfl (Nat.le_of_ble_eq_true rfl) (c_in32 (v := (nI 2)) (lo := (2 : Int32)) (hi := (5 : Int32)) (by first | rfl | decide) (by first | rfl | decide)   ?_)
      show V rS g (d + 2) mX10_change 46 [some (.ref 83), some (.int (nI b)), some (.int (nI 2)), some (.int v), none, none] [.int (b2i ((2 : Int32) ≤ (nI 2) ∧ (nI 2) ≤ (5 : Int32)))] M Q
      refine V.if_eq (tgt := 65) dX10_change_46 (by decide) (fun q => absurd q ((fun z => b2i_0.mp z (by decide)))) (fun c46 => ?_)
      refine V.iload_n dX10_change_49 rfl (i := 3) rfl ?_
      refine V.i2l dX10_change_50 ?_
      refine V.lconst dX10_change_51 (v := 0) (by decide) ?_
      refine V.ldc2 dX10_change_52 rfl clRX10_150 ?_
      refine V.invs (z := mX10_in) (As := [_, _, _]) dX10_change_55 rfl mlRX10_66 okX10_in npX10_in rfl (Nat.le_of_ble_eq_true rfl) rfl (Nat.le_of_ble_eq_true rfl) (c_in32 (v := v) (lo := (0 : Int32)) (hi := (99 : Int32)) (by first | rfl | decide) (by first | rfl | decide)   ?_)
      show V rS g (d + 2) mX10_change 58 [some (.ref 83), some (.int (nI b)), some (.int (nI 2)), some (.int v), none, none] [.int (b2i ((0 : Int32) ≤ v ∧ v ≤ (99 : Int32)))] M Q
      suffices kJ58 : V rS g (d + 2) mX10_change 66 [some (.ref 83), some (.int (nI b)), some (.int (nI 2)), some (.int v), none, none] [.int (if (b2i ((0 : Int32) ≤ v ∧ v ≤ (99 : Int32))) = (0 : Int32) then (0 : Int32) else (1 : Int32))] M Q by
        refine V.if_eq (tgt := 65) dX10_change_58 (by decide) (fun q => absurd q ((fun z => b2i_0.mp z h3))) (fun c58 => ?_)
        refine V.iconst dX10_change_61 (v := 1) (by decide) ?_
        refine V.goto dX10_change_62 (tgt := 66) (by decide) ?_
        rw [if_neg c58] at kJ58; exact kJ58
      refine V.istore dX10_change_66 (i := 4) (by decide) (fun _ h => by cases h; exact Or.inl rfl) rfl ?_
      refine V.aload_n dX10_change_68 rfl (i := 0) rfl ?_
      refine V.iload_n dX10_change_69 rfl (i := 1) rfl ?_
      refine V.invv (z := mX10_isBell) (As := [_]) dX10_change_70 rfl mlRX10_170 okX10_isBell npX10_isBell rfl rfl rfl ⟨by decide, by decide⟩ (Nat.le_of_ble_eq_true rfl) rfl (Nat.le_of_ble_eq_true rfl) (c_bellR hn h8 ?_)
      show V rS g (d + 2) mX10_change 73 [some (.ref 83), some (.int (nI b)), some (.int (nI 2)), some (.int v), some (.int (if (b2i ((0 : Int32) ≤ v ∧ v ≤ (99 : Int32))) = (0 : Int32) then (0 : Int32) else (1 : Int32))), none] [.int (b2i (0 ≤ nI b ∧ nI b < nI n))] M Q
      refine V.if_eq (tgt := 81) dX10_change_73 (by decide) (fun q => absurd q ((fun z => b2i_0.mp z h.1))) (fun c73 => ?_)
      refine V.iload dX10_change_76 rfl ?_
      refine V.if_ne (tgt := 87) dX10_change_78 (by decide) (fun c78 => ?_) (fun q => absurd q ((fun z => by rw [if_neg (fun y => b2i_0.mp y h3)] at z; exact absurd z (by decide))))
      refine V.aload_n dX10_change_87 rfl (i := 0) rfl ?_
      refine V.iload_n dX10_change_88 rfl (i := 1) rfl ?_
      refine V.iload_n dX10_change_89 rfl (i := 2) rfl ?_
      refine V.invv (z := mX10_of) (As := [_, _]) dX10_change_90 rfl mlRX10_175 okX10_of npX10_of rfl rfl rfl ⟨by decide, by decide⟩ (Nat.le_of_ble_eq_true rfl) rfl (Nat.le_of_ble_eq_true rfl) (c_of  (by omega) (by decide) ?_)
      show V rS g (d + 2) mX10_change 93 [some (.ref 83), some (.int (nI b)), some (.int (nI 2)), some (.int v), some (.int (if (b2i ((0 : Int32) ≤ v ∧ v ≤ (99 : Int32))) = (0 : Int32) then (0 : Int32) else (1 : Int32))), none] [.int (M 84 (108 + 7 * b + 2))] (M) Q
      refine V.istore dX10_change_93 (i := 5) (by decide) (fun _ h => by cases h; exact Or.inl rfl) rfl ?_
      refine V.aload_n dX10_change_95 rfl (i := 0) rfl ?_
      refine V.iload_n dX10_change_96 rfl (i := 1) rfl ?_
      refine V.iload_n dX10_change_97 rfl (i := 2) rfl ?_
      refine V.iload_n dX10_change_98 rfl (i := 3) rfl ?_
      refine V.invv (z := mX10_becomes) (As := [_, _, _]) dX10_change_99 rfl mlRX10_162 okX10_becomes npX10_becomes rfl rfl rfl ⟨by decide, by decide⟩ (Nat.le_of_ble_eq_true rfl) rfl (Nat.le_of_ble_eq_true rfl) (c_bec  (by omega) (by decide) ?_)
      show V rS g (d + 2) mX10_change 102 [some (.ref 83), some (.int (nI b)), some (.int (nI 2)), some (.int v), some (.int (if (b2i ((0 : Int32) ≤ v ∧ v ≤ (99 : Int32))) = (0 : Int32) then (0 : Int32) else (1 : Int32))), some (.int (M 84 (108 + 7 * b + 2)))] [] (put (M) 84 (108 + 7 * b + 2) v) Q
      refine V.iload dX10_change_102 rfl ?_
      exact V.ret dX10_change_104 rfl (hok h b 2 hb (by decide) (by decide) rfl rfl)
    · skip
      have h3 : (0 : Int32) ≤ v ∧ v ≤ 99 := by unfold mayB at h2; simpa [show (nI 3 : Int32) = 3 from rfl] using h2
      refine V.iload_n dX10_change_0 rfl (i := 2) rfl ?_
      refine V.iconst dX10_change_1 (v := 4) (by decide) ?_
      refine V.ic_ne (tgt := 19) dX10_change_2 (by decide) (fun c2 => ?_) (fun q => absurd q ((by decide)))
      refine V.iload_n dX10_change_19 rfl (i := 2) rfl ?_
      refine V.bipush dX10_change_20 (v := 6) (by decide) ?_
      refine V.ic_ne (tgt := 35) dX10_change_22 (by decide) (fun c22 => ?_) (fun q => absurd q ((by decide)))
      refine V.iload_n dX10_change_35 rfl (i := 2) rfl ?_
      refine V.i2l dX10_change_36 ?_
      refine V.ldc2 dX10_change_37 rfl clRX10_183 ?_
      refine V.ldc2 dX10_change_40 rfl clRX10_156 ?_
      refine V.invs (z := mX10_in) (As := [_, _, _]) dX10_change_43 rfl mlRX10_66 okX10_in npX10_in rfl (Nat.le_of_ble_eq_true rfl) rfl (Nat.le_of_ble_eq_true rfl) (c_in32 (v := (nI 3)) (lo := (2 : Int32)) (hi := (5 : Int32)) (by first | rfl | decide) (by first | rfl | decide)   ?_)
      show V rS g (d + 2) mX10_change 46 [some (.ref 83), some (.int (nI b)), some (.int (nI 3)), some (.int v), none, none] [.int (b2i ((2 : Int32) ≤ (nI 3) ∧ (nI 3) ≤ (5 : Int32)))] M Q
      refine V.if_eq (tgt := 65) dX10_change_46 (by decide) (fun q => absurd q ((fun z => b2i_0.mp z (by decide)))) (fun c46 => ?_)
      refine V.iload_n dX10_change_49 rfl (i := 3) rfl ?_
      refine V.i2l dX10_change_50 ?_
      refine V.lconst dX10_change_51 (v := 0) (by decide) ?_
      refine V.ldc2 dX10_change_52 rfl clRX10_150 ?_
      refine V.invs (z := mX10_in) (As := [_, _, _]) dX10_change_55 rfl mlRX10_66 okX10_in npX10_in rfl (Nat.le_of_ble_eq_true rfl) rfl (Nat.le_of_ble_eq_true rfl) (c_in32 (v := v) (lo := (0 : Int32)) (hi := (99 : Int32)) (by first | rfl | decide) (by first | rfl | decide)   ?_)
      show V rS g (d + 2) mX10_change 58 [some (.ref 83), some (.int (nI b)), some (.int (nI 3)), some (.int v), none, none] [.int (b2i ((0 : Int32) ≤ v ∧ v ≤ (99 : Int32)))] M Q
      suffices kJ58 : V rS g (d + 2) mX10_change 66 [some (.ref 83), some (.int (nI b)), some (.int (nI 3)), some (.int v), none, none] [.int (if (b2i ((0 : Int32) ≤ v ∧ v ≤ (99 : Int32))) = (0 : Int32) then (0 : Int32) else (1 : Int32))] M Q by
        refine V.if_eq (tgt := 65) dX10_change_58 (by decide) (fun q => absurd q ((fun z => b2i_0.mp z h3))) (fun c58 => ?_)
        refine V.iconst dX10_change_61 (v := 1) (by decide) ?_
        refine V.goto dX10_change_62 (tgt := 66) (by decide) ?_
        rw [if_neg c58] at kJ58; exact kJ58
      refine V.istore dX10_change_66 (i := 4) (by decide) (fun _ h => by cases h; exact Or.inl rfl) rfl ?_
      refine V.aload_n dX10_change_68 rfl (i := 0) rfl ?_
      refine V.iload_n dX10_change_69 rfl (i := 1) rfl ?_
      refine V.invv (z := mX10_isBell) (As := [_]) dX10_change_70 rfl mlRX10_170 okX10_isBell npX10_isBell rfl rfl rfl ⟨by decide, by decide⟩ (Nat.le_of_ble_eq_true rfl) rfl (Nat.le_of_ble_eq_true rfl) (c_bellR hn h8 ?_)
      show V rS g (d + 2) mX10_change 73 [some (.ref 83), some (.int (nI b)), some (.int (nI 3)), some (.int v), some (.int (if (b2i ((0 : Int32) ≤ v ∧ v ≤ (99 : Int32))) = (0 : Int32) then (0 : Int32) else (1 : Int32))), none] [.int (b2i (0 ≤ nI b ∧ nI b < nI n))] M Q
      refine V.if_eq (tgt := 81) dX10_change_73 (by decide) (fun q => absurd q ((fun z => b2i_0.mp z h.1))) (fun c73 => ?_)
      refine V.iload dX10_change_76 rfl ?_
      refine V.if_ne (tgt := 87) dX10_change_78 (by decide) (fun c78 => ?_) (fun q => absurd q ((fun z => by rw [if_neg (fun y => b2i_0.mp y h3)] at z; exact absurd z (by decide))))
      refine V.aload_n dX10_change_87 rfl (i := 0) rfl ?_
      refine V.iload_n dX10_change_88 rfl (i := 1) rfl ?_
      refine V.iload_n dX10_change_89 rfl (i := 2) rfl ?_
      refine V.invv (z := mX10_of) (As := [_, _]) dX10_change_90 rfl mlRX10_175 okX10_of npX10_of rfl rfl rfl ⟨by decide, by decide⟩ (Nat.le_of_ble_eq_true rfl) rfl (Nat.le_of_ble_eq_true rfl) (c_of  (by omega) (by decide) ?_)
      show V rS g (d + 2) mX10_change 93 [some (.ref 83), some (.int (nI b)), some (.int (nI 3)), some (.int v), some (.int (if (b2i ((0 : Int32) ≤ v ∧ v ≤ (99 : Int32))) = (0 : Int32) then (0 : Int32) else (1 : Int32))), none] [.int (M 84 (108 + 7 * b + 3))] (M) Q
      refine V.istore dX10_change_93 (i := 5) (by decide) (fun _ h => by cases h; exact Or.inl rfl) rfl ?_
      refine V.aload_n dX10_change_95 rfl (i := 0) rfl ?_
      refine V.iload_n dX10_change_96 rfl (i := 1) rfl ?_
      refine V.iload_n dX10_change_97 rfl (i := 2) rfl ?_
      refine V.iload_n dX10_change_98 rfl (i := 3) rfl ?_
      refine V.invv (z := mX10_becomes) (As := [_, _, _]) dX10_change_99 rfl mlRX10_162 okX10_becomes npX10_becomes rfl rfl rfl ⟨by decide, by decide⟩ (Nat.le_of_ble_eq_true rfl) rfl (Nat.le_of_ble_eq_true rfl) (c_bec  (by omega) (by decide) ?_)
      show V rS g (d + 2) mX10_change 102 [some (.ref 83), some (.int (nI b)), some (.int (nI 3)), some (.int v), some (.int (if (b2i ((0 : Int32) ≤ v ∧ v ≤ (99 : Int32))) = (0 : Int32) then (0 : Int32) else (1 : Int32))), some (.int (M 84 (108 + 7 * b + 3)))] [] (put (M) 84 (108 + 7 * b + 3) v) Q
      refine V.iload dX10_change_102 rfl ?_
      exact V.ret dX10_change_104 rfl (hok h b 3 hb (by decide) (by decide) rfl rfl)
    · skip
      have h3 : (-900 : Int32) ≤ v ∧ v ≤ 900 := by unfold mayB at h2; simpa [show (nI 4 : Int32) = 4 from rfl] using h2
      refine V.iload_n dX10_change_0 rfl (i := 2) rfl ?_
      refine V.iconst dX10_change_1 (v := 4) (by decide) ?_
      refine V.ic_ne (tgt := 19) dX10_change_2 (by decide) (fun q => absurd (rfl) q) (fun c2 => ?_)
      refine V.iload_n dX10_change_5 rfl (i := 3) rfl ?_
      refine V.i2l dX10_change_6 ?_
      refine V.ldc2 dX10_change_7 rfl clRX10_179 ?_
      refine V.ldc2 dX10_change_10 rfl clRX10_181 ?_
      refine V.invs (z := mX10_in) (As := [_, _, _]) dX10_change_13 rfl mlRX10_66 okX10_in npX10_in rfl (Nat.le_of_ble_eq_true rfl) rfl (Nat.le_of_ble_eq_true rfl) (c_in32 (v := v) (lo := (-900 : Int32)) (hi := (900 : Int32)) (by first | rfl | decide) (by first | rfl | decide)   ?_)
      show V rS g (d + 2) mX10_change 16 [some (.ref 83), some (.int (nI b)), some (.int (nI 4)), some (.int v), none, none] [.int (b2i ((-900 : Int32) ≤ v ∧ v ≤ (900 : Int32)))] M Q
      refine V.goto dX10_change_16 (tgt := 66) (by decide) ?_
      refine V.istore dX10_change_66 (i := 4) (by decide) (fun _ h => by cases h; exact Or.inl rfl) rfl ?_
      refine V.aload_n dX10_change_68 rfl (i := 0) rfl ?_
      refine V.iload_n dX10_change_69 rfl (i := 1) rfl ?_
      refine V.invv (z := mX10_isBell) (As := [_]) dX10_change_70 rfl mlRX10_170 okX10_isBell npX10_isBell rfl rfl rfl ⟨by decide, by decide⟩ (Nat.le_of_ble_eq_true rfl) rfl (Nat.le_of_ble_eq_true rfl) (c_bellR hn h8 ?_)
      show V rS g (d + 2) mX10_change 73 [some (.ref 83), some (.int (nI b)), some (.int (nI 4)), some (.int v), some (.int (b2i ((-900 : Int32) ≤ v ∧ v ≤ (900 : Int32)))), none] [.int (b2i (0 ≤ nI b ∧ nI b < nI n))] M Q
      refine V.if_eq (tgt := 81) dX10_change_73 (by decide) (fun q => absurd q ((fun z => b2i_0.mp z h.1))) (fun c73 => ?_)
      refine V.iload dX10_change_76 rfl ?_
      refine V.if_ne (tgt := 87) dX10_change_78 (by decide) (fun c78 => ?_) (fun q => absurd q ((fun z => b2i_0.mp z h3)))
      refine V.aload_n dX10_change_87 rfl (i := 0) rfl ?_
      refine V.iload_n dX10_change_88 rfl (i := 1) rfl ?_
      refine V.iload_n dX10_change_89 rfl (i := 2) rfl ?_
      refine V.invv (z := mX10_of) (As := [_, _]) dX10_change_90 rfl mlRX10_175 okX10_of npX10_of rfl rfl rfl ⟨by decide, by decide⟩ (Nat.le_of_ble_eq_true rfl) rfl (Nat.le_of_ble_eq_true rfl) (c_of  (by omega) (by decide) ?_)
      show V rS g (d + 2) mX10_change 93 [some (.ref 83), some (.int (nI b)), some (.int (nI 4)), some (.int v), some (.int (b2i ((-900 : Int32) ≤ v ∧ v ≤ (900 : Int32)))), none] [.int (M 84 (108 + 7 * b + 4))] (M) Q
      refine V.istore dX10_change_93 (i := 5) (by decide) (fun _ h => by cases h; exact Or.inl rfl) rfl ?_
      refine V.aload_n dX10_change_95 rfl (i := 0) rfl ?_
      refine V.iload_n dX10_change_96 rfl (i := 1) rfl ?_
      refine V.iload_n dX10_change_97 rfl (i := 2) rfl ?_
      refine V.iload_n dX10_change_98 rfl (i := 3) rfl ?_
      refine V.invv (z := mX10_becomes) (As := [_, _, _]) dX10_change_99 rfl mlRX10_162 okX10_becomes npX10_becomes rfl rfl rfl ⟨by decide, by decide⟩ (Nat.le_of_ble_eq_true rfl) rfl (Nat.le_of_ble_eq_true rfl) (c_bec  (by omega) (by decide) ?_)
      show V rS g (d + 2) mX10_change 102 [some (.ref 83), some (.int (nI b)), some (.int (nI 4)), some (.int v), some (.int (b2i ((-900 : Int32) ≤ v ∧ v ≤ (900 : Int32)))), some (.int (M 84 (108 + 7 * b + 4)))] [] (put (M) 84 (108 + 7 * b + 4) v) Q
      refine V.iload dX10_change_102 rfl ?_
      exact V.ret dX10_change_104 rfl (hok h b 4 hb (by decide) (by decide) rfl rfl)
    · skip
      have h3 : (0 : Int32) ≤ v ∧ v ≤ 99 := by unfold mayB at h2; simpa [show (nI 5 : Int32) = 5 from rfl] using h2
      refine V.iload_n dX10_change_0 rfl (i := 2) rfl ?_
      refine V.iconst dX10_change_1 (v := 4) (by decide) ?_
      refine V.ic_ne (tgt := 19) dX10_change_2 (by decide) (fun c2 => ?_) (fun q => absurd q ((by decide)))
      refine V.iload_n dX10_change_19 rfl (i := 2) rfl ?_
      refine V.bipush dX10_change_20 (v := 6) (by decide) ?_
      refine V.ic_ne (tgt := 35) dX10_change_22 (by decide) (fun c22 => ?_) (fun q => absurd q ((by decide)))
      refine V.iload_n dX10_change_35 rfl (i := 2) rfl ?_
      refine V.i2l dX10_change_36 ?_
      refine V.ldc2 dX10_change_37 rfl clRX10_183 ?_
      refine V.ldc2 dX10_change_40 rfl clRX10_156 ?_
      refine V.invs (z := mX10_in) (As := [_, _, _]) dX10_change_43 rfl mlRX10_66 okX10_in npX10_in rfl (Nat.le_of_ble_eq_true rfl) rfl (Nat.le_of_ble_eq_true rfl) (c_in32 (v := (nI 5)) (lo := (2 : Int32)) (hi := (5 : Int32)) (by first | rfl | decide) (by first | rfl | decide)   ?_)
      show V rS g (d + 2) mX10_change 46 [some (.ref 83), some (.int (nI b)), some (.int (nI 5)), some (.int v), none, none] [.int (b2i ((2 : Int32) ≤ (nI 5) ∧ (nI 5) ≤ (5 : Int32)))] M Q
      refine V.if_eq (tgt := 65) dX10_change_46 (by decide) (fun q => absurd q ((fun z => b2i_0.mp z (by decide)))) (fun c46 => ?_)
      refine V.iload_n dX10_change_49 rfl (i := 3) rfl ?_
      refine V.i2l dX10_change_50 ?_
      refine V.lconst dX10_change_51 (v := 0) (by decide) ?_
      refine V.ldc2 dX10_change_52 rfl clRX10_150 ?_
      refine V.invs (z := mX10_in) (As := [_, _, _]) dX10_change_55 rfl mlRX10_66 okX10_in npX10_in rfl (Nat.le_of_ble_eq_true rfl) rfl (Nat.le_of_ble_eq_true rfl) (c_in32 (v := v) (lo := (0 : Int32)) (hi := (99 : Int32)) (by first | rfl | decide) (by first | rfl | decide)   ?_)
      show V rS g (d + 2) mX10_change 58 [some (.ref 83), some (.int (nI b)), some (.int (nI 5)), some (.int v), none, none] [.int (b2i ((0 : Int32) ≤ v ∧ v ≤ (99 : Int32)))] M Q
      suffices kJ58 : V rS g (d + 2) mX10_change 66 [some (.ref 83), some (.int (nI b)), some (.int (nI 5)), some (.int v), none, none] [.int (if (b2i ((0 : Int32) ≤ v ∧ v ≤ (99 : Int32))) = (0 : Int32) then (0 : Int32) else (1 : Int32))] M Q by
        refine V.if_eq (tgt := 65) dX10_change_58 (by decide) (fun q => absurd q ((fun z => b2i_0.mp z h3))) (fun c58 => ?_)
        refine V.iconst dX10_change_61 (v := 1) (by decide) ?_
        refine V.goto dX10_change_62 (tgt := 66) (by decide) ?_
        rw [if_neg c58] at kJ58; exact kJ58
      refine V.istore dX10_change_66 (i := 4) (by decide) (fun _ h => by cases h; exact Or.inl rfl) rfl ?_
      refine V.aload_n dX10_change_68 rfl (i := 0) rfl ?_
      refine V.iload_n dX10_change_69 rfl (i := 1) rfl ?_
      refine V.invv (z := mX10_isBell) (As := [_]) dX10_change_70 rfl mlRX10_170 okX10_isBell npX10_isBell rfl rfl rfl ⟨by decide, by decide⟩ (Nat.le_of_ble_eq_true rfl) rfl (Nat.le_of_ble_eq_true rfl) (c_bellR hn h8 ?_)
      show V rS g (d + 2) mX10_change 73 [some (.ref 83), some (.int (nI b)), some (.int (nI 5)), some (.int v), some (.int (if (b2i ((0 : Int32) ≤ v ∧ v ≤ (99 : Int32))) = (0 : Int32) then (0 : Int32) else (1 : Int32))), none] [.int (b2i (0 ≤ nI b ∧ nI b < nI n))] M Q
      refine V.if_eq (tgt := 81) dX10_change_73 (by decide) (fun q => absurd q ((fun z => b2i_0.mp z h.1))) (fun c73 => ?_)
      refine V.iload dX10_change_76 rfl ?_
      refine V.if_ne (tgt := 87) dX10_change_78 (by decide) (fun c78 => ?_) (fun q => absurd q ((fun z => by rw [if_neg (fun y => b2i_0.mp y h3)] at z; exact absurd z (by decide))))
      refine V.aload_n dX10_change_87 rfl (i := 0) rfl ?_
      refine V.iload_n dX10_change_88 rfl (i := 1) rfl ?_
      refine V.iload_n dX10_change_89 rfl (i := 2) rfl ?_
      refine V.invv (z := mX10_of) (As := [_, _]) dX10_change_90 rfl mlRX10_175 okX10_of npX10_of rfl rfl rfl ⟨by decide, by decide⟩ (Nat.le_of_ble_eq_true rfl) rfl (Nat.le_of_ble_eq_true rfl) (c_of  (by omega) (by decide) ?_)
      show V rS g (d + 2) mX10_change 93 [some (.ref 83), some (.int (nI b)), some (.int (nI 5)), some (.int v), some (.int (if (b2i ((0 : Int32) ≤ v ∧ v ≤ (99 : Int32))) = (0 : Int32) then (0 : Int32) else (1 : Int32))), none] [.int (M 84 (108 + 7 * b + 5))] (M) Q
      refine V.istore dX10_change_93 (i := 5) (by decide) (fun _ h => by cases h; exact Or.inl rfl) rfl ?_
      refine V.aload_n dX10_change_95 rfl (i := 0) rfl ?_
      refine V.iload_n dX10_change_96 rfl (i := 1) rfl ?_
      refine V.iload_n dX10_change_97 rfl (i := 2) rfl ?_
      refine V.iload_n dX10_change_98 rfl (i := 3) rfl ?_
      refine V.invv (z := mX10_becomes) (As := [_, _, _]) dX10_change_99 rfl mlRX10_162 okX10_becomes npX10_becomes rfl rfl rfl ⟨by decide, by decide⟩ (Nat.le_of_ble_eq_true rfl) rfl (Nat.le_of_ble_eq_true rfl) (c_bec  (by omega) (by decide) ?_)
      show V rS g (d + 2) mX10_change 102 [some (.ref 83), some (.int (nI b)), some (.int (nI 5)), some (.int v), some (.int (if (b2i ((0 : Int32) ≤ v ∧ v ≤ (99 : Int32))) = (0 : Int32) then (0 : Int32) else (1 : Int32))), some (.int (M 84 (108 + 7 * b + 5)))] [] (put (M) 84 (108 + 7 * b + 5) v) Q
      refine V.iload dX10_change_102 rfl ?_
      exact V.ret dX10_change_104 rfl (hok h b 5 hb (by decide) (by decide) rfl rfl)
    · skip
      have h3 : (0 : Int32) ≤ v ∧ v ≤ 1 := by unfold mayB at h2; simpa [show (nI 6 : Int32) = 6 from rfl] using h2
      refine V.iload_n dX10_change_0 rfl (i := 2) rfl ?_
      refine V.iconst dX10_change_1 (v := 4) (by decide) ?_
      refine V.ic_ne (tgt := 19) dX10_change_2 (by decide) (fun c2 => ?_) (fun q => absurd q ((by decide)))
      refine V.iload_n dX10_change_19 rfl (i := 2) rfl ?_
      refine V.bipush dX10_change_20 (v := 6) (by decide) ?_
      refine V.ic_ne (tgt := 35) dX10_change_22 (by decide) (fun q => absurd (rfl) q) (fun c22 => ?_)
      refine V.iload_n dX10_change_25 rfl (i := 3) rfl ?_
      refine V.i2l dX10_change_26 ?_
      refine V.lconst dX10_change_27 (v := 0) (by decide) ?_
      refine V.lconst dX10_change_28 (v := 1) (by decide) ?_
      refine V.invs (z := mX10_in) (As := [_, _, _]) dX10_change_29 rfl mlRX10_66 okX10_in npX10_in rfl (Nat.le_of_ble_eq_true rfl) rfl (Nat.le_of_ble_eq_true rfl) (c_in32 (v := v) (lo := (0 : Int32)) (hi := (1 : Int32)) (by first | rfl | decide) (by first | rfl | decide)   ?_)
      show V rS g (d + 2) mX10_change 32 [some (.ref 83), some (.int (nI b)), some (.int (nI 6)), some (.int v), none, none] [.int (b2i ((0 : Int32) ≤ v ∧ v ≤ (1 : Int32)))] M Q
      refine V.goto dX10_change_32 (tgt := 66) (by decide) ?_
      refine V.istore dX10_change_66 (i := 4) (by decide) (fun _ h => by cases h; exact Or.inl rfl) rfl ?_
      refine V.aload_n dX10_change_68 rfl (i := 0) rfl ?_
      refine V.iload_n dX10_change_69 rfl (i := 1) rfl ?_
      refine V.invv (z := mX10_isBell) (As := [_]) dX10_change_70 rfl mlRX10_170 okX10_isBell npX10_isBell rfl rfl rfl ⟨by decide, by decide⟩ (Nat.le_of_ble_eq_true rfl) rfl (Nat.le_of_ble_eq_true rfl) (c_bellR hn h8 ?_)
      show V rS g (d + 2) mX10_change 73 [some (.ref 83), some (.int (nI b)), some (.int (nI 6)), some (.int v), some (.int (b2i ((0 : Int32) ≤ v ∧ v ≤ (1 : Int32)))), none] [.int (b2i (0 ≤ nI b ∧ nI b < nI n))] M Q
      refine V.if_eq (tgt := 81) dX10_change_73 (by decide) (fun q => absurd q ((fun z => b2i_0.mp z h.1))) (fun c73 => ?_)
      refine V.iload dX10_change_76 rfl ?_
      refine V.if_ne (tgt := 87) dX10_change_78 (by decide) (fun c78 => ?_) (fun q => absurd q ((fun z => b2i_0.mp z h3)))
      refine V.aload_n dX10_change_87 rfl (i := 0) rfl ?_
      refine V.iload_n dX10_change_88 rfl (i := 1) rfl ?_
      refine V.iload_n dX10_change_89 rfl (i := 2) rfl ?_
      refine V.invv (z := mX10_of) (As := [_, _]) dX10_change_90 rfl mlRX10_175 okX10_of npX10_of rfl rfl rfl ⟨by decide, by decide⟩ (Nat.le_of_ble_eq_true rfl) rfl (Nat.le_of_ble_eq_true rfl) (c_of  (by omega) (by decide) ?_)
      show V rS g (d + 2) mX10_change 93 [some (.ref 83), some (.int (nI b)), some (.int (nI 6)), some (.int v), some (.int (b2i ((0 : Int32) ≤ v ∧ v ≤ (1 : Int32)))), none] [.int (M 84 (108 + 7 * b + 6))] (M) Q
      refine V.istore dX10_change_93 (i := 5) (by decide) (fun _ h => by cases h; exact Or.inl rfl) rfl ?_
      refine V.aload_n dX10_change_95 rfl (i := 0) rfl ?_
      refine V.iload_n dX10_change_96 rfl (i := 1) rfl ?_
      refine V.iload_n dX10_change_97 rfl (i := 2) rfl ?_
      refine V.iload_n dX10_change_98 rfl (i := 3) rfl ?_
      refine V.invv (z := mX10_becomes) (As := [_, _, _]) dX10_change_99 rfl mlRX10_162 okX10_becomes npX10_becomes rfl rfl rfl ⟨by decide, by decide⟩ (Nat.le_of_ble_eq_true rfl) rfl (Nat.le_of_ble_eq_true rfl) (c_bec  (by omega) (by decide) ?_)
      show V rS g (d + 2) mX10_change 102 [some (.ref 83), some (.int (nI b)), some (.int (nI 6)), some (.int v), some (.int (b2i ((0 : Int32) ≤ v ∧ v ≤ (1 : Int32)))), some (.int (M 84 (108 + 7 * b + 6)))] [] (put (M) 84 (108 + 7 * b + 6) v) Q
      refine V.iload dX10_change_102 rfl ?_
      exact V.ret dX10_change_104 rfl (hok h b 6 hb (by decide) (by decide) rfl rfl)
  · skip
    refine V.iload_n dX10_change_0 rfl (i := 2) rfl ?_
    refine V.iconst dX10_change_1 (v := 4) (by decide) ?_
    refine V.ic_ne (tgt := 19) dX10_change_2 (by decide) (fun c2 => ?_) (fun c2 => ?_)
    · refine V.iload_n dX10_change_19 rfl (i := 2) rfl ?_
      refine V.bipush dX10_change_20 (v := 6) (by decide) ?_
      refine V.ic_ne (tgt := 35) dX10_change_22 (by decide) (fun c22 => ?_) (fun c22 => ?_)
      · refine V.iload_n dX10_change_35 rfl (i := 2) rfl ?_
        refine V.i2l dX10_change_36 ?_
        refine V.ldc2 dX10_change_37 rfl clRX10_183 ?_
        refine V.ldc2 dX10_change_40 rfl clRX10_156 ?_
        refine V.invs (z := mX10_in) (As := [_, _, _]) dX10_change_43 rfl mlRX10_66 okX10_in npX10_in rfl (Nat.le_of_ble_eq_true rfl) rfl (Nat.le_of_ble_eq_true rfl) (c_in32 (v := w) (lo := (2 : Int32)) (hi := (5 : Int32)) (by first | rfl | decide) (by first | rfl | decide)   ?_)
        show V rS g (d + 2) mX10_change 46 [some (.ref 83), some (.int a), some (.int w), some (.int v), none, none] [.int (b2i ((2 : Int32) ≤ w ∧ w ≤ (5 : Int32)))] M Q
        refine V.if_eq (tgt := 65) dX10_change_46 (by decide) (fun c46 => ?_) (fun c46 => ?_)
        · refine V.iconst dX10_change_65 (v := 0) (by decide) ?_
          refine V.istore dX10_change_66 (i := 4) (by decide) (fun _ h => by cases h; exact Or.inl rfl) rfl ?_
          refine V.aload_n dX10_change_68 rfl (i := 0) rfl ?_
          refine V.iload_n dX10_change_69 rfl (i := 1) rfl ?_
          refine V.invv (z := mX10_isBell) (As := [_]) dX10_change_70 rfl mlRX10_170 okX10_isBell npX10_isBell rfl rfl rfl ⟨by decide, by decide⟩ (Nat.le_of_ble_eq_true rfl) rfl (Nat.le_of_ble_eq_true rfl) (c_bellR hn h8 ?_)
          show V rS g (d + 2) mX10_change 73 [some (.ref 83), some (.int a), some (.int w), some (.int v), some (.int (0 : Int32)), none] [.int (b2i (0 ≤ a ∧ a < nI n))] M Q
          refine V.if_eq (tgt := 81) dX10_change_73 (by decide) (fun c73 => ?_) (fun c73 => ?_)
          · refine V.aload_n dX10_change_81 rfl (i := 0) rfl ?_
            refine V.iconst dX10_change_82 (v := 1) (by decide) ?_
            refine V.invv (z := mX10_finds) (As := [_]) dX10_change_83 rfl mlRX10_131 okX10_finds npX10_finds rfl rfl rfl ⟨by decide, by decide⟩ (Nat.le_of_ble_eq_true rfl) rfl (Nat.le_of_ble_eq_true rfl) (c_fnd1   ?_)
            show V rS g (d + 2) mX10_change 86 [some (.ref 83), some (.int a), some (.int w), some (.int v), some (.int (0 : Int32)), none] [.int (-1000000001 : Int32)] (put M 87 1 (M 87 1 + 1)) Q
            exact V.ret dX10_change_86 rfl (hbad h)
          · refine V.iload dX10_change_76 rfl ?_
            refine V.if_ne (tgt := 87) dX10_change_78 (by decide) (fun c78 => ?_) (fun c78 => ?_)
            · first | exact absurd rfl c78 | (have c46' := c46; exact absurd ⟨(Classical.byContradiction fun z => c73 (b2i_f z)), may_m (Classical.byContradiction fun z => c46 (b2i_f z)) c2 (Classical.byContradiction fun z => c78 (by rw [b2i_f z]; rfl))⟩ h) | exact absurd ⟨(Classical.byContradiction fun z => c73 (b2i_f z)), by revert c78; unfold b2i mayB; (repeat' split) <;> simp_all <;> (try (simp only [Int32.lt_iff_toInt_lt, Int32.le_iff_toInt_le, ← Int32.toInt_inj, Int32.reduceToInt] at *; omega))⟩ h
            · refine V.aload_n dX10_change_81 rfl (i := 0) rfl ?_
              refine V.iconst dX10_change_82 (v := 1) (by decide) ?_
              refine V.invv (z := mX10_finds) (As := [_]) dX10_change_83 rfl mlRX10_131 okX10_finds npX10_finds rfl rfl rfl ⟨by decide, by decide⟩ (Nat.le_of_ble_eq_true rfl) rfl (Nat.le_of_ble_eq_true rfl) (c_fnd1   ?_)
              show V rS g (d + 2) mX10_change 86 [some (.ref 83), some (.int a), some (.int w), some (.int v), some (.int (0 : Int32)), none] [.int (-1000000001 : Int32)] (put M 87 1 (M 87 1 + 1)) Q
              exact V.ret dX10_change_86 rfl (hbad h)
        · refine V.iload_n dX10_change_49 rfl (i := 3) rfl ?_
          refine V.i2l dX10_change_50 ?_
          refine V.lconst dX10_change_51 (v := 0) (by decide) ?_
          refine V.ldc2 dX10_change_52 rfl clRX10_150 ?_
          refine V.invs (z := mX10_in) (As := [_, _, _]) dX10_change_55 rfl mlRX10_66 okX10_in npX10_in rfl (Nat.le_of_ble_eq_true rfl) rfl (Nat.le_of_ble_eq_true rfl) (c_in32 (v := v) (lo := (0 : Int32)) (hi := (99 : Int32)) (by first | rfl | decide) (by first | rfl | decide)   ?_)
          show V rS g (d + 2) mX10_change 58 [some (.ref 83), some (.int a), some (.int w), some (.int v), none, none] [.int (b2i ((0 : Int32) ≤ v ∧ v ≤ (99 : Int32)))] M Q
          suffices kJ58 : V rS g (d + 2) mX10_change 66 [some (.ref 83), some (.int a), some (.int w), some (.int v), none, none] [.int (if (b2i ((0 : Int32) ≤ v ∧ v ≤ (99 : Int32))) = (0 : Int32) then (0 : Int32) else (1 : Int32))] M Q by
            refine V.if_eq (tgt := 65) dX10_change_58 (by decide) (fun c58 => ?_) (fun c58 => ?_)
            · refine V.iconst dX10_change_65 (v := 0) (by decide) ?_
              rw [if_pos c58] at kJ58; exact kJ58
            · refine V.iconst dX10_change_61 (v := 1) (by decide) ?_
              refine V.goto dX10_change_62 (tgt := 66) (by decide) ?_
              rw [if_neg c58] at kJ58; exact kJ58
          refine V.istore dX10_change_66 (i := 4) (by decide) (fun _ h => by cases h; exact Or.inl rfl) rfl ?_
          refine V.aload_n dX10_change_68 rfl (i := 0) rfl ?_
          refine V.iload_n dX10_change_69 rfl (i := 1) rfl ?_
          refine V.invv (z := mX10_isBell) (As := [_]) dX10_change_70 rfl mlRX10_170 okX10_isBell npX10_isBell rfl rfl rfl ⟨by decide, by decide⟩ (Nat.le_of_ble_eq_true rfl) rfl (Nat.le_of_ble_eq_true rfl) (c_bellR hn h8 ?_)
          show V rS g (d + 2) mX10_change 73 [some (.ref 83), some (.int a), some (.int w), some (.int v), some (.int (if (b2i ((0 : Int32) ≤ v ∧ v ≤ (99 : Int32))) = (0 : Int32) then (0 : Int32) else (1 : Int32))), none] [.int (b2i (0 ≤ a ∧ a < nI n))] M Q
          refine V.if_eq (tgt := 81) dX10_change_73 (by decide) (fun c73 => ?_) (fun c73 => ?_)
          · refine V.aload_n dX10_change_81 rfl (i := 0) rfl ?_
            refine V.iconst dX10_change_82 (v := 1) (by decide) ?_
            refine V.invv (z := mX10_finds) (As := [_]) dX10_change_83 rfl mlRX10_131 okX10_finds npX10_finds rfl rfl rfl ⟨by decide, by decide⟩ (Nat.le_of_ble_eq_true rfl) rfl (Nat.le_of_ble_eq_true rfl) (c_fnd1   ?_)
            show V rS g (d + 2) mX10_change 86 [some (.ref 83), some (.int a), some (.int w), some (.int v), some (.int (if (b2i ((0 : Int32) ≤ v ∧ v ≤ (99 : Int32))) = (0 : Int32) then (0 : Int32) else (1 : Int32))), none] [.int (-1000000001 : Int32)] (put M 87 1 (M 87 1 + 1)) Q
            exact V.ret dX10_change_86 rfl (hbad h)
          · refine V.iload dX10_change_76 rfl ?_
            refine V.if_ne (tgt := 87) dX10_change_78 (by decide) (fun c78 => ?_) (fun c78 => ?_)
            · first | exact absurd rfl c78 | (have c46' := c46; exact absurd ⟨(Classical.byContradiction fun z => c73 (b2i_f z)), may_m (Classical.byContradiction fun z => c46 (b2i_f z)) c2 (Classical.byContradiction fun z => c78 (by rw [b2i_f z]; rfl))⟩ h) | exact absurd ⟨(Classical.byContradiction fun z => c73 (b2i_f z)), by revert c78; unfold b2i mayB; (repeat' split) <;> simp_all <;> (try (simp only [Int32.lt_iff_toInt_lt, Int32.le_iff_toInt_le, ← Int32.toInt_inj, Int32.reduceToInt] at *; omega))⟩ h
            · refine V.aload_n dX10_change_81 rfl (i := 0) rfl ?_
              refine V.iconst dX10_change_82 (v := 1) (by decide) ?_
              refine V.invv (z := mX10_finds) (As := [_]) dX10_change_83 rfl mlRX10_131 okX10_finds npX10_finds rfl rfl rfl ⟨by decide, by decide⟩ (Nat.le_of_ble_eq_true rfl) rfl (Nat.le_of_ble_eq_true rfl) (c_fnd1   ?_)
              show V rS g (d + 2) mX10_change 86 [some (.ref 83), some (.int a), some (.int w), some (.int v), some (.int (if (b2i ((0 : Int32) ≤ v ∧ v ≤ (99 : Int32))) = (0 : Int32) then (0 : Int32) else (1 : Int32))), none] [.int (-1000000001 : Int32)] (put M 87 1 (M 87 1 + 1)) Q
              exact V.ret dX10_change_86 rfl (hbad h)
      · refine V.iload_n dX10_change_25 rfl (i := 3) rfl ?_
        refine V.i2l dX10_change_26 ?_
        refine V.lconst dX10_change_27 (v := 0) (by decide) ?_
        refine V.lconst dX10_change_28 (v := 1) (by decide) ?_
        refine V.invs (z := mX10_in) (As := [_, _, _]) dX10_change_29 rfl mlRX10_66 okX10_in npX10_in rfl (Nat.le_of_ble_eq_true rfl) rfl (Nat.le_of_ble_eq_true rfl) (c_in32 (v := v) (lo := (0 : Int32)) (hi := (1 : Int32)) (by first | rfl | decide) (by first | rfl | decide)   ?_)
        show V rS g (d + 2) mX10_change 32 [some (.ref 83), some (.int a), some (.int w), some (.int v), none, none] [.int (b2i ((0 : Int32) ≤ v ∧ v ≤ (1 : Int32)))] M Q
        refine V.goto dX10_change_32 (tgt := 66) (by decide) ?_
        refine V.istore dX10_change_66 (i := 4) (by decide) (fun _ h => by cases h; exact Or.inl rfl) rfl ?_
        refine V.aload_n dX10_change_68 rfl (i := 0) rfl ?_
        refine V.iload_n dX10_change_69 rfl (i := 1) rfl ?_
        refine V.invv (z := mX10_isBell) (As := [_]) dX10_change_70 rfl mlRX10_170 okX10_isBell npX10_isBell rfl rfl rfl ⟨by decide, by decide⟩ (Nat.le_of_ble_eq_true rfl) rfl (Nat.le_of_ble_eq_true rfl) (c_bellR hn h8 ?_)
        show V rS g (d + 2) mX10_change 73 [some (.ref 83), some (.int a), some (.int w), some (.int v), some (.int (b2i ((0 : Int32) ≤ v ∧ v ≤ (1 : Int32)))), none] [.int (b2i (0 ≤ a ∧ a < nI n))] M Q
        refine V.if_eq (tgt := 81) dX10_change_73 (by decide) (fun c73 => ?_) (fun c73 => ?_)
        · refine V.aload_n dX10_change_81 rfl (i := 0) rfl ?_
          refine V.iconst dX10_change_82 (v := 1) (by decide) ?_
          refine V.invv (z := mX10_finds) (As := [_]) dX10_change_83 rfl mlRX10_131 okX10_finds npX10_finds rfl rfl rfl ⟨by decide, by decide⟩ (Nat.le_of_ble_eq_true rfl) rfl (Nat.le_of_ble_eq_true rfl) (c_fnd1   ?_)
          show V rS g (d + 2) mX10_change 86 [some (.ref 83), some (.int a), some (.int w), some (.int v), some (.int (b2i ((0 : Int32) ≤ v ∧ v ≤ (1 : Int32)))), none] [.int (-1000000001 : Int32)] (put M 87 1 (M 87 1 + 1)) Q
          exact V.ret dX10_change_86 rfl (hbad h)
        · refine V.iload dX10_change_76 rfl ?_
          refine V.if_ne (tgt := 87) dX10_change_78 (by decide) (fun c78 => ?_) (fun c78 => ?_)
          · first | exact absurd rfl c78 | (have c46' := c46; exact absurd ⟨(Classical.byContradiction fun z => c73 (b2i_f z)), may_m (Classical.byContradiction fun z => c46 (b2i_f z)) c2 (Classical.byContradiction fun z => c78 (by rw [b2i_f z]; rfl))⟩ h) | exact absurd ⟨(Classical.byContradiction fun z => c73 (b2i_f z)), by revert c78; unfold b2i mayB; (repeat' split) <;> simp_all <;> (try (simp only [Int32.lt_iff_toInt_lt, Int32.le_iff_toInt_le, ← Int32.toInt_inj, Int32.reduceToInt] at *; omega))⟩ h
          · refine V.aload_n dX10_change_81 rfl (i := 0) rfl ?_
            refine V.iconst dX10_change_82 (v := 1) (by decide) ?_
            refine V.invv (z := mX10_finds) (As := [_]) dX10_change_83 rfl mlRX10_131 okX10_finds npX10_finds rfl rfl rfl ⟨by decide, by decide⟩ (Nat.le_of_ble_eq_true rfl) rfl (Nat.le_of_ble_eq_true rfl) (c_fnd1   ?_)
            show V rS g (d + 2) mX10_change 86 [some (.ref 83), some (.int a), some (.int w), some (.int v), some (.int (b2i ((0 : Int32) ≤ v ∧ v ≤ (1 : Int32)))), none] [.int (-1000000001 : Int32)] (put M 87 1 (M 87 1 + 1)) Q
            exact V.ret dX10_change_86 rfl (hbad h)
    · refine V.iload_n dX10_change_5 rfl (i := 3) rfl ?_
      refine V.i2l dX10_change_6 ?_
      refine V.ldc2 dX10_change_7 rfl clRX10_179 ?_
      refine V.ldc2 dX10_change_10 rfl clRX10_181 ?_
      refine V.invs (z := mX10_in) (As := [_, _, _]) dX10_change_13 rfl mlRX10_66 okX10_in npX10_in rfl (Nat.le_of_ble_eq_true rfl) rfl (Nat.le_of_ble_eq_true rfl) (c_in32 (v := v) (lo := (-900 : Int32)) (hi := (900 : Int32)) (by first | rfl | decide) (by first | rfl | decide)   ?_)
      show V rS g (d + 2) mX10_change 16 [some (.ref 83), some (.int a), some (.int w), some (.int v), none, none] [.int (b2i ((-900 : Int32) ≤ v ∧ v ≤ (900 : Int32)))] M Q
      refine V.goto dX10_change_16 (tgt := 66) (by decide) ?_
      refine V.istore dX10_change_66 (i := 4) (by decide) (fun _ h => by cases h; exact Or.inl rfl) rfl ?_
      refine V.aload_n dX10_change_68 rfl (i := 0) rfl ?_
      refine V.iload_n dX10_change_69 rfl (i := 1) rfl ?_
      refine V.invv (z := mX10_isBell) (As := [_]) dX10_change_70 rfl mlRX10_170 okX10_isBell npX10_isBell rfl rfl rfl ⟨by decide, by decide⟩ (Nat.le_of_ble_eq_true rfl) rfl (Nat.le_of_ble_eq_true rfl) (c_bellR hn h8 ?_)
      show V rS g (d + 2) mX10_change 73 [some (.ref 83), some (.int a), some (.int w), some (.int v), some (.int (b2i ((-900 : Int32) ≤ v ∧ v ≤ (900 : Int32)))), none] [.int (b2i (0 ≤ a ∧ a < nI n))] M Q
      refine V.if_eq (tgt := 81) dX10_change_73 (by decide) (fun c73 => ?_) (fun c73 => ?_)
      · refine V.aload_n dX10_change_81 rfl (i := 0) rfl ?_
        refine V.iconst dX10_change_82 (v := 1) (by decide) ?_
        refine V.invv (z := mX10_finds) (As := [_]) dX10_change_83 rfl mlRX10_131 okX10_finds npX10_finds rfl rfl rfl ⟨by decide, by decide⟩ (Nat.le_of_ble_eq_true rfl) rfl (Nat.le_of_ble_eq_true rfl) (c_fnd1   ?_)
        show V rS g (d + 2) mX10_change 86 [some (.ref 83), some (.int a), some (.int w), some (.int v), some (.int (b2i ((-900 : Int32) ≤ v ∧ v ≤ (900 : Int32)))), none] [.int (-1000000001 : Int32)] (put M 87 1 (M 87 1 + 1)) Q
        exact V.ret dX10_change_86 rfl (hbad h)
      · refine V.iload dX10_change_76 rfl ?_
        refine V.if_ne (tgt := 87) dX10_change_78 (by decide) (fun c78 => ?_) (fun c78 => ?_)
        · first | exact absurd rfl c78 | (have c46' := c46; exact absurd ⟨(Classical.byContradiction fun z => c73 (b2i_f z)), may_m (Classical.byContradiction fun z => c46 (b2i_f z)) c2 (Classical.byContradiction fun z => c78 (by rw [b2i_f z]; rfl))⟩ h) | exact absurd ⟨(Classical.byContradiction fun z => c73 (b2i_f z)), by revert c78; unfold b2i mayB; (repeat' split) <;> simp_all <;> (try (simp only [Int32.lt_iff_toInt_lt, Int32.le_iff_toInt_le, ← Int32.toInt_inj, Int32.reduceToInt] at *; omega))⟩ h
        · refine V.aload_n dX10_change_81 rfl (i := 0) rfl ?_
          refine V.iconst dX10_change_82 (v := 1) (by decide) ?_
          refine V.invv (z := mX10_finds) (As := [_]) dX10_change_83 rfl mlRX10_131 okX10_finds npX10_finds rfl rfl rfl ⟨by decide, by decide⟩ (Nat.le_of_ble_eq_true rfl) rfl (Nat.le_of_ble_eq_true rfl) (c_fnd1   ?_)
          show V rS g (d + 2) mX10_change 86 [some (.ref 83), some (.int a), some (.int w), some (.int v), some (.int (b2i ((-900 : Int32) ≤ v ∧ v ≤ (900 : Int32)))), none] [.int (-1000000001 : Int32)] (put M 87 1 (M 87 1 + 1)) Q
          exact V.ret dX10_change_86 rfl (hbad h)
set_option maxHeartbeats 4000000 in
set_option maxRecDepth 100000 in
theorem c10_as {g : GG} {d : Nat} {M : Mem} {Q : Option Value → Mem → Prop} {a w : Int32} {n : Nat} (hn : M 84 103 = nI n) (h8 : n ≤ 8) (hbad : ¬ ((0 ≤ a ∧ a < nI n) ∧ 0 ≤ w ∧ w ≤ 6) → Q (some (.int (-1000000001))) (put M 87 1 (M 87 1 + 1))) (hkind : ((0 ≤ a ∧ a < nI n) ∧ 0 ≤ w ∧ w ≤ 6) → ∀ b, b < n → a = nI b → isOfB (M 84 (108 + 7 * b + 0)) w = false → Q (some (.int (-1000000005))) (put M 87 5 (M 87 5 + 1))) (hok : ((0 ≤ a ∧ a < nI n) ∧ 0 ≤ w ∧ w ≤ 6) → ∀ b, b < n → a = nI b → isOfB (M 84 (108 + 7 * b + 0)) w = true → Q (some (.int (M 84 (108 + 7 * b + 3)))) M) : V rS g (d + 2) mX10_as 0 [some (.ref 83), some (.int a), some (.int w)] [] M Q := by
  by_cases h : ((0 ≤ a ∧ a < nI n) ∧ 0 ≤ w ∧ w ≤ 6)
  · obtain ⟨b, hb, rfl⟩ := nI_ex (n := n) (by omega) h.1.1 h.1.2
    refine V.aload_n dX10_as_0 rfl (i := 0) rfl ?_
    refine V.iload_n dX10_as_1 rfl (i := 1) rfl ?_
    refine V.invv (z := mX10_isBell) (As := [_]) dX10_as_2 rfl mlRX10_170 okX10_isBell npX10_isBell rfl rfl rfl ⟨by decide, by decide⟩ (Nat.le_of_ble_eq_true rfl) rfl (Nat.le_of_ble_eq_true rfl) (c_bellR hn h8 ?_)
    show V rS g (d + 2) mX10_as 5 [some (.ref 83), some (.int (nI b)), some (.int w)] [.int (b2i (0 ≤ nI b ∧ nI b < nI n))] M Q
    refine V.if_eq (tgt := 20) dX10_as_5 (by decide) (fun q => absurd q ((fun z => b2i_0.mp z h.1))) (fun c5 => ?_)
    refine V.iload_n dX10_as_8 rfl (i := 2) rfl ?_
    refine V.i2l dX10_as_9 ?_
    refine V.lconst dX10_as_10 (v := 0) (by decide) ?_
    refine V.ldc2 dX10_as_11 rfl clRX10_173 ?_
    refine V.invs (z := mX10_in) (As := [_, _, _]) dX10_as_14 rfl mlRX10_66 okX10_in npX10_in rfl (Nat.le_of_ble_eq_true rfl) rfl (Nat.le_of_ble_eq_true rfl) (c_in32 (v := w) (lo := (0 : Int32)) (hi := (6 : Int32)) (by first | rfl | decide) (by first | rfl | decide)   ?_)
    show V rS g (d + 2) mX10_as 17 [some (.ref 83), some (.int (nI b)), some (.int w)] [.int (b2i ((0 : Int32) ≤ w ∧ w ≤ (6 : Int32)))] M Q
    refine V.if_ne (tgt := 26) dX10_as_17 (by decide) (fun c17 => ?_) (fun q => absurd q ((fun z => b2i_0.mp z h.2)))
    refine V.aload_n dX10_as_26 rfl (i := 0) rfl ?_
    refine V.iload_n dX10_as_27 rfl (i := 1) rfl ?_
    refine V.iconst dX10_as_28 (v := 0) (by decide) ?_
    refine V.invv (z := mX10_of) (As := [_, _]) dX10_as_29 rfl mlRX10_175 okX10_of npX10_of rfl rfl rfl ⟨by decide, by decide⟩ (Nat.le_of_ble_eq_true rfl) rfl (Nat.le_of_ble_eq_true rfl) (c_of  (by omega) (by decide) ?_)
    show V rS g (d + 2) mX10_as 32 [some (.ref 83), some (.int (nI b)), some (.int w)] [.int (M 84 (108 + 7 * b + 0))] (M) Q
    refine V.iload_n dX10_as_32 rfl (i := 2) rfl ?_
    refine V.invs (z := mX10_isOf) (As := [_, _]) dX10_as_33 rfl mlRX10_185 okX10_isOf npX10_isOf rfl (Nat.le_of_ble_eq_true rfl) rfl (Nat.le_of_ble_eq_true rfl) (c_isOfR   ?_)
    show V rS g (d + 2) mX10_as 36 [some (.ref 83), some (.int (nI b)), some (.int w)] [.int (b2i (isOfB (M 84 (108 + 7 * b + 0)) w = true))] ((M)) Q
    refine V.if_eq (tgt := 48) dX10_as_36 (by decide) (fun c36 => ?_) (fun c36 => ?_)
    · refine V.aload_n dX10_as_48 rfl (i := 0) rfl ?_
      refine V.iconst dX10_as_49 (v := 5) (by decide) ?_
      refine V.invv (z := mX10_finds) (As := [_]) dX10_as_50 rfl mlRX10_131 okX10_finds npX10_finds rfl rfl rfl ⟨by decide, by decide⟩ (Nat.le_of_ble_eq_true rfl) rfl (Nat.le_of_ble_eq_true rfl) (c_fnd5   ?_)
      show V rS g (d + 2) mX10_as 53 [some (.ref 83), some (.int (nI b)), some (.int w)] [.int (-1000000005 : Int32)] (put ((M)) 87 5 (((M)) 87 5 + 1)) Q
      exact V.ret dX10_as_53 rfl (by first | exact hkind h b hb rfl (Bool.eq_false_iff.mpr (b2i_0.mp c36)) | exact hok h b hb rfl (Classical.byContradiction fun z => c36 (b2i_f z)))
    · refine V.aload_n dX10_as_39 rfl (i := 0) rfl ?_
      refine V.iload_n dX10_as_40 rfl (i := 1) rfl ?_
      refine V.iconst dX10_as_41 (v := 3) (by decide) ?_
      refine V.invv (z := mX10_of) (As := [_, _]) dX10_as_42 rfl mlRX10_175 okX10_of npX10_of rfl rfl rfl ⟨by decide, by decide⟩ (Nat.le_of_ble_eq_true rfl) rfl (Nat.le_of_ble_eq_true rfl) (c_of  (by omega) (by decide) ?_)
      show V rS g (d + 2) mX10_as 45 [some (.ref 83), some (.int (nI b)), some (.int w)] [.int (((M)) 84 (108 + 7 * b + 3))] (((M))) Q
      refine V.goto dX10_as_45 (tgt := 53) (by decide) ?_
      exact V.ret dX10_as_53 rfl (by first | exact hkind h b hb rfl (Bool.eq_false_iff.mpr (b2i_0.mp c36)) | exact hok h b hb rfl (Classical.byContradiction fun z => c36 (b2i_f z)))
  · skip
    refine V.aload_n dX10_as_0 rfl (i := 0) rfl ?_
    refine V.iload_n dX10_as_1 rfl (i := 1) rfl ?_
    refine V.invv (z := mX10_isBell) (As := [_]) dX10_as_2 rfl mlRX10_170 okX10_isBell npX10_isBell rfl rfl rfl ⟨by decide, by decide⟩ (Nat.le_of_ble_eq_true rfl) rfl (Nat.le_of_ble_eq_true rfl) (c_bellR hn h8 ?_)
    show V rS g (d + 2) mX10_as 5 [some (.ref 83), some (.int a), some (.int w)] [.int (b2i (0 ≤ a ∧ a < nI n))] M Q
    refine V.if_eq (tgt := 20) dX10_as_5 (by decide) (fun c5 => ?_) (fun c5 => ?_)
    · refine V.aload_n dX10_as_20 rfl (i := 0) rfl ?_
      refine V.iconst dX10_as_21 (v := 1) (by decide) ?_
      refine V.invv (z := mX10_finds) (As := [_]) dX10_as_22 rfl mlRX10_131 okX10_finds npX10_finds rfl rfl rfl ⟨by decide, by decide⟩ (Nat.le_of_ble_eq_true rfl) rfl (Nat.le_of_ble_eq_true rfl) (c_fnd1   ?_)
      show V rS g (d + 2) mX10_as 25 [some (.ref 83), some (.int a), some (.int w)] [.int (-1000000001 : Int32)] (put M 87 1 (M 87 1 + 1)) Q
      exact V.ret dX10_as_25 rfl (hbad h)
    · refine V.iload_n dX10_as_8 rfl (i := 2) rfl ?_
      refine V.i2l dX10_as_9 ?_
      refine V.lconst dX10_as_10 (v := 0) (by decide) ?_
      refine V.ldc2 dX10_as_11 rfl clRX10_173 ?_
      refine V.invs (z := mX10_in) (As := [_, _, _]) dX10_as_14 rfl mlRX10_66 okX10_in npX10_in rfl (Nat.le_of_ble_eq_true rfl) rfl (Nat.le_of_ble_eq_true rfl) (c_in32 (v := w) (lo := (0 : Int32)) (hi := (6 : Int32)) (by first | rfl | decide) (by first | rfl | decide)   ?_)
      show V rS g (d + 2) mX10_as 17 [some (.ref 83), some (.int a), some (.int w)] [.int (b2i ((0 : Int32) ≤ w ∧ w ≤ (6 : Int32)))] M Q
      refine V.if_ne (tgt := 26) dX10_as_17 (by decide) (fun c17 => ?_) (fun c17 => ?_)
      · exact absurd ⟨(Classical.byContradiction fun z => c5 (b2i_f z)), (Classical.byContradiction fun z => c17 (b2i_f z))⟩ h
      · refine V.aload_n dX10_as_20 rfl (i := 0) rfl ?_
        refine V.iconst dX10_as_21 (v := 1) (by decide) ?_
        refine V.invv (z := mX10_finds) (As := [_]) dX10_as_22 rfl mlRX10_131 okX10_finds npX10_finds rfl rfl rfl ⟨by decide, by decide⟩ (Nat.le_of_ble_eq_true rfl) rfl (Nat.le_of_ble_eq_true rfl) (c_fnd1   ?_)
        show V rS g (d + 2) mX10_as 25 [some (.ref 83), some (.int a), some (.int w)] [.int (-1000000001 : Int32)] (put M 87 1 (M 87 1 + 1)) Q
        exact V.ret dX10_as_25 rfl (hbad h)
set_option maxHeartbeats 4000000 in
set_option maxRecDepth 100000 in
theorem c10_strikes {g : GG} {d : Nat} {M : Mem} {Q : Option Value → Mem → Prop} {a w : Int32} {n : Nat} (hn : M 84 103 = nI n) (h8 : n ≤ 8) (hs : ∀ b, b < n → M 84 (108 + 7 * b + 6) = 0 ∨ M 84 (108 + 7 * b + 6) = 1) (hbad : ¬ ((0 ≤ a ∧ a < nI n) ∧ 0 ≤ w ∧ w ≤ 23) → Q (some (.int (-1000000001))) (put M 87 1 (M 87 1 + 1))) (hok : ((0 ≤ a ∧ a < nI n) ∧ 0 ≤ w ∧ w ≤ 23) → ∀ b, b < n → a = nI b → Q (some (.int (b2i (strk (M 84 (108 + 7 * b + 0)) (M 84 (108 + 7 * b + 1)) (M 84 (108 + 7 * b + 6)) w = true)))) M) : V rS g (d + 2) mX10_strikes 0 [some (.ref 83), some (.int a), some (.int w)] [] M Q := by
  by_cases h : ((0 ≤ a ∧ a < nI n) ∧ 0 ≤ w ∧ w ≤ 23)
  · obtain ⟨b, hb, rfl⟩ := nI_ex (n := n) (by omega) h.1.1 h.1.2
    refine V.aload_n dX10_strikes_0 rfl (i := 0) rfl ?_
    refine V.iload_n dX10_strikes_1 rfl (i := 1) rfl ?_
    refine V.invv (z := mX10_isBell) (As := [_]) dX10_strikes_2 rfl mlRX10_170 okX10_isBell npX10_isBell rfl rfl rfl ⟨by decide, by decide⟩ (Nat.le_of_ble_eq_true rfl) rfl (Nat.le_of_ble_eq_true rfl) (c_bellR hn h8 ?_)
    show V rS g (d + 2) mX10_strikes 5 [some (.ref 83), some (.int (nI b)), some (.int w)] [.int (b2i (0 ≤ nI b ∧ nI b < nI n))] M Q
    refine V.if_eq (tgt := 15) dX10_strikes_5 (by decide) (fun q => absurd q ((fun z => b2i_0.mp z h.1))) (fun c5 => ?_)
    refine V.iload_n dX10_strikes_8 rfl (i := 2) rfl ?_
    refine V.invs (z := mX10_isHour) (As := [_]) dX10_strikes_9 rfl mlRX10_191 okX10_isHour npX10_isHour rfl (Nat.le_of_ble_eq_true rfl) rfl (Nat.le_of_ble_eq_true rfl) (c_hourR   ?_)
    show V rS g (d + 2) mX10_strikes 12 [some (.ref 83), some (.int (nI b)), some (.int w)] [.int (b2i (0 ≤ w ∧ w ≤ 23))] (M) Q
    refine V.if_ne (tgt := 21) dX10_strikes_12 (by decide) (fun c12 => ?_) (fun q => absurd q ((fun z => b2i_0.mp z h.2)))
    refine V.aload_n dX10_strikes_21 rfl (i := 0) rfl ?_
    refine V.iload_n dX10_strikes_22 rfl (i := 1) rfl ?_
    refine V.iload_n dX10_strikes_23 rfl (i := 2) rfl ?_
    refine V.invv (z := mX10_isStruck) (As := [_, _]) dX10_strikes_24 rfl mlRX10_194 okX10_isStruck npX10_isStruck rfl rfl rfl ⟨by decide, by decide⟩ (Nat.le_of_ble_eq_true rfl) rfl (Nat.le_of_ble_eq_true rfl) (c_struck  (by omega) (by exact hs b hb) ?_)
    show V rS g (d + 2) mX10_strikes 27 [some (.ref 83), some (.int (nI b)), some (.int w)] [.int (b2i (strk ((M) 84 (108 + 7 * b + 0)) ((M) 84 (108 + 7 * b + 1)) ((M) 84 (108 + 7 * b + 6)) w = true))] (M) Q
    suffices kJ27 : V rS g (d + 2) mX10_strikes 35 [some (.ref 83), some (.int (nI b)), some (.int w)] [.int (if (b2i (strk ((M) 84 (108 + 7 * b + 0)) ((M) 84 (108 + 7 * b + 1)) ((M) 84 (108 + 7 * b + 6)) w = true)) = (0 : Int32) then (0 : Int32) else (1 : Int32))] (M) Q by
      refine V.if_eq (tgt := 34) dX10_strikes_27 (by decide) (fun c27 => ?_) (fun c27 => ?_)
      · refine V.iconst dX10_strikes_34 (v := 0) (by decide) ?_
        rw [if_pos c27] at kJ27; exact kJ27
      · refine V.iconst dX10_strikes_30 (v := 1) (by decide) ?_
        refine V.goto dX10_strikes_31 (tgt := 35) (by decide) ?_
        rw [if_neg c27] at kJ27; exact kJ27
    exact V.ret dX10_strikes_35 rfl (Qi (hok h b hb rfl) (by unfold b2i; (repeat' split) <;> simp_all))
  · skip
    refine V.aload_n dX10_strikes_0 rfl (i := 0) rfl ?_
    refine V.iload_n dX10_strikes_1 rfl (i := 1) rfl ?_
    refine V.invv (z := mX10_isBell) (As := [_]) dX10_strikes_2 rfl mlRX10_170 okX10_isBell npX10_isBell rfl rfl rfl ⟨by decide, by decide⟩ (Nat.le_of_ble_eq_true rfl) rfl (Nat.le_of_ble_eq_true rfl) (c_bellR hn h8 ?_)
    show V rS g (d + 2) mX10_strikes 5 [some (.ref 83), some (.int a), some (.int w)] [.int (b2i (0 ≤ a ∧ a < nI n))] M Q
    refine V.if_eq (tgt := 15) dX10_strikes_5 (by decide) (fun c5 => ?_) (fun c5 => ?_)
    · refine V.aload_n dX10_strikes_15 rfl (i := 0) rfl ?_
      refine V.iconst dX10_strikes_16 (v := 1) (by decide) ?_
      refine V.invv (z := mX10_finds) (As := [_]) dX10_strikes_17 rfl mlRX10_131 okX10_finds npX10_finds rfl rfl rfl ⟨by decide, by decide⟩ (Nat.le_of_ble_eq_true rfl) rfl (Nat.le_of_ble_eq_true rfl) (c_fnd1   ?_)
      show V rS g (d + 2) mX10_strikes 20 [some (.ref 83), some (.int a), some (.int w)] [.int (-1000000001 : Int32)] (put M 87 1 (M 87 1 + 1)) Q
      exact V.ret dX10_strikes_20 rfl (hbad h)
    · refine V.iload_n dX10_strikes_8 rfl (i := 2) rfl ?_
      refine V.invs (z := mX10_isHour) (As := [_]) dX10_strikes_9 rfl mlRX10_191 okX10_isHour npX10_isHour rfl (Nat.le_of_ble_eq_true rfl) rfl (Nat.le_of_ble_eq_true rfl) (c_hourR   ?_)
      show V rS g (d + 2) mX10_strikes 12 [some (.ref 83), some (.int a), some (.int w)] [.int (b2i (0 ≤ w ∧ w ≤ 23))] (M) Q
      refine V.if_ne (tgt := 21) dX10_strikes_12 (by decide) (fun c12 => ?_) (fun c12 => ?_)
      · exact absurd ⟨(Classical.byContradiction fun z => c5 (b2i_f z)), (Classical.byContradiction fun z => c12 (b2i_f z))⟩ h
      · refine V.aload_n dX10_strikes_15 rfl (i := 0) rfl ?_
        refine V.iconst dX10_strikes_16 (v := 1) (by decide) ?_
        refine V.invv (z := mX10_finds) (As := [_]) dX10_strikes_17 rfl mlRX10_131 okX10_finds npX10_finds rfl rfl rfl ⟨by decide, by decide⟩ (Nat.le_of_ble_eq_true rfl) rfl (Nat.le_of_ble_eq_true rfl) (c_fnd1   ?_)
        show V rS g (d + 2) mX10_strikes 20 [some (.ref 83), some (.int a), some (.int w)] [.int (-1000000001 : Int32)] (put (M) 87 1 ((M) 87 1 + 1)) Q
        exact V.ret dX10_strikes_20 rfl (hbad h)
set_option maxHeartbeats 4000000 in
set_option maxRecDepth 100000 in
theorem c10_ear {g : GG} {d : Nat} {M : Mem} {Q : Option Value → Mem → Prop} {a : Int32} {n : Nat} (hn : M 84 104 = nI n) (h10 : n ≤ 10) (hbad : ¬ (0 ≤ a ∧ a ≤ 99) → Q (some (.int (-1000000001))) (put M 87 1 (M 87 1 + 1))) (hfull : (0 ≤ a ∧ a ≤ 99) → n = 10 → Q (some (.int (-1000000004))) (put M 87 4 (M 87 4 + 1))) (hok : (0 ≤ a ∧ a ≤ 99) → n < 10 → Q (some (.int (nI n))) (put (put M 84 (171 + n) a) 84 104 (nI (n + 1)))) : V rS g (d + 2) mX10_ear 0 [some (.ref 83), some (.int a)] [] M Q := by
  by_cases h : (0 ≤ a ∧ a ≤ 99)
  · by_cases hc : n < 10
    · skip
      refine V.iload_n dX10_ear_0 rfl (i := 1) rfl ?_
      refine V.i2l dX10_ear_1 ?_
      refine V.lconst dX10_ear_2 (v := 0) (by decide) ?_
      refine V.ldc2 dX10_ear_3 rfl clRX10_150 ?_
      refine V.invs (z := mX10_in) (As := [_, _, _]) dX10_ear_6 rfl mlRX10_66 okX10_in npX10_in rfl (Nat.le_of_ble_eq_true rfl) rfl (Nat.le_of_ble_eq_true rfl) (c_in32 (v := a) (lo := (0 : Int32)) (hi := (99 : Int32)) (by first | rfl | decide) (by first | rfl | decide)   ?_)
      show V rS g (d + 2) mX10_ear 9 [some (.ref 83), some (.int a)] [.int (b2i ((0 : Int32) ≤ a ∧ a ≤ (99 : Int32)))] M Q
      refine V.if_ne (tgt := 18) dX10_ear_9 (by decide) (fun c9 => ?_) (fun q => absurd q ((fun z => b2i_0.mp z h)))
      refine V.aload_n dX10_ear_18 rfl (i := 0) rfl ?_
      refine V.getR dX10_ear_19 rfl flRX10_7 rfl ⟨by decide, by decide⟩ ?_
      refine V.bipush dX10_ear_22 (v := 104) (by decide) ?_
      refine V.top (x' := nI 104) (by decide) ?_
      refine V.ialdN dX10_ear_24 rfl ⟨by decide, by decide⟩ (by first | assumption | decide | omega) (by decide) ?_
      refine V.top (x' := (nI n)) (hn) ?_
      refine V.bipush dX10_ear_25 (v := 10) (by decide) ?_
      refine V.ic_ne (tgt := 36) dX10_ear_27 (by decide) (fun c27 => ?_) (fun q => absurd q ((fun z => absurd ((nI_eq (b := 10) (by omega) (by omega)).mp z) (by omega))))
      refine V.aload_n dX10_ear_36 rfl (i := 0) rfl ?_
      refine V.getR dX10_ear_37 rfl flRX10_7 rfl ⟨by decide, by decide⟩ ?_
      refine V.sipush dX10_ear_40 (v := 171) (by decide) ?_
      refine V.aload_n dX10_ear_43 rfl (i := 0) rfl ?_
      refine V.getR dX10_ear_44 rfl flRX10_7 rfl ⟨by decide, by decide⟩ ?_
      refine V.bipush dX10_ear_47 (v := 104) (by decide) ?_
      refine V.top (x' := nI 104) (by decide) ?_
      refine V.ialdN dX10_ear_49 rfl ⟨by decide, by decide⟩ (by first | assumption | decide | omega) (by decide) ?_
      refine V.top (x' := (nI n)) (hn) ?_
      refine V.iadd dX10_ear_50 ?_
      refine V.top (x' := (nI (171 + n))) (nI_add 171 n) ?_
      refine V.iload_n dX10_ear_51 rfl (i := 1) rfl ?_
      refine V.iastN dX10_ear_52 rfl ⟨by decide, by decide⟩ (by first | assumption | decide | omega) (by decide) ?_
      refine V.aload_n dX10_ear_53 rfl (i := 0) rfl ?_
      refine V.getR dX10_ear_54 rfl flRX10_7 rfl ⟨by decide, by decide⟩ ?_
      refine V.bipush dX10_ear_57 (v := 104) (by decide) ?_
      refine V.dup2 dX10_ear_59 rfl rfl ?_
      refine V.top (x' := nI 104) (by decide) ?_
      refine V.ialdN dX10_ear_60 rfl ⟨by decide, by decide⟩ (by first | assumption | decide | omega) (by decide) ?_
      refine V.top (x' := (nI n)) ((by rw [put_n (fun z => by omega)]; exact hn)) ?_
      refine V.iconst dX10_ear_61 (v := 1) (by decide) ?_
      refine V.iadd dX10_ear_62 ?_
      refine V.top (x' := (nI (n + 1))) (nI_add n 1) ?_
      refine V.top1 (x' := nI 104) (by decide) ?_
      refine V.iastN dX10_ear_63 rfl ⟨by decide, by decide⟩ (by first | assumption | decide | omega) (by decide) ?_
      refine V.aload_n dX10_ear_64 rfl (i := 0) rfl ?_
      refine V.getR dX10_ear_65 rfl flRX10_7 rfl ⟨by decide, by decide⟩ ?_
      refine V.bipush dX10_ear_68 (v := 104) (by decide) ?_
      refine V.top (x' := nI 104) (by decide) ?_
      refine V.ialdN dX10_ear_70 rfl ⟨by decide, by decide⟩ (by first | assumption | decide | omega) (by decide) ?_
      refine V.top (x' := (nI (n + 1))) (put_s) ?_
      refine V.iconst dX10_ear_71 (v := 1) (by decide) ?_
      refine V.isub dX10_ear_72 ?_
      exact V.ret dX10_ear_73 rfl (Qi (hok h hc) (by first | rfl | exact nI_pred n))
    · obtain rfl : n = 10 := by omega
      refine V.iload_n dX10_ear_0 rfl (i := 1) rfl ?_
      refine V.i2l dX10_ear_1 ?_
      refine V.lconst dX10_ear_2 (v := 0) (by decide) ?_
      refine V.ldc2 dX10_ear_3 rfl clRX10_150 ?_
      refine V.invs (z := mX10_in) (As := [_, _, _]) dX10_ear_6 rfl mlRX10_66 okX10_in npX10_in rfl (Nat.le_of_ble_eq_true rfl) rfl (Nat.le_of_ble_eq_true rfl) (c_in32 (v := a) (lo := (0 : Int32)) (hi := (99 : Int32)) (by first | rfl | decide) (by first | rfl | decide)   ?_)
      show V rS g (d + 2) mX10_ear 9 [some (.ref 83), some (.int a)] [.int (b2i ((0 : Int32) ≤ a ∧ a ≤ (99 : Int32)))] M Q
      refine V.if_ne (tgt := 18) dX10_ear_9 (by decide) (fun c9 => ?_) (fun q => absurd q ((fun z => b2i_0.mp z h)))
      refine V.aload_n dX10_ear_18 rfl (i := 0) rfl ?_
      refine V.getR dX10_ear_19 rfl flRX10_7 rfl ⟨by decide, by decide⟩ ?_
      refine V.bipush dX10_ear_22 (v := 104) (by decide) ?_
      refine V.top (x' := nI 104) (by decide) ?_
      refine V.ialdN dX10_ear_24 rfl ⟨by decide, by decide⟩ (by first | assumption | decide | omega) (by decide) ?_
      refine V.top (x' := (nI 10)) (hn) ?_
      refine V.bipush dX10_ear_25 (v := 10) (by decide) ?_
      refine V.ic_ne (tgt := 36) dX10_ear_27 (by decide) (fun q => absurd (rfl) q) (fun c27 => ?_)
      refine V.aload_n dX10_ear_30 rfl (i := 0) rfl ?_
      refine V.iconst dX10_ear_31 (v := 4) (by decide) ?_
      refine V.invv (z := mX10_finds) (As := [_]) dX10_ear_32 rfl mlRX10_131 okX10_finds npX10_finds rfl rfl rfl ⟨by decide, by decide⟩ (Nat.le_of_ble_eq_true rfl) rfl (Nat.le_of_ble_eq_true rfl) (c_fnd4   ?_)
      show V rS g (d + 2) mX10_ear 35 [some (.ref 83), some (.int a)] [.int (-1000000004 : Int32)] (put M 87 4 (M 87 4 + 1)) Q
      exact V.ret dX10_ear_35 rfl (hfull h rfl)
  · skip
    refine V.iload_n dX10_ear_0 rfl (i := 1) rfl ?_
    refine V.i2l dX10_ear_1 ?_
    refine V.lconst dX10_ear_2 (v := 0) (by decide) ?_
    refine V.ldc2 dX10_ear_3 rfl clRX10_150 ?_
    refine V.invs (z := mX10_in) (As := [_, _, _]) dX10_ear_6 rfl mlRX10_66 okX10_in npX10_in rfl (Nat.le_of_ble_eq_true rfl) rfl (Nat.le_of_ble_eq_true rfl) (c_in32 (v := a) (lo := (0 : Int32)) (hi := (99 : Int32)) (by first | rfl | decide) (by first | rfl | decide)   ?_)
    show V rS g (d + 2) mX10_ear 9 [some (.ref 83), some (.int a)] [.int (b2i ((0 : Int32) ≤ a ∧ a ≤ (99 : Int32)))] M Q
    refine V.if_ne (tgt := 18) dX10_ear_9 (by decide) (fun c9 => ?_) (fun c9 => ?_)
    · exact absurd (Classical.byContradiction fun z => c9 (b2i_f z)) h
    · refine V.aload_n dX10_ear_12 rfl (i := 0) rfl ?_
      refine V.iconst dX10_ear_13 (v := 1) (by decide) ?_
      refine V.invv (z := mX10_finds) (As := [_]) dX10_ear_14 rfl mlRX10_131 okX10_finds npX10_finds rfl rfl rfl ⟨by decide, by decide⟩ (Nat.le_of_ble_eq_true rfl) rfl (Nat.le_of_ble_eq_true rfl) (c_fnd1   ?_)
      show V rS g (d + 2) mX10_ear 17 [some (.ref 83), some (.int a)] [.int (-1000000001 : Int32)] (put M 87 1 (M 87 1 + 1)) Q
      exact V.ret dX10_ear_17 rfl (hbad h)
set_option maxHeartbeats 4000000 in
set_option maxRecDepth 100000 in
theorem c10_seed {g : GG} {d : Nat} {M : Mem} {Q : Option Value → Mem → Prop} {a : Int32} (hQ : Q (some (.int (M 84 105))) (put M 84 105 a)) : V rS g (d + 2) mX10_seed 0 [some (.ref 83), some (.int a), none] [] M Q := by
  refine V.aload_n dX10_seed_0 rfl (i := 0) rfl ?_
  refine V.getR dX10_seed_1 rfl flRX10_7 rfl ⟨by decide, by decide⟩ ?_
  refine V.bipush dX10_seed_4 (v := 105) (by decide) ?_
  refine V.top (x' := nI 105) (by decide) ?_
  refine V.ialdN dX10_seed_6 rfl ⟨by decide, by decide⟩ (by first | assumption | decide | omega) (by decide) ?_
  refine V.istore_n dX10_seed_7 rfl (i := 2) (by decide) (fun _ h => by cases h; exact Or.inl rfl) rfl ?_
  refine V.aload_n dX10_seed_8 rfl (i := 0) rfl ?_
  refine V.getR dX10_seed_9 rfl flRX10_7 rfl ⟨by decide, by decide⟩ ?_
  refine V.bipush dX10_seed_12 (v := 105) (by decide) ?_
  refine V.iload_n dX10_seed_14 rfl (i := 1) rfl ?_
  refine V.top1 (x' := nI 105) (by decide) ?_
  refine V.iastN dX10_seed_15 rfl ⟨by decide, by decide⟩ (by first | assumption | decide | omega) (by decide) ?_
  refine V.iload_n dX10_seed_16 rfl (i := 2) rfl ?_
  exact V.ret dX10_seed_17 rfl (hQ)
set_option maxHeartbeats 4000000 in
set_option maxRecDepth 100000 in
theorem c10_tell {g : GG} {d : Nat} {M : Mem} {Q : Option Value → Mem → Prop} {a : Int32} {n : Nat} (hn : M 84 107 = nI n) (h20 : n ≤ 20) (hfull : n = 20 → Q (some (.int (-1000000004))) (put M 87 4 (M 87 4 + 1))) (hok : n < 20 → Q (some (.int (nI (n + 1)))) (put (put M 84 (183 + n) a) 84 107 (nI (n + 1)))) : V rS g (d + 2) mX10_tell 0 [some (.ref 83), some (.int a)] [] M Q := by
  by_cases hc : n < 20
  · skip
    refine V.aload_n dX10_tell_0 rfl (i := 0) rfl ?_
    refine V.getR dX10_tell_1 rfl flRX10_7 rfl ⟨by decide, by decide⟩ ?_
    refine V.bipush dX10_tell_4 (v := 107) (by decide) ?_
    refine V.top (x' := nI 107) (by decide) ?_
    refine V.ialdN dX10_tell_6 rfl ⟨by decide, by decide⟩ (by first | assumption | decide | omega) (by decide) ?_
    refine V.top (x' := (nI n)) (hn) ?_
    refine V.bipush dX10_tell_7 (v := 20) (by decide) ?_
    refine V.ic_ne (tgt := 18) dX10_tell_9 (by decide) (fun c9 => ?_) (fun q => absurd q ((fun z => absurd ((nI_eq (b := 20) (by omega) (by omega)).mp z) (by omega))))
    refine V.aload_n dX10_tell_18 rfl (i := 0) rfl ?_
    refine V.getR dX10_tell_19 rfl flRX10_7 rfl ⟨by decide, by decide⟩ ?_
    refine V.sipush dX10_tell_22 (v := 183) (by decide) ?_
    refine V.aload_n dX10_tell_25 rfl (i := 0) rfl ?_
    refine V.getR dX10_tell_26 rfl flRX10_7 rfl ⟨by decide, by decide⟩ ?_
    refine V.bipush dX10_tell_29 (v := 107) (by decide) ?_
    refine V.top (x' := nI 107) (by decide) ?_
    refine V.ialdN dX10_tell_31 rfl ⟨by decide, by decide⟩ (by first | assumption | decide | omega) (by decide) ?_
    refine V.top (x' := (nI n)) (hn) ?_
    refine V.iadd dX10_tell_32 ?_
    refine V.top (x' := (nI (183 + n))) (nI_add 183 n) ?_
    refine V.iload_n dX10_tell_33 rfl (i := 1) rfl ?_
    refine V.iastN dX10_tell_34 rfl ⟨by decide, by decide⟩ (by first | assumption | decide | omega) (by decide) ?_
    refine V.aload_n dX10_tell_35 rfl (i := 0) rfl ?_
    refine V.getR dX10_tell_36 rfl flRX10_7 rfl ⟨by decide, by decide⟩ ?_
    refine V.bipush dX10_tell_39 (v := 107) (by decide) ?_
    refine V.dup2 dX10_tell_41 rfl rfl ?_
    refine V.top (x' := nI 107) (by decide) ?_
    refine V.ialdN dX10_tell_42 rfl ⟨by decide, by decide⟩ (by first | assumption | decide | omega) (by decide) ?_
    refine V.top (x' := (nI n)) ((by rw [put_n (fun z => by omega)]; exact hn)) ?_
    refine V.iconst dX10_tell_43 (v := 1) (by decide) ?_
    refine V.iadd dX10_tell_44 ?_
    refine V.top (x' := (nI (n + 1))) (nI_add n 1) ?_
    refine V.top1 (x' := nI 107) (by decide) ?_
    refine V.iastN dX10_tell_45 rfl ⟨by decide, by decide⟩ (by first | assumption | decide | omega) (by decide) ?_
    refine V.aload_n dX10_tell_46 rfl (i := 0) rfl ?_
    refine V.getR dX10_tell_47 rfl flRX10_7 rfl ⟨by decide, by decide⟩ ?_
    refine V.bipush dX10_tell_50 (v := 107) (by decide) ?_
    refine V.top (x' := nI 107) (by decide) ?_
    refine V.ialdN dX10_tell_52 rfl ⟨by decide, by decide⟩ (by first | assumption | decide | omega) (by decide) ?_
    exact V.ret dX10_tell_53 rfl (Qi (hok hc) (by first | rfl | exact put_s))
  · obtain rfl : n = 20 := by omega
    refine V.aload_n dX10_tell_0 rfl (i := 0) rfl ?_
    refine V.getR dX10_tell_1 rfl flRX10_7 rfl ⟨by decide, by decide⟩ ?_
    refine V.bipush dX10_tell_4 (v := 107) (by decide) ?_
    refine V.top (x' := nI 107) (by decide) ?_
    refine V.ialdN dX10_tell_6 rfl ⟨by decide, by decide⟩ (by first | assumption | decide | omega) (by decide) ?_
    refine V.top (x' := (nI 20)) (hn) ?_
    refine V.bipush dX10_tell_7 (v := 20) (by decide) ?_
    refine V.ic_ne (tgt := 18) dX10_tell_9 (by decide) (fun q => absurd (rfl) q) (fun c9 => ?_)
    refine V.aload_n dX10_tell_12 rfl (i := 0) rfl ?_
    refine V.iconst dX10_tell_13 (v := 4) (by decide) ?_
    refine V.invv (z := mX10_finds) (As := [_]) dX10_tell_14 rfl mlRX10_131 okX10_finds npX10_finds rfl rfl rfl ⟨by decide, by decide⟩ (Nat.le_of_ble_eq_true rfl) rfl (Nat.le_of_ble_eq_true rfl) (c_fnd4   ?_)
    show V rS g (d + 2) mX10_tell 17 [some (.ref 83), some (.int a)] [.int (-1000000004 : Int32)] (put M 87 4 (M 87 4 + 1)) Q
    exact V.ret dX10_tell_17 rfl (hfull rfl)
set_option maxHeartbeats 4000000 in
set_option maxRecDepth 100000 in
theorem c10_told {g : GG} {d : Nat} {M : Mem} {Q : Option Value → Mem → Prop} {a : Int32} (hbad : ¬ (1 ≤ a ∧ a ≤ 5) → Q (some (.int (-1000000001))) (put M 87 1 (M 87 1 + 1))) (hok : (1 ≤ a ∧ a ≤ 5) → ∀ k, k < 6 → a = nI k → Q (some (.int (M 87 k))) M) : V rS g (d + 2) mX10_told 0 [some (.ref 83), some (.int a)] [] M Q := by
  by_cases h : (1 ≤ a ∧ a ≤ 5)
  · obtain ⟨k, hk, rfl⟩ := nI_ex (n := 6) (by omega) (Int32.le_trans (by decide) h.1) (Int32.lt_of_le_of_lt h.2 (by decide))
    refine V.iload_n dX10_told_0 rfl (i := 1) rfl ?_
    refine V.i2l dX10_told_1 ?_
    refine V.lconst dX10_told_2 (v := 1) (by decide) ?_
    refine V.ldc2 dX10_told_3 rfl clRX10_156 ?_
    refine V.invs (z := mX10_in) (As := [_, _, _]) dX10_told_6 rfl mlRX10_66 okX10_in npX10_in rfl (Nat.le_of_ble_eq_true rfl) rfl (Nat.le_of_ble_eq_true rfl) (c_in32 (v := (nI k)) (lo := (1 : Int32)) (hi := (5 : Int32)) (by first | rfl | decide) (by first | rfl | decide)   ?_)
    show V rS g (d + 2) mX10_told 9 [some (.ref 83), some (.int (nI k))] [.int (b2i ((1 : Int32) ≤ (nI k) ∧ (nI k) ≤ (5 : Int32)))] M Q
    refine V.if_eq (tgt := 21) dX10_told_9 (by decide) (fun q => absurd q ((fun z => b2i_0.mp z h))) (fun c9 => ?_)
    refine V.aload_n dX10_told_12 rfl (i := 0) rfl ?_
    refine V.getR dX10_told_13 rfl flRX10_19 rfl ⟨by decide, by decide⟩ ?_
    refine V.iload_n dX10_told_16 rfl (i := 1) rfl ?_
    refine V.ialdN dX10_told_17 rfl ⟨by decide, by decide⟩ (by first | assumption | decide | omega) (by decide) ?_
    refine V.goto dX10_told_18 (tgt := 26) (by decide) ?_
    exact V.ret dX10_told_26 rfl (hok h k hk rfl)
  · skip
    refine V.iload_n dX10_told_0 rfl (i := 1) rfl ?_
    refine V.i2l dX10_told_1 ?_
    refine V.lconst dX10_told_2 (v := 1) (by decide) ?_
    refine V.ldc2 dX10_told_3 rfl clRX10_156 ?_
    refine V.invs (z := mX10_in) (As := [_, _, _]) dX10_told_6 rfl mlRX10_66 okX10_in npX10_in rfl (Nat.le_of_ble_eq_true rfl) rfl (Nat.le_of_ble_eq_true rfl) (c_in32 (v := a) (lo := (1 : Int32)) (hi := (5 : Int32)) (by first | rfl | decide) (by first | rfl | decide)   ?_)
    show V rS g (d + 2) mX10_told 9 [some (.ref 83), some (.int a)] [.int (b2i ((1 : Int32) ≤ a ∧ a ≤ (5 : Int32)))] M Q
    refine V.if_eq (tgt := 21) dX10_told_9 (by decide) (fun c9 => ?_) (fun c9 => ?_)
    · refine V.aload_n dX10_told_21 rfl (i := 0) rfl ?_
      refine V.iconst dX10_told_22 (v := 1) (by decide) ?_
      refine V.invv (z := mX10_finds) (As := [_]) dX10_told_23 rfl mlRX10_131 okX10_finds npX10_finds rfl rfl rfl ⟨by decide, by decide⟩ (Nat.le_of_ble_eq_true rfl) rfl (Nat.le_of_ble_eq_true rfl) (c_fnd1   ?_)
      show V rS g (d + 2) mX10_told 26 [some (.ref 83), some (.int a)] [.int (-1000000001 : Int32)] (put M 87 1 (M 87 1 + 1)) Q
      exact V.ret dX10_told_26 rfl (hbad h)
    · exact absurd (Classical.byContradiction fun z => c9 (b2i_f z)) h
set_option maxHeartbeats 4000000 in
set_option maxRecDepth 100000 in
theorem l_msR {g : GG} {d : Nat} {M : Mem} {Q : Option Value → Mem → Prop} {n : Nat} (hn : M 84 103 = nI n) (h8 : n ≤ 8) (hQ : Q (some (.int (sI (fun b => M 84 (108 + 7 * b + 6)) n))) M) : ∀ (k b : Nat), b + k = n → V rS g (d + 1) mX10_manySilent 4 [some (.ref 83), some (.int (sI (fun b => M 84 (108 + 7 * b + 6)) b)), some (.int (nI b))] [] M Q := by
  intro k
  induction k with
  | zero =>
    intro b hk
    obtain rfl : b = n := by omega
    refine V.iload_n dX10_manySilent_4 rfl (i := 2) rfl ?_
    refine V.aload_n dX10_manySilent_5 rfl (i := 0) rfl ?_
    refine V.getR dX10_manySilent_6 rfl flRX10_7 rfl ⟨by decide, by decide⟩ ?_
    refine V.bipush dX10_manySilent_9 (v := 103) (by decide) ?_
    refine V.top (x' := nI 103) (by decide) ?_
    refine V.ialdN dX10_manySilent_11 rfl ⟨by decide, by decide⟩ (by first | assumption | decide | omega) (by decide) ?_
    refine V.top (x' := (nI b)) (hn) ?_
    refine V.ic_ge (tgt := 31) dX10_manySilent_12 (by decide) (fun c12 => ?_) (fun q => absurd ((Int32.le_refl _)) q)
    refine V.iload_n dX10_manySilent_31 rfl (i := 1) rfl ?_
    exact V.ret dX10_manySilent_32 rfl (hQ)
  | succ k ih =>
    intro b hk
    refine V.iload_n dX10_manySilent_4 rfl (i := 2) rfl ?_
    refine V.aload_n dX10_manySilent_5 rfl (i := 0) rfl ?_
    refine V.getR dX10_manySilent_6 rfl flRX10_7 rfl ⟨by decide, by decide⟩ ?_
    refine V.bipush dX10_manySilent_9 (v := 103) (by decide) ?_
    refine V.top (x' := nI 103) (by decide) ?_
    refine V.ialdN dX10_manySilent_11 rfl ⟨by decide, by decide⟩ (by first | assumption | decide | omega) (by decide) ?_
    refine V.top (x' := (nI n)) (hn) ?_
    refine V.ic_ge (tgt := 31) dX10_manySilent_12 (by decide) (fun q => absurd q ((nI_ge (a := b) (b := n) (by omega) (by omega)))) (fun c12 => ?_)
    refine V.iload_n dX10_manySilent_15 rfl (i := 1) rfl ?_
    refine V.aload_n dX10_manySilent_16 rfl (i := 0) rfl ?_
    refine V.iload_n dX10_manySilent_17 rfl (i := 2) rfl ?_
    refine V.bipush dX10_manySilent_18 (v := 6) (by decide) ?_
    refine V.invv (z := mX10_of) (As := [_, _]) dX10_manySilent_20 rfl mlRX10_175 okX10_of npX10_of rfl rfl rfl ⟨by decide, by decide⟩ (Nat.le_of_ble_eq_true rfl) rfl (Nat.le_of_ble_eq_true rfl) (c_of  (by omega) (by decide) ?_)
    show V rS g (d + 1) mX10_manySilent 23 [some (.ref 83), some (.int (sI (fun b => M 84 (108 + 7 * b + 6)) b)), some (.int (nI b))] [.int (M 84 (108 + 7 * b + 6)), .int (sI (fun b => M 84 (108 + 7 * b + 6)) b)] (M) Q
    refine V.iadd dX10_manySilent_23 ?_
    refine V.istore_n dX10_manySilent_24 rfl (i := 1) (by decide) (fun _ h => by cases h; exact Or.inl rfl) rfl ?_
    refine V.iinc dX10_manySilent_25 rfl (v := (nI (b + 1))) (nI_1 _) (by decide) (fun _ h => by cases h; exact Or.inl rfl) rfl ?_
    refine V.goto dX10_manySilent_28 (tgt := 4) (by decide) ?_
    exact ih (b + 1) (by omega)
set_option maxHeartbeats 4000000 in
set_option maxRecDepth 100000 in
theorem c10_count {g : GG} {d : Nat} {M : Mem} {Q : Option Value → Mem → Prop} {a : Int32} {n : Nat} (hn : M 84 103 = nI n) (h8 : n ≤ 8) (hbad : ¬ (0 ≤ a ∧ a ≤ 7) → Q (some (.int (-1000000001))) (put M 87 1 (M 87 1 + 1))) (h0 : a = 0 → Q (some (.int (M 84 103))) M) (h1 : a = 1 → Q (some (.int (M 84 104))) M) (h2 : a = 2 → Q (some (.int (sI (fun b => M 84 (108 + 7 * b + 6)) n))) M) (h3 : a = 3 → Q (some (.int (M 84 100))) M) (h4 : a = 4 → Q (some (.int (M 84 106))) M) (h5 : a = 5 → Q (some (.int (M 84 107))) M) (h6 : a = 6 → Q (some (.int (M 83 22))) M) (h7 : a = 7 → Q (some (.int (M 84 105))) M) : V rS g (d + 2) mX10_count 0 [some (.ref 83), some (.int a)] [] M Q := by
  have hms : ∀ Q' : Option Value → Mem → Prop, Q' (some (.int (sI (fun b => M 84 (108 + 7 * b + 6)) n))) M → V rS g (d + 1) mX10_manySilent 0 [some (.ref 83), none, none] [] M Q' := by
    intro Q' hQ'
    refine V.iconst dX10_manySilent_0 (v := 0) (by decide) ?_
    refine V.istore_n dX10_manySilent_1 rfl (i := 1) (by decide) (fun _ h => by cases h; exact Or.inl rfl) rfl ?_
    refine V.iconst dX10_manySilent_2 (v := 0) (by decide) ?_
    refine V.istore_n dX10_manySilent_3 rfl (i := 2) (by decide) (fun _ h => by cases h; exact Or.inl rfl) rfl ?_
    exact l_msR hn h8 hQ' n 0 (by omega)
  refine V.iload_n dX10_count_0 rfl (i := 1) rfl ?_
  by_cases s1_0 : a = (0 : Int32)
  · refine V.tabIn (tgt := 48) dX10_count_1 (by rw [s1_0]; decide) (by rw [s1_0]; decide) (by rw [s1_0]; rfl) (by decide) ?_
    refine V.aload_n dX10_count_48 rfl (i := 0) rfl ?_
    refine V.getR dX10_count_49 rfl flRX10_7 rfl ⟨by decide, by decide⟩ ?_
    refine V.bipush dX10_count_52 (v := 103) (by decide) ?_
    refine V.top (x' := nI 103) (by decide) ?_
    refine V.ialdN dX10_count_54 rfl ⟨by decide, by decide⟩ (by first | assumption | decide | omega) (by decide) ?_
    exact V.ret dX10_count_55 rfl (h0 s1_0)
  by_cases s1_1 : a = (1 : Int32)
  · refine V.tabIn (tgt := 56) dX10_count_1 (by rw [s1_1]; decide) (by rw [s1_1]; decide) (by rw [s1_1]; rfl) (by decide) ?_
    refine V.aload_n dX10_count_56 rfl (i := 0) rfl ?_
    refine V.getR dX10_count_57 rfl flRX10_7 rfl ⟨by decide, by decide⟩ ?_
    refine V.bipush dX10_count_60 (v := 104) (by decide) ?_
    refine V.top (x' := nI 104) (by decide) ?_
    refine V.ialdN dX10_count_62 rfl ⟨by decide, by decide⟩ (by first | assumption | decide | omega) (by decide) ?_
    exact V.ret dX10_count_63 rfl (h1 s1_1)
  by_cases s1_2 : a = (2 : Int32)
  · refine V.tabIn (tgt := 64) dX10_count_1 (by rw [s1_2]; decide) (by rw [s1_2]; decide) (by rw [s1_2]; rfl) (by decide) ?_
    refine V.aload_n dX10_count_64 rfl (i := 0) rfl ?_
    refine V.invv (z := mX10_manySilent) (As := []) dX10_count_65 rfl mlRX10_327 okX10_manySilent npX10_manySilent rfl rfl rfl ⟨by decide, by decide⟩ (Nat.le_of_ble_eq_true rfl) rfl (Nat.le_of_ble_eq_true rfl) (hms _ ?_)
    show V rS g (d + 2) mX10_count 68 [some (.ref 83), some (.int a)] [.int (sI (fun b => M 84 (108 + 7 * b + 6)) n)] M Q
    exact V.ret dX10_count_68 rfl (h2 s1_2)
  by_cases s1_3 : a = (3 : Int32)
  · refine V.tabIn (tgt := 69) dX10_count_1 (by rw [s1_3]; decide) (by rw [s1_3]; decide) (by rw [s1_3]; rfl) (by decide) ?_
    refine V.aload_n dX10_count_69 rfl (i := 0) rfl ?_
    refine V.getR dX10_count_70 rfl flRX10_7 rfl ⟨by decide, by decide⟩ ?_
    refine V.bipush dX10_count_73 (v := 100) (by decide) ?_
    refine V.top (x' := nI 100) (by decide) ?_
    refine V.ialdN dX10_count_75 rfl ⟨by decide, by decide⟩ (by first | assumption | decide | omega) (by decide) ?_
    exact V.ret dX10_count_76 rfl (h3 s1_3)
  by_cases s1_4 : a = (4 : Int32)
  · refine V.tabIn (tgt := 77) dX10_count_1 (by rw [s1_4]; decide) (by rw [s1_4]; decide) (by rw [s1_4]; rfl) (by decide) ?_
    refine V.aload_n dX10_count_77 rfl (i := 0) rfl ?_
    refine V.getR dX10_count_78 rfl flRX10_7 rfl ⟨by decide, by decide⟩ ?_
    refine V.bipush dX10_count_81 (v := 106) (by decide) ?_
    refine V.top (x' := nI 106) (by decide) ?_
    refine V.ialdN dX10_count_83 rfl ⟨by decide, by decide⟩ (by first | assumption | decide | omega) (by decide) ?_
    exact V.ret dX10_count_84 rfl (h4 s1_4)
  by_cases s1_5 : a = (5 : Int32)
  · refine V.tabIn (tgt := 85) dX10_count_1 (by rw [s1_5]; decide) (by rw [s1_5]; decide) (by rw [s1_5]; rfl) (by decide) ?_
    refine V.aload_n dX10_count_85 rfl (i := 0) rfl ?_
    refine V.getR dX10_count_86 rfl flRX10_7 rfl ⟨by decide, by decide⟩ ?_
    refine V.bipush dX10_count_89 (v := 107) (by decide) ?_
    refine V.top (x' := nI 107) (by decide) ?_
    refine V.ialdN dX10_count_91 rfl ⟨by decide, by decide⟩ (by first | assumption | decide | omega) (by decide) ?_
    exact V.ret dX10_count_92 rfl (h5 s1_5)
  by_cases s1_6 : a = (6 : Int32)
  · refine V.tabIn (tgt := 93) dX10_count_1 (by rw [s1_6]; decide) (by rw [s1_6]; decide) (by rw [s1_6]; rfl) (by decide) ?_
    refine V.aload_n dX10_count_93 rfl (i := 0) rfl ?_
    refine V.getI dX10_count_94 rfl flRX10_290 rfl ⟨by decide, by decide⟩ ?_
    exact V.ret dX10_count_97 rfl (h6 s1_6)
  by_cases s1_7 : a = (7 : Int32)
  · refine V.tabIn (tgt := 98) dX10_count_1 (by rw [s1_7]; decide) (by rw [s1_7]; decide) (by rw [s1_7]; rfl) (by decide) ?_
    refine V.aload_n dX10_count_98 rfl (i := 0) rfl ?_
    refine V.getR dX10_count_99 rfl flRX10_7 rfl ⟨by decide, by decide⟩ ?_
    refine V.bipush dX10_count_102 (v := 105) (by decide) ?_
    refine V.top (x' := nI 105) (by decide) ?_
    refine V.ialdN dX10_count_104 rfl ⟨by decide, by decide⟩ (by first | assumption | decide | omega) (by decide) ?_
    exact V.ret dX10_count_105 rfl (h7 s1_7)
  · refine V.tabOut (tgt := 106) dX10_count_1 (by have z0 := lv_neT (a := 0) s1_0 (by decide); have z1 := lv_neT (a := 1) s1_1 (by decide); have z2 := lv_neT (a := 2) s1_2 (by decide); have z3 := lv_neT (a := 3) s1_3 (by decide); have z4 := lv_neT (a := 4) s1_4 (by decide); have z5 := lv_neT (a := 5) s1_5 (by decide); have z6 := lv_neT (a := 6) s1_6 (by decide); have z7 := lv_neT (a := 7) s1_7 (by decide); omega) (by decide) ?_
    refine V.aload_n dX10_count_106 rfl (i := 0) rfl ?_
    refine V.iconst dX10_count_107 (v := 1) (by decide) ?_
    refine V.invv (z := mX10_finds) (As := [_]) dX10_count_108 rfl mlRX10_131 okX10_finds npX10_finds rfl rfl rfl ⟨by decide, by decide⟩ (Nat.le_of_ble_eq_true rfl) rfl (Nat.le_of_ble_eq_true rfl) (c_fnd1   ?_)
    show V rS g (d + 2) mX10_count 111 [some (.ref 83), some (.int a)] [.int (-1000000001 : Int32)] (put M 87 1 (M 87 1 + 1)) Q
    exact V.ret dX10_count_111 rfl (hbad (fun z => by simp only [Int32.lt_iff_toInt_lt, Int32.le_iff_toInt_le, ← Int32.toInt_inj, Int32.reduceToInt] at *; omega))
set_option maxHeartbeats 4000000 in
set_option maxRecDepth 100000 in
theorem c10_bell {g : GG} {d : Nat} {M : Mem} {Q : Option Value → Mem → Prop} {a s l : Int32} {n : Nat} (hn : M 84 103 = nI n) (h8 : n ≤ 8) (hbad : ¬ ((0 ≤ a ∧ a / 100 ≤ 6 ∧ (a - a / 100 * 100) ≤ 23) ∧ (0 ≤ s ∧ s ≤ 99) ∧ 0 ≤ l ∧ l ≤ 99) → Q (some (.int (-1000000001))) (put M 87 1 (M 87 1 + 1))) (hfull : ((0 ≤ a ∧ a / 100 ≤ 6 ∧ (a - a / 100 * 100) ≤ 23) ∧ (0 ≤ s ∧ s ≤ 99) ∧ 0 ≤ l ∧ l ≤ 99) → n = 8 → Q (some (.int (-1000000004))) (put M 87 4 (M 87 4 + 1))) (hok : ((0 ≤ a ∧ a / 100 ≤ 6 ∧ (a - a / 100 * 100) ≤ 23) ∧ (0 ≤ s ∧ s ≤ 99) ∧ 0 ≤ l ∧ l ≤ 99) → n < 8 → Q (some (.int (nI n))) (put (put (put (put (put (put (put (put M 84 (108 + 7 * n + 0) (a / 100)) 84 (108 + 7 * n + 1) (a - a / 100 * 100)) 84 (108 + 7 * n + 2) s) 84 (108 + 7 * n + 3) l) 84 (108 + 7 * n + 4) 0) 84 (108 + 7 * n + 5) 1) 84 (108 + 7 * n + 6) 0) 84 103 (nI (n + 1)))) : V rS g (d + 2) mX10_bell 0 [some (.ref 83), some (.int a), some (.int s), some (.int l)] [] M Q := by
  by_cases h : ((0 ≤ a ∧ a / 100 ≤ 6 ∧ (a - a / 100 * 100) ≤ 23) ∧ (0 ≤ s ∧ s ≤ 99) ∧ 0 ≤ l ∧ l ≤ 99)
  · by_cases hc : n < 8
    · skip
      refine V.iload_n dX10_bell_0 rfl (i := 1) rfl ?_
      refine V.if_lt (tgt := 46) dX10_bell_1 (by decide) (fun q => absurd q ((Int32.not_lt.mpr h.1.1))) (fun c1 => ?_)
      refine V.iload_n dX10_bell_4 rfl (i := 1) rfl ?_
      refine V.bipush dX10_bell_5 (v := 100) (by decide) ?_
      refine V.idiv dX10_bell_7 (by decide) ?_
      refine V.bipush dX10_bell_8 (v := 6) (by decide) ?_
      refine V.ic_gt (tgt := 46) dX10_bell_10 (by decide) (fun q => absurd q ((Int32.not_lt.mpr h.1.2.1))) (fun c10 => ?_)
      refine V.iload_n dX10_bell_13 rfl (i := 1) rfl ?_
      refine V.bipush dX10_bell_14 (v := 100) (by decide) ?_
      refine V.irem dX10_bell_16 (by decide) ?_
      refine V.bipush dX10_bell_17 (v := 23) (by decide) ?_
      refine V.ic_gt (tgt := 46) dX10_bell_19 (by decide) (fun q => absurd q ((Int32.not_lt.mpr h.1.2.2))) (fun c19 => ?_)
      refine V.iload_n dX10_bell_22 rfl (i := 2) rfl ?_
      refine V.i2l dX10_bell_23 ?_
      refine V.lconst dX10_bell_24 (v := 0) (by decide) ?_
      refine V.ldc2 dX10_bell_25 rfl clRX10_150 ?_
      refine V.invs (z := mX10_in) (As := [_, _, _]) dX10_bell_28 rfl mlRX10_66 okX10_in npX10_in rfl (Nat.le_of_ble_eq_true rfl) rfl (Nat.le_of_ble_eq_true rfl) (c_in32 (v := s) (lo := (0 : Int32)) (hi := (99 : Int32)) (by first | rfl | decide) (by first | rfl | decide)   ?_)
      show V rS g (d + 2) mX10_bell 31 [some (.ref 83), some (.int a), some (.int s), some (.int l)] [.int (b2i ((0 : Int32) ≤ s ∧ s ≤ (99 : Int32)))] M Q
      refine V.if_eq (tgt := 46) dX10_bell_31 (by decide) (fun q => absurd q ((fun z => b2i_0.mp z h.2.1))) (fun c31 => ?_)
      refine V.iload_n dX10_bell_34 rfl (i := 3) rfl ?_
      refine V.i2l dX10_bell_35 ?_
      refine V.lconst dX10_bell_36 (v := 0) (by decide) ?_
      refine V.ldc2 dX10_bell_37 rfl clRX10_150 ?_
      refine V.invs (z := mX10_in) (As := [_, _, _]) dX10_bell_40 rfl mlRX10_66 okX10_in npX10_in rfl (Nat.le_of_ble_eq_true rfl) rfl (Nat.le_of_ble_eq_true rfl) (c_in32 (v := l) (lo := (0 : Int32)) (hi := (99 : Int32)) (by first | rfl | decide) (by first | rfl | decide)   ?_)
      show V rS g (d + 2) mX10_bell 43 [some (.ref 83), some (.int a), some (.int s), some (.int l)] [.int (b2i ((0 : Int32) ≤ l ∧ l ≤ (99 : Int32)))] M Q
      refine V.if_ne (tgt := 52) dX10_bell_43 (by decide) (fun c43 => ?_) (fun q => absurd q ((fun z => b2i_0.mp z h.2.2)))
      refine V.aload_n dX10_bell_52 rfl (i := 0) rfl ?_
      refine V.getR dX10_bell_53 rfl flRX10_7 rfl ⟨by decide, by decide⟩ ?_
      refine V.bipush dX10_bell_56 (v := 103) (by decide) ?_
      refine V.top (x' := nI 103) (by decide) ?_
      refine V.ialdN dX10_bell_58 rfl ⟨by decide, by decide⟩ (by first | assumption | decide | omega) (by decide) ?_
      refine V.top (x' := (nI n)) (hn) ?_
      refine V.bipush dX10_bell_59 (v := 8) (by decide) ?_
      refine V.ic_ne (tgt := 70) dX10_bell_61 (by decide) (fun c61 => ?_) (fun q => absurd q ((fun z => absurd ((nI_eq (b := 8) (by omega) (by omega)).mp z) (by omega))))
      refine V.aload_n dX10_bell_70 rfl (i := 0) rfl ?_
      refine V.aload_n dX10_bell_71 rfl (i := 0) rfl ?_
      refine V.getR dX10_bell_72 rfl flRX10_7 rfl ⟨by decide, by decide⟩ ?_
      refine V.bipush dX10_bell_75 (v := 103) (by decide) ?_
      refine V.top (x' := nI 103) (by decide) ?_
      refine V.ialdN dX10_bell_77 rfl ⟨by decide, by decide⟩ (by first | assumption | decide | omega) (by decide) ?_
      refine V.top (x' := (nI n)) (hn) ?_
      refine V.iload_n dX10_bell_78 rfl (i := 1) rfl ?_
      refine V.bipush dX10_bell_79 (v := 100) (by decide) ?_
      refine V.idiv dX10_bell_81 (by decide) ?_
      refine V.iload_n dX10_bell_82 rfl (i := 1) rfl ?_
      refine V.bipush dX10_bell_83 (v := 100) (by decide) ?_
      refine V.irem dX10_bell_85 (by decide) ?_
      refine V.iload_n dX10_bell_86 rfl (i := 2) rfl ?_
      refine V.iload_n dX10_bell_87 rfl (i := 3) rfl ?_
      refine V.invv (z := mX10_lays) (As := [_, _, _, _, _]) dX10_bell_88 rfl mlRX10_166 okX10_lays npX10_lays rfl rfl rfl ⟨by decide, by decide⟩ (Nat.le_of_ble_eq_true rfl) rfl (Nat.le_of_ble_eq_true rfl) (c_lays (by omega) ?_)
      show V rS g (d + 2) mX10_bell 91 [some (.ref 83), some (.int a), some (.int s), some (.int l)] [] (put (put (put (put (put (put (put M 84 (108 + 7 * n + 0) (a / 100)) 84 (108 + 7 * n + 1) (a - a / 100 * 100)) 84 (108 + 7 * n + 2) s) 84 (108 + 7 * n + 3) l) 84 (108 + 7 * n + 4) 0) 84 (108 + 7 * n + 5) 1) 84 (108 + 7 * n + 6) 0) Q
      refine V.aload_n dX10_bell_91 rfl (i := 0) rfl ?_
      refine V.getR dX10_bell_92 rfl flRX10_7 rfl ⟨by decide, by decide⟩ ?_
      refine V.bipush dX10_bell_95 (v := 103) (by decide) ?_
      refine V.dup2 dX10_bell_97 rfl rfl ?_
      refine V.top (x' := nI 103) (by decide) ?_
      refine V.ialdN dX10_bell_98 rfl ⟨by decide, by decide⟩ (by first | assumption | decide | omega) (by decide) ?_
      refine V.top (x' := (nI n)) ((by rw [put_n (fun z => by omega), put_n (fun z => by omega), put_n (fun z => by omega), put_n (fun z => by omega), put_n (fun z => by omega), put_n (fun z => by omega), put_n (fun z => by omega)]; exact hn)) ?_
      refine V.iconst dX10_bell_99 (v := 1) (by decide) ?_
      refine V.iadd dX10_bell_100 ?_
      refine V.top (x' := (nI (n + 1))) (nI_add n 1) ?_
      refine V.top1 (x' := nI 103) (by decide) ?_
      refine V.iastN dX10_bell_101 rfl ⟨by decide, by decide⟩ (by first | assumption | decide | omega) (by decide) ?_
      refine V.aload_n dX10_bell_102 rfl (i := 0) rfl ?_
      refine V.getR dX10_bell_103 rfl flRX10_7 rfl ⟨by decide, by decide⟩ ?_
      refine V.bipush dX10_bell_106 (v := 103) (by decide) ?_
      refine V.top (x' := nI 103) (by decide) ?_
      refine V.ialdN dX10_bell_108 rfl ⟨by decide, by decide⟩ (by first | assumption | decide | omega) (by decide) ?_
      refine V.top (x' := (nI (n + 1))) (put_s) ?_
      refine V.iconst dX10_bell_109 (v := 1) (by decide) ?_
      refine V.isub dX10_bell_110 ?_
      exact V.ret dX10_bell_111 rfl (Qi (hok h hc) (by first | rfl | exact nI_pred n))
    · obtain rfl : n = 8 := by omega
      refine V.iload_n dX10_bell_0 rfl (i := 1) rfl ?_
      refine V.if_lt (tgt := 46) dX10_bell_1 (by decide) (fun q => absurd q ((Int32.not_lt.mpr h.1.1))) (fun c1 => ?_)
      refine V.iload_n dX10_bell_4 rfl (i := 1) rfl ?_
      refine V.bipush dX10_bell_5 (v := 100) (by decide) ?_
      refine V.idiv dX10_bell_7 (by decide) ?_
      refine V.bipush dX10_bell_8 (v := 6) (by decide) ?_
      refine V.ic_gt (tgt := 46) dX10_bell_10 (by decide) (fun q => absurd q ((Int32.not_lt.mpr h.1.2.1))) (fun c10 => ?_)
      refine V.iload_n dX10_bell_13 rfl (i := 1) rfl ?_
      refine V.bipush dX10_bell_14 (v := 100) (by decide) ?_
      refine V.irem dX10_bell_16 (by decide) ?_
      refine V.bipush dX10_bell_17 (v := 23) (by decide) ?_
      refine V.ic_gt (tgt := 46) dX10_bell_19 (by decide) (fun q => absurd q ((Int32.not_lt.mpr h.1.2.2))) (fun c19 => ?_)
      refine V.iload_n dX10_bell_22 rfl (i := 2) rfl ?_
      refine V.i2l dX10_bell_23 ?_
      refine V.lconst dX10_bell_24 (v := 0) (by decide) ?_
      refine V.ldc2 dX10_bell_25 rfl clRX10_150 ?_
      refine V.invs (z := mX10_in) (As := [_, _, _]) dX10_bell_28 rfl mlRX10_66 okX10_in npX10_in rfl (Nat.le_of_ble_eq_true rfl) rfl (Nat.le_of_ble_eq_true rfl) (c_in32 (v := s) (lo := (0 : Int32)) (hi := (99 : Int32)) (by first | rfl | decide) (by first | rfl | decide)   ?_)
      show V rS g (d + 2) mX10_bell 31 [some (.ref 83), some (.int a), some (.int s), some (.int l)] [.int (b2i ((0 : Int32) ≤ s ∧ s ≤ (99 : Int32)))] M Q
      refine V.if_eq (tgt := 46) dX10_bell_31 (by decide) (fun q => absurd q ((fun z => b2i_0.mp z h.2.1))) (fun c31 => ?_)
      refine V.iload_n dX10_bell_34 rfl (i := 3) rfl ?_
      refine V.i2l dX10_bell_35 ?_
      refine V.lconst dX10_bell_36 (v := 0) (by decide) ?_
      refine V.ldc2 dX10_bell_37 rfl clRX10_150 ?_
      refine V.invs (z := mX10_in) (As := [_, _, _]) dX10_bell_40 rfl mlRX10_66 okX10_in npX10_in rfl (Nat.le_of_ble_eq_true rfl) rfl (Nat.le_of_ble_eq_true rfl) (c_in32 (v := l) (lo := (0 : Int32)) (hi := (99 : Int32)) (by first | rfl | decide) (by first | rfl | decide)   ?_)
      show V rS g (d + 2) mX10_bell 43 [some (.ref 83), some (.int a), some (.int s), some (.int l)] [.int (b2i ((0 : Int32) ≤ l ∧ l ≤ (99 : Int32)))] M Q
      refine V.if_ne (tgt := 52) dX10_bell_43 (by decide) (fun c43 => ?_) (fun q => absurd q ((fun z => b2i_0.mp z h.2.2)))
      refine V.aload_n dX10_bell_52 rfl (i := 0) rfl ?_
      refine V.getR dX10_bell_53 rfl flRX10_7 rfl ⟨by decide, by decide⟩ ?_
      refine V.bipush dX10_bell_56 (v := 103) (by decide) ?_
      refine V.top (x' := nI 103) (by decide) ?_
      refine V.ialdN dX10_bell_58 rfl ⟨by decide, by decide⟩ (by first | assumption | decide | omega) (by decide) ?_
      refine V.top (x' := (nI 8)) (hn) ?_
      refine V.bipush dX10_bell_59 (v := 8) (by decide) ?_
      refine V.ic_ne (tgt := 70) dX10_bell_61 (by decide) (fun q => absurd (rfl) q) (fun c61 => ?_)
      refine V.aload_n dX10_bell_64 rfl (i := 0) rfl ?_
      refine V.iconst dX10_bell_65 (v := 4) (by decide) ?_
      refine V.invv (z := mX10_finds) (As := [_]) dX10_bell_66 rfl mlRX10_131 okX10_finds npX10_finds rfl rfl rfl ⟨by decide, by decide⟩ (Nat.le_of_ble_eq_true rfl) rfl (Nat.le_of_ble_eq_true rfl) (c_fnd4   ?_)
      show V rS g (d + 2) mX10_bell 69 [some (.ref 83), some (.int a), some (.int s), some (.int l)] [.int (-1000000004 : Int32)] (put M 87 4 (M 87 4 + 1)) Q
      exact V.ret dX10_bell_69 rfl (hfull h rfl)
  · skip
    refine V.iload_n dX10_bell_0 rfl (i := 1) rfl ?_
    refine V.if_lt (tgt := 46) dX10_bell_1 (by decide) (fun c1 => ?_) (fun c1 => ?_)
    · refine V.aload_n dX10_bell_46 rfl (i := 0) rfl ?_
      refine V.iconst dX10_bell_47 (v := 1) (by decide) ?_
      refine V.invv (z := mX10_finds) (As := [_]) dX10_bell_48 rfl mlRX10_131 okX10_finds npX10_finds rfl rfl rfl ⟨by decide, by decide⟩ (Nat.le_of_ble_eq_true rfl) rfl (Nat.le_of_ble_eq_true rfl) (c_fnd1   ?_)
      show V rS g (d + 2) mX10_bell 51 [some (.ref 83), some (.int a), some (.int s), some (.int l)] [.int (-1000000001 : Int32)] (put M 87 1 (M 87 1 + 1)) Q
      exact V.ret dX10_bell_51 rfl (hbad h)
    · refine V.iload_n dX10_bell_4 rfl (i := 1) rfl ?_
      refine V.bipush dX10_bell_5 (v := 100) (by decide) ?_
      refine V.idiv dX10_bell_7 (by decide) ?_
      refine V.bipush dX10_bell_8 (v := 6) (by decide) ?_
      refine V.ic_gt (tgt := 46) dX10_bell_10 (by decide) (fun c10 => ?_) (fun c10 => ?_)
      · refine V.aload_n dX10_bell_46 rfl (i := 0) rfl ?_
        refine V.iconst dX10_bell_47 (v := 1) (by decide) ?_
        refine V.invv (z := mX10_finds) (As := [_]) dX10_bell_48 rfl mlRX10_131 okX10_finds npX10_finds rfl rfl rfl ⟨by decide, by decide⟩ (Nat.le_of_ble_eq_true rfl) rfl (Nat.le_of_ble_eq_true rfl) (c_fnd1   ?_)
        show V rS g (d + 2) mX10_bell 51 [some (.ref 83), some (.int a), some (.int s), some (.int l)] [.int (-1000000001 : Int32)] (put M 87 1 (M 87 1 + 1)) Q
        exact V.ret dX10_bell_51 rfl (hbad h)
      · refine V.iload_n dX10_bell_13 rfl (i := 1) rfl ?_
        refine V.bipush dX10_bell_14 (v := 100) (by decide) ?_
        refine V.irem dX10_bell_16 (by decide) ?_
        refine V.bipush dX10_bell_17 (v := 23) (by decide) ?_
        refine V.ic_gt (tgt := 46) dX10_bell_19 (by decide) (fun c19 => ?_) (fun c19 => ?_)
        · refine V.aload_n dX10_bell_46 rfl (i := 0) rfl ?_
          refine V.iconst dX10_bell_47 (v := 1) (by decide) ?_
          refine V.invv (z := mX10_finds) (As := [_]) dX10_bell_48 rfl mlRX10_131 okX10_finds npX10_finds rfl rfl rfl ⟨by decide, by decide⟩ (Nat.le_of_ble_eq_true rfl) rfl (Nat.le_of_ble_eq_true rfl) (c_fnd1   ?_)
          show V rS g (d + 2) mX10_bell 51 [some (.ref 83), some (.int a), some (.int s), some (.int l)] [.int (-1000000001 : Int32)] (put M 87 1 (M 87 1 + 1)) Q
          exact V.ret dX10_bell_51 rfl (hbad h)
        · refine V.iload_n dX10_bell_22 rfl (i := 2) rfl ?_
          refine V.i2l dX10_bell_23 ?_
          refine V.lconst dX10_bell_24 (v := 0) (by decide) ?_
          refine V.ldc2 dX10_bell_25 rfl clRX10_150 ?_
          refine V.invs (z := mX10_in) (As := [_, _, _]) dX10_bell_28 rfl mlRX10_66 okX10_in npX10_in rfl (Nat.le_of_ble_eq_true rfl) rfl (Nat.le_of_ble_eq_true rfl) (c_in32 (v := s) (lo := (0 : Int32)) (hi := (99 : Int32)) (by first | rfl | decide) (by first | rfl | decide)   ?_)
          show V rS g (d + 2) mX10_bell 31 [some (.ref 83), some (.int a), some (.int s), some (.int l)] [.int (b2i ((0 : Int32) ≤ s ∧ s ≤ (99 : Int32)))] M Q
          refine V.if_eq (tgt := 46) dX10_bell_31 (by decide) (fun c31 => ?_) (fun c31 => ?_)
          · refine V.aload_n dX10_bell_46 rfl (i := 0) rfl ?_
            refine V.iconst dX10_bell_47 (v := 1) (by decide) ?_
            refine V.invv (z := mX10_finds) (As := [_]) dX10_bell_48 rfl mlRX10_131 okX10_finds npX10_finds rfl rfl rfl ⟨by decide, by decide⟩ (Nat.le_of_ble_eq_true rfl) rfl (Nat.le_of_ble_eq_true rfl) (c_fnd1   ?_)
            show V rS g (d + 2) mX10_bell 51 [some (.ref 83), some (.int a), some (.int s), some (.int l)] [.int (-1000000001 : Int32)] (put M 87 1 (M 87 1 + 1)) Q
            exact V.ret dX10_bell_51 rfl (hbad h)
          · refine V.iload_n dX10_bell_34 rfl (i := 3) rfl ?_
            refine V.i2l dX10_bell_35 ?_
            refine V.lconst dX10_bell_36 (v := 0) (by decide) ?_
            refine V.ldc2 dX10_bell_37 rfl clRX10_150 ?_
            refine V.invs (z := mX10_in) (As := [_, _, _]) dX10_bell_40 rfl mlRX10_66 okX10_in npX10_in rfl (Nat.le_of_ble_eq_true rfl) rfl (Nat.le_of_ble_eq_true rfl) (c_in32 (v := l) (lo := (0 : Int32)) (hi := (99 : Int32)) (by first | rfl | decide) (by first | rfl | decide)   ?_)
            show V rS g (d + 2) mX10_bell 43 [some (.ref 83), some (.int a), some (.int s), some (.int l)] [.int (b2i ((0 : Int32) ≤ l ∧ l ≤ (99 : Int32)))] M Q
            refine V.if_ne (tgt := 52) dX10_bell_43 (by decide) (fun c43 => ?_) (fun c43 => ?_)
            · exact absurd ⟨⟨Int32.not_lt.mp c1, Int32.not_lt.mp c10, Int32.not_lt.mp c19⟩, (Classical.byContradiction fun z => c31 (b2i_f z)), (Classical.byContradiction fun z => c43 (b2i_f z))⟩ h
            · refine V.aload_n dX10_bell_46 rfl (i := 0) rfl ?_
              refine V.iconst dX10_bell_47 (v := 1) (by decide) ?_
              refine V.invv (z := mX10_finds) (As := [_]) dX10_bell_48 rfl mlRX10_131 okX10_finds npX10_finds rfl rfl rfl ⟨by decide, by decide⟩ (Nat.le_of_ble_eq_true rfl) rfl (Nat.le_of_ble_eq_true rfl) (c_fnd1   ?_)
              show V rS g (d + 2) mX10_bell 51 [some (.ref 83), some (.int a), some (.int s), some (.int l)] [.int (-1000000001 : Int32)] (put M 87 1 (M 87 1 + 1)) Q
              exact V.ret dX10_bell_51 rfl (hbad h)

