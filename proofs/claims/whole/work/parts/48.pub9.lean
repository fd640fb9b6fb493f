/-! ===== public methods: bell, days, hangs ===== -/
set_option maxHeartbeats 4000000 in
set_option maxRecDepth 100000 in
theorem c9_bell {g : GG} {d : Nat} {M : Mem} {Q : Option Value → Mem → Prop} {a s l : Int32} {n : Nat} (hn : M 1 2 = nI n) (h8 : n ≤ 8) (hbad : ¬ ((0 ≤ a ∧ a / 100 < 7 ∧ (a - a / 100 * 100) < 24) ∧ (0 ≤ s ∧ s ≤ 99) ∧ 0 ≤ l ∧ l ≤ 99) → Q (some (.int (-1000000001))) (put M 9 1 (M 9 1 + 1))) (hfull : ((0 ≤ a ∧ a / 100 < 7 ∧ (a - a / 100 * 100) < 24) ∧ (0 ≤ s ∧ s ≤ 99) ∧ 0 ≤ l ∧ l ≤ 99) → n = 8 → Q (some (.int (-1000000004))) (put M 9 4 (M 9 4 + 1))) (hok : ((0 ≤ a ∧ a / 100 < 7 ∧ (a - a / 100 * 100) < 24) ∧ (0 ≤ s ∧ s ≤ 99) ∧ 0 ≤ l ∧ l ≤ 99) → n < 8 → Q (some (.int (nI n))) (put (put (put (put (put (put (put (put M (30 + n) 0 (a / 100)) (30 + n) 1 (a - a / 100 * 100)) (30 + n) 2 s) (30 + n) 3 l) (30 + n) 4 0) (30 + n) 5 1) (30 + n) 6 0) 1 2 (nI (n + 1)))) : V cS g (d + 2) mX9_bell 0 [some (.ref 0), some (.int a), some (.int s), some (.int l)] [] M Q := by
  by_cases h : ((0 ≤ a ∧ a / 100 < 7 ∧ (a - a / 100 * 100) < 24) ∧ (0 ≤ s ∧ s ≤ 99) ∧ 0 ≤ l ∧ l ≤ 99)
  · by_cases q : n < 8
    · skip
      refine V.iload_n dX9_bell_0 rfl (i := 1) rfl ?_
      refine V.if_lt (tgt := 22) dX9_bell_1 (by decide) (fun q => absurd q ((Int32.not_lt.mpr h.1.1))) (fun c1 => ?_)
      refine V.iload_n dX9_bell_4 rfl (i := 1) rfl ?_
      refine V.bipush dX9_bell_5 (v := 100) (by decide) ?_
      refine V.idiv dX9_bell_7 (by first | assumption | decide | omega) ?_
      refine V.bipush dX9_bell_8 (v := 7) (by decide) ?_
      refine V.ic_ge (tgt := 22) dX9_bell_10 (by decide) (fun q => absurd q ((Int32.not_le.mpr h.1.2.1))) (fun c10 => ?_)
      refine V.iload_n dX9_bell_13 rfl (i := 1) rfl ?_
      refine V.bipush dX9_bell_14 (v := 100) (by decide) ?_
      refine V.irem dX9_bell_16 (by first | assumption | decide | omega) ?_
      refine V.bipush dX9_bell_17 (v := 24) (by decide) ?_
      refine V.ic_lt (tgt := 29) dX9_bell_19 (by decide) (fun c19 => ?_) (fun q => absurd ((h.1.2.2)) q)
      refine V.iload_n dX9_bell_29 rfl (i := 2) rfl ?_
      refine V.invs (z := mX9_isSpot) (As := [_]) dX9_bell_30 rfl mlRX9_77 okX9_isSpot npX9_isSpot rfl (Nat.le_of_ble_eq_true rfl) rfl (Nat.le_of_ble_eq_true rfl) (c_isSpot   ?_)
      show V cS g (d + 2) mX9_bell 33 [some (.ref 0), some (.int a), some (.int s), some (.int l)] [.int (b2i (0 ≤ s ∧ s ≤ 99))] (M) Q
      refine V.if_eq (tgt := 46) dX9_bell_33 (by decide) (fun q => absurd q ((fun z => b2i_0.mp z h.2.1))) (fun c33 => ?_)
      refine V.iload_n dX9_bell_36 rfl (i := 3) rfl ?_
      refine V.if_lt (tgt := 46) dX9_bell_37 (by decide) (fun q => absurd q ((Int32.not_lt.mpr h.2.2.1))) (fun c37 => ?_)
      refine V.iload_n dX9_bell_40 rfl (i := 3) rfl ?_
      refine V.bipush dX9_bell_41 (v := 99) (by decide) ?_
      refine V.ic_le (tgt := 53) dX9_bell_43 (by decide) (fun c43 => ?_) (fun q => absurd ((h.2.2.2)) q)
      refine V.aload_n dX9_bell_53 rfl (i := 0) rfl ?_
      refine V.getR dX9_bell_54 rfl flRX9_12 rfl ⟨by decide, by decide⟩ ?_
      refine V.getI dX9_bell_57 rfl flRX9_104 rfl ⟨by decide, by decide⟩ ?_
      refine V.top (x' := (nI n)) (hn) ?_
      refine V.bipush dX9_bell_60 (v := 8) (by decide) ?_
      refine V.ic_lt (tgt := 72) dX9_bell_62 (by decide) (fun c62 => ?_) (fun q => absurd ((nI_lt (b := 8) (by omega) (by omega))) q)
      refine V.aload_n dX9_bell_72 rfl (i := 0) rfl ?_
      refine V.getR dX9_bell_73 rfl flRX9_12 rfl ⟨by decide, by decide⟩ ?_
      refine V.getR dX9_bell_76 rfl flRX9_108 rfl ⟨by decide, by decide⟩ ?_
      refine V.aload_n dX9_bell_79 rfl (i := 0) rfl ?_
      refine V.getR dX9_bell_80 rfl flRX9_12 rfl ⟨by decide, by decide⟩ ?_
      refine V.getI dX9_bell_83 rfl flRX9_104 rfl ⟨by decide, by decide⟩ ?_
      refine V.top (x' := (nI n)) (hn) ?_
      refine V.aaldBN dX9_bell_86 rfl ⟨by decide, by decide⟩ (by first | assumption | decide | omega) (by decide) ?_
      refine V.iload_n dX9_bell_87 rfl (i := 1) rfl ?_
      refine V.bipush dX9_bell_88 (v := 100) (by decide) ?_
      refine V.idiv dX9_bell_90 (by first | assumption | decide | omega) ?_
      refine V.iload_n dX9_bell_91 rfl (i := 1) rfl ?_
      refine V.bipush dX9_bell_92 (v := 100) (by decide) ?_
      refine V.irem dX9_bell_94 (by first | assumption | decide | omega) ?_
      refine V.iload_n dX9_bell_95 rfl (i := 2) rfl ?_
      refine V.iload_n dX9_bell_96 rfl (i := 3) rfl ?_
      refine V.invv (z := mX0_begin) (As := [_, _, _, _]) dX9_bell_97 rfl mlRX9_112 okX0_begin npX0_begin rfl (layO30 (by first | assumption | decide | omega)) rfl (inB30 (by first | assumption | decide | omega)) (Nat.le_of_ble_eq_true rfl) rfl (Nat.le_of_ble_eq_true rfl) (c_begin q ?_)
      show V cS g (d + 2) mX9_bell 100 [some (.ref 0), some (.int a), some (.int s), some (.int l)] [] (put (put (put (put (put (put (put M (30 + n) 0 (a / 100)) (30 + n) 1 (a - a / 100 * 100)) (30 + n) 2 s) (30 + n) 3 l) (30 + n) 4 0) (30 + n) 5 1) (30 + n) 6 0) Q
      refine V.aload_n dX9_bell_100 rfl (i := 0) rfl ?_
      refine V.getR dX9_bell_101 rfl flRX9_12 rfl ⟨by decide, by decide⟩ ?_
      refine V.dup dX9_bell_104 rfl ?_
      refine V.getI dX9_bell_105 rfl flRX9_104 rfl ⟨by decide, by decide⟩ ?_
      refine V.top (x' := (nI n)) ((by rw [put_cell (by omega), put_cell (by omega), put_cell (by omega), put_cell (by omega), put_cell (by omega), put_cell (by omega), put_cell (by omega)]; exact hn)) ?_
      refine V.iconst dX9_bell_108 (v := 1) (by decide) ?_
      refine V.iadd dX9_bell_109 ?_
      refine V.top (x' := (nI (n + 1))) (nI_add n 1) ?_
      refine V.putI dX9_bell_110 rfl fpRX9_104 rfl ⟨by decide, by decide⟩ ?_
      refine V.aload_n dX9_bell_113 rfl (i := 0) rfl ?_
      refine V.getR dX9_bell_114 rfl flRX9_12 rfl ⟨by decide, by decide⟩ ?_
      refine V.getI dX9_bell_117 rfl flRX9_104 rfl ⟨by decide, by decide⟩ ?_
      refine V.top (x' := (nI (n + 1))) ((put_s)) ?_
      refine V.iconst dX9_bell_120 (v := 1) (by decide) ?_
      refine V.isub dX9_bell_121 ?_
      exact V.ret dX9_bell_122 rfl (Qi (hok h q) (by first | rfl | exact nI_pred n))
    · obtain rfl : n = 8 := by omega
      refine V.iload_n dX9_bell_0 rfl (i := 1) rfl ?_
      refine V.if_lt (tgt := 22) dX9_bell_1 (by decide) (fun q => absurd q ((Int32.not_lt.mpr h.1.1))) (fun c1 => ?_)
      refine V.iload_n dX9_bell_4 rfl (i := 1) rfl ?_
      refine V.bipush dX9_bell_5 (v := 100) (by decide) ?_
      refine V.idiv dX9_bell_7 (by first | assumption | decide | omega) ?_
      refine V.bipush dX9_bell_8 (v := 7) (by decide) ?_
      refine V.ic_ge (tgt := 22) dX9_bell_10 (by decide) (fun q => absurd q ((Int32.not_le.mpr h.1.2.1))) (fun c10 => ?_)
      refine V.iload_n dX9_bell_13 rfl (i := 1) rfl ?_
      refine V.bipush dX9_bell_14 (v := 100) (by decide) ?_
      refine V.irem dX9_bell_16 (by first | assumption | decide | omega) ?_
      refine V.bipush dX9_bell_17 (v := 24) (by decide) ?_
      refine V.ic_lt (tgt := 29) dX9_bell_19 (by decide) (fun c19 => ?_) (fun q => absurd ((h.1.2.2)) q)
      refine V.iload_n dX9_bell_29 rfl (i := 2) rfl ?_
      refine V.invs (z := mX9_isSpot) (As := [_]) dX9_bell_30 rfl mlRX9_77 okX9_isSpot npX9_isSpot rfl (Nat.le_of_ble_eq_true rfl) rfl (Nat.le_of_ble_eq_true rfl) (c_isSpot   ?_)
      show V cS g (d + 2) mX9_bell 33 [some (.ref 0), some (.int a), some (.int s), some (.int l)] [.int (b2i (0 ≤ s ∧ s ≤ 99))] (M) Q
      refine V.if_eq (tgt := 46) dX9_bell_33 (by decide) (fun q => absurd q ((fun z => b2i_0.mp z h.2.1))) (fun c33 => ?_)
      refine V.iload_n dX9_bell_36 rfl (i := 3) rfl ?_
      refine V.if_lt (tgt := 46) dX9_bell_37 (by decide) (fun q => absurd q ((Int32.not_lt.mpr h.2.2.1))) (fun c37 => ?_)
      refine V.iload_n dX9_bell_40 rfl (i := 3) rfl ?_
      refine V.bipush dX9_bell_41 (v := 99) (by decide) ?_
      refine V.ic_le (tgt := 53) dX9_bell_43 (by decide) (fun c43 => ?_) (fun q => absurd ((h.2.2.2)) q)
      refine V.aload_n dX9_bell_53 rfl (i := 0) rfl ?_
      refine V.getR dX9_bell_54 rfl flRX9_12 rfl ⟨by decide, by decide⟩ ?_
      refine V.getI dX9_bell_57 rfl flRX9_104 rfl ⟨by decide, by decide⟩ ?_
      refine V.top (x' := (nI 8)) (hn) ?_
      refine V.bipush dX9_bell_60 (v := 8) (by decide) ?_
      refine V.ic_lt (tgt := 72) dX9_bell_62 (by decide) (fun q => absurd q ((by decide))) (fun c62 => ?_)
      refine V.aload_n dX9_bell_65 rfl (i := 0) rfl ?_
      refine V.ldc dX9_bell_66 rfl ctRX9_107 ?_
      refine V.invv (z := mX9_error) (As := [_]) dX9_bell_68 rfl mlRX9_82 okX9_error npX9_error rfl rfl rfl ⟨by decide, by decide⟩ (Nat.le_of_ble_eq_true rfl) rfl (Nat.le_of_ble_eq_true rfl) (c_err4   ?_)
      show V cS g (d + 2) mX9_bell 71 [some (.ref 0), some (.int a), some (.int s), some (.int l)] [.int (-1000000004 : Int32)] (put (M) 9 4 ((M) 9 4 + 1)) Q
      exact V.ret dX9_bell_71 rfl (hfull h rfl)
  · skip
    refine V.iload_n dX9_bell_0 rfl (i := 1) rfl ?_
    refine V.if_lt (tgt := 22) dX9_bell_1 (by decide) (fun c1 => ?_) (fun c1 => ?_)
    · refine V.aload_n dX9_bell_22 rfl (i := 0) rfl ?_
      refine V.ldc dX9_bell_23 rfl ctRX9_81 ?_
      refine V.invv (z := mX9_error) (As := [_]) dX9_bell_25 rfl mlRX9_82 okX9_error npX9_error rfl rfl rfl ⟨by decide, by decide⟩ (Nat.le_of_ble_eq_true rfl) rfl (Nat.le_of_ble_eq_true rfl) (c_err1   ?_)
      show V cS g (d + 2) mX9_bell 28 [some (.ref 0), some (.int a), some (.int s), some (.int l)] [.int (-1000000001 : Int32)] (put M 9 1 (M 9 1 + 1)) Q
      exact V.ret dX9_bell_28 rfl (hbad h)
    · refine V.iload_n dX9_bell_4 rfl (i := 1) rfl ?_
      refine V.bipush dX9_bell_5 (v := 100) (by decide) ?_
      refine V.idiv dX9_bell_7 (by first | assumption | decide | omega) ?_
      refine V.bipush dX9_bell_8 (v := 7) (by decide) ?_
      refine V.ic_ge (tgt := 22) dX9_bell_10 (by decide) (fun c10 => ?_) (fun c10 => ?_)
      · refine V.aload_n dX9_bell_22 rfl (i := 0) rfl ?_
        refine V.ldc dX9_bell_23 rfl ctRX9_81 ?_
        refine V.invv (z := mX9_error) (As := [_]) dX9_bell_25 rfl mlRX9_82 okX9_error npX9_error rfl rfl rfl ⟨by decide, by decide⟩ (Nat.le_of_ble_eq_true rfl) rfl (Nat.le_of_ble_eq_true rfl) (c_err1   ?_)
        show V cS g (d + 2) mX9_bell 28 [some (.ref 0), some (.int a), some (.int s), some (.int l)] [.int (-1000000001 : Int32)] (put M 9 1 (M 9 1 + 1)) Q
        exact V.ret dX9_bell_28 rfl (hbad h)
      · refine V.iload_n dX9_bell_13 rfl (i := 1) rfl ?_
        refine V.bipush dX9_bell_14 (v := 100) (by decide) ?_
        refine V.irem dX9_bell_16 (by first | assumption | decide | omega) ?_
        refine V.bipush dX9_bell_17 (v := 24) (by decide) ?_
        refine V.ic_lt (tgt := 29) dX9_bell_19 (by decide) (fun c19 => ?_) (fun c19 => ?_)
        · refine V.iload_n dX9_bell_29 rfl (i := 2) rfl ?_
          refine V.invs (z := mX9_isSpot) (As := [_]) dX9_bell_30 rfl mlRX9_77 okX9_isSpot npX9_isSpot rfl (Nat.le_of_ble_eq_true rfl) rfl (Nat.le_of_ble_eq_true rfl) (c_isSpot   ?_)
          show V cS g (d + 2) mX9_bell 33 [some (.ref 0), some (.int a), some (.int s), some (.int l)] [.int (b2i (0 ≤ s ∧ s ≤ 99))] (M) Q
          refine V.if_eq (tgt := 46) dX9_bell_33 (by decide) (fun c33 => ?_) (fun c33 => ?_)
          · refine V.aload_n dX9_bell_46 rfl (i := 0) rfl ?_
            refine V.ldc dX9_bell_47 rfl ctRX9_81 ?_
            refine V.invv (z := mX9_error) (As := [_]) dX9_bell_49 rfl mlRX9_82 okX9_error npX9_error rfl rfl rfl ⟨by decide, by decide⟩ (Nat.le_of_ble_eq_true rfl) rfl (Nat.le_of_ble_eq_true rfl) (c_err1   ?_)
            show V cS g (d + 2) mX9_bell 52 [some (.ref 0), some (.int a), some (.int s), some (.int l)] [.int (-1000000001 : Int32)] (put (M) 9 1 ((M) 9 1 + 1)) Q
            exact V.ret dX9_bell_52 rfl (hbad h)
          · refine V.iload_n dX9_bell_36 rfl (i := 3) rfl ?_
            refine V.if_lt (tgt := 46) dX9_bell_37 (by decide) (fun c37 => ?_) (fun c37 => ?_)
            · refine V.aload_n dX9_bell_46 rfl (i := 0) rfl ?_
              refine V.ldc dX9_bell_47 rfl ctRX9_81 ?_
              refine V.invv (z := mX9_error) (As := [_]) dX9_bell_49 rfl mlRX9_82 okX9_error npX9_error rfl rfl rfl ⟨by decide, by decide⟩ (Nat.le_of_ble_eq_true rfl) rfl (Nat.le_of_ble_eq_true rfl) (c_err1   ?_)
              show V cS g (d + 2) mX9_bell 52 [some (.ref 0), some (.int a), some (.int s), some (.int l)] [.int (-1000000001 : Int32)] (put (M) 9 1 ((M) 9 1 + 1)) Q
              exact V.ret dX9_bell_52 rfl (hbad h)
            · refine V.iload_n dX9_bell_40 rfl (i := 3) rfl ?_
              refine V.bipush dX9_bell_41 (v := 99) (by decide) ?_
              refine V.ic_le (tgt := 53) dX9_bell_43 (by decide) (fun c43 => ?_) (fun c43 => ?_)
              · exact absurd ⟨⟨Int32.not_lt.mp c1, Int32.not_le.mp c10, c19⟩, (Classical.byContradiction fun z => c33 (b2i_f z)), Int32.not_lt.mp c37, c43⟩ h
              · refine V.aload_n dX9_bell_46 rfl (i := 0) rfl ?_
                refine V.ldc dX9_bell_47 rfl ctRX9_81 ?_
                refine V.invv (z := mX9_error) (As := [_]) dX9_bell_49 rfl mlRX9_82 okX9_error npX9_error rfl rfl rfl ⟨by decide, by decide⟩ (Nat.le_of_ble_eq_true rfl) rfl (Nat.le_of_ble_eq_true rfl) (c_err1   ?_)
                show V cS g (d + 2) mX9_bell 52 [some (.ref 0), some (.int a), some (.int s), some (.int l)] [.int (-1000000001 : Int32)] (put (M) 9 1 ((M) 9 1 + 1)) Q
                exact V.ret dX9_bell_52 rfl (hbad h)
        · refine V.aload_n dX9_bell_22 rfl (i := 0) rfl ?_
          refine V.ldc dX9_bell_23 rfl ctRX9_81 ?_
          refine V.invv (z := mX9_error) (As := [_]) dX9_bell_25 rfl mlRX9_82 okX9_error npX9_error rfl rfl rfl ⟨by decide, by decide⟩ (Nat.le_of_ble_eq_true rfl) rfl (Nat.le_of_ble_eq_true rfl) (c_err1   ?_)
          show V cS g (d + 2) mX9_bell 28 [some (.ref 0), some (.int a), some (.int s), some (.int l)] [.int (-1000000001 : Int32)] (put M 9 1 (M 9 1 + 1)) Q
          exact V.ret dX9_bell_28 rfl (hbad h)

