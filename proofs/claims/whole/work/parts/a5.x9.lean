/-! ===== OneBreath's constructor: its contract ===== -/
set_option maxHeartbeats 4000000 in
set_option maxRecDepth 100000 in
theorem k_X9 {g : GG} {q : Nat} : CT g (Cz g) mX9_init 63 [] q (.inr (9, [.null, .null, .null, .null, .null, .null, .null, .null, .null, .int 0])) (fun B => ∃ ad M, ad 0 = q ∧ (∀ k, 200 ≤ k → ad k = g.2.2.1 k) ∧ B = wdl cS (g.1, g.2.1, ad, g.2.2.2) M ∧ Ini M) 82 2135 := by
  refine N.ct miX_X9 rfl (ls0 := [some (.ref q)]) rfl (Nat.le_of_ble_eq_true rfl) (fun A => ?_)
  refine N.aload dX9_init_0 rfl (i := 0) rfl ?_
  refine N.obj dX9_init_1 rfl oiL_RX9 (by decide) ?_
  refine N.aload dX9_init_4 rfl (i := 0) rfl ?_
  refine N.new dX9_init_5 rfl (ci := 7) rfl inG7 tyX7_ok ckRX9_9 insRX7 iniRX7 rawX7 (by decide) (by decide) (fun q5 => ?_)
  refine N.dup dX9_init_8 rfl ?_
  refine N.call (F := 63) (mc := 82) (ms := 2135) (cells := 1) (slots := 16) (y := mX9_init) (own := RX9) (z := mX7_init) (q := q5) (st := [.ref q5, .ref q]) (As := []) (raw := .inr (7, [.null, .null, .int 0, .null, .int 0, .int 0, .int 0, .int 0, .null, .int 0, .null, .null, .int 0, .null, .int 0, .null])) (ws := [(q, .inr (9, [.null, .null, .null, .null, .null, .null, .null, .null, .null, .int 0]))]) dX9_init_9 rfl (Or.inl mlRX9_11) miX_X7 rfl npX7_init rfl (k_X7) E0_ok (fun _ _ _ _ _ _ _ _ _ => trivial) (by decide) (by decide) (by decide) (Nat.le_of_ble_eq_true rfl) (fun B9 hB9 => ?_)
  obtain ⟨f9, rfl⟩ := hB9
  refine N.putF dX9_init_12 rfl (ci := 9) rfl inG9 tyX9_ok nmX9 (k := 0) (by decide) flw_9_12 rfl rfl (q0 := 0) rfl rfl rfl (Nat.le_of_ble_eq_true rfl) (ws' := ([(q, .inr (9, [.ref q5, .null, .null, .null, .null, .null, .null, .null, .null, .int 0]))] ++ bX7 g q5 f9)) rfl ?_
  refine N.aload dX9_init_15 rfl (i := 0) rfl ?_
  refine N.new dX9_init_16 rfl (ci := 7) rfl inG7 tyX7_ok ckRX9_9 insRX7 iniRX7 rawX7 (by decide) (by decide) (fun q16 => ?_)
  refine N.dup dX9_init_19 rfl ?_
  refine N.call (F := 63) (mc := 82) (ms := 2135) (cells := 24) (slots := 503) (y := mX9_init) (own := RX9) (z := mX7_init) (q := q16) (st := [.ref q16, .ref q]) (As := []) (raw := .inr (7, [.null, .null, .int 0, .null, .int 0, .int 0, .int 0, .int 0, .null, .int 0, .null, .null, .int 0, .null, .int 0, .null])) (ws := ([(q, .inr (9, [.ref q5, .null, .null, .null, .null, .null, .null, .null, .null, .int 0]))] ++ bX7 g q5 f9)) dX9_init_20 rfl (Or.inl mlRX9_11) miX_X7 rfl npX7_init rfl (k_X7) E0_ok (fun _ _ _ _ _ _ _ _ _ => trivial) (by decide) (by decide) (by decide) (Nat.le_of_ble_eq_true rfl) (fun B20 hB20 => ?_)
  obtain ⟨f20, rfl⟩ := hB20
  refine N.putF dX9_init_23 rfl (ci := 9) rfl inG9 tyX9_ok nmX9 (k := 1) (by decide) flw_9_16 rfl rfl (q0 := 0) rfl rfl rfl (Nat.le_of_ble_eq_true rfl) (ws' := (([(q, .inr (9, [.ref q5, .ref q16, .null, .null, .null, .null, .null, .null, .null, .int 0]))] ++ bX7 g q5 f9) ++ bX7 g q16 f20)) rfl ?_
  refine N.aload dX9_init_26 rfl (i := 0) rfl ?_
  refine N.new dX9_init_27 rfl (ci := 3) rfl inG3 tyX3_ok ckRX9_19 insRX3 iniRX3 rawX3 (by decide) (by decide) (fun q27 => ?_)
  refine N.dup dX9_init_30 rfl ?_
  refine N.call (F := 63) (mc := 82) (ms := 2135) (cells := 47) (slots := 979) (y := mX9_init) (own := RX9) (z := mX3_init) (q := q27) (st := [.ref q27, .ref q]) (As := []) (raw := .inr (3, [.null, .null, .int 0, .int 0, .null])) (ws := (([(q, .inr (9, [.ref q5, .ref q16, .null, .null, .null, .null, .null, .null, .null, .int 0]))] ++ bX7 g q5 f9) ++ bX7 g q16 f20)) dX9_init_31 rfl (Or.inr ⟨"OneBreath", List.mem_of_getElem? (i := 2) rfl⟩) miX_X3 rfl npX3_init rfl (k_X3) E0_ok (fun _ _ _ _ _ _ _ _ _ => trivial) (by decide) (by decide) (by decide) (Nat.le_of_ble_eq_true rfl) (fun B31 hB31 => ?_)
  obtain ⟨f31, rfl⟩ := hB31
  refine N.putF dX9_init_34 rfl (ci := 9) rfl inG9 tyX9_ok nmX9 (k := 2) (by decide) flw_9_22 rfl rfl (q0 := 0) rfl rfl rfl (Nat.le_of_ble_eq_true rfl) (ws' := ((([(q, .inr (9, [.ref q5, .ref q16, .ref q27, .null, .null, .null, .null, .null, .null, .int 0]))] ++ bX7 g q5 f9) ++ bX7 g q16 f20) ++ bX3 g q27 f31)) rfl ?_
  refine N.aload dX9_init_37 rfl (i := 0) rfl ?_
  refine N.new dX9_init_38 rfl (ci := 1) rfl inG1 tyX1_ok ckRX9_26 insRX1 iniRX1 rawX1 (by decide) (by decide) (fun q38 => ?_)
  refine N.dup dX9_init_41 rfl ?_
  refine N.aload dX9_init_42 rfl (i := 0) rfl ?_
  refine N.get dX9_init_43 rfl (ci := 9) rfl inG9 (k := 0) (by decide) flw_9_12 (q0 := 0) rfl (v := .ref q5) rfl ?_
  refine N.call (F := 63) (mc := 82) (ms := 2135) (cells := 53) (slots := 1142) (y := mX9_init) (own := RX9) (z := mX1_init) (q := q38) (st := [.ref q38, .ref q]) (As := [.ref q5]) (raw := .inr (1, [.null, .null, .null, .null])) (ws := ((([(q, .inr (9, [.ref q5, .ref q16, .ref q27, .null, .null, .null, .null, .null, .null, .int 0]))] ++ bX7 g q5 f9) ++ bX7 g q16 f20) ++ bX3 g q27 f31)) dX9_init_46 rfl (Or.inl mlRX9_28) miX_X1 rfl npX1_init rfl (k_X1 (a0 := q5)) E0_ok (fun _ _ _ _ _ _ _ _ _ => trivial) (by decide) (by decide) (by decide) (Nat.le_of_ble_eq_true rfl) (fun B46 hB46 => ?_)
  obtain ⟨f46, r46, rfl⟩ := hB46
  refine N.putF dX9_init_49 rfl (ci := 9) rfl inG9 tyX9_ok nmX9 (k := 3) (by decide) flw_9_31 rfl rfl (q0 := 0) rfl rfl rfl (Nat.le_of_ble_eq_true rfl) (ws' := (((([(q, .inr (9, [.ref q5, .ref q16, .ref q27, .ref q38, .null, .null, .null, .null, .null, .int 0]))] ++ bX7 g q5 f9) ++ bX7 g q16 f20) ++ bX3 g q27 f31) ++ bX1 g q38 f46 r46 q5)) rfl ?_
  refine N.aload dX9_init_52 rfl (i := 0) rfl ?_
  refine N.new dX9_init_53 rfl (ci := 5) rfl inG5 tyX5_ok ckRX9_35 insRX5 iniRX5 rawX5 (by decide) (by decide) (fun q53 => ?_)
  refine N.dup dX9_init_56 rfl ?_
  refine N.aload dX9_init_57 rfl (i := 0) rfl ?_
  refine N.get dX9_init_58 rfl (ci := 9) rfl inG9 (k := 0) (by decide) flw_9_12 (q0 := 0) rfl (v := .ref q5) rfl ?_
  refine N.aload dX9_init_61 rfl (i := 0) rfl ?_
  refine N.get dX9_init_62 rfl (ci := 9) rfl inG9 (k := 3) (by decide) flw_9_31 (q0 := 0) rfl (v := .ref q38) rfl ?_
  refine N.call (F := 63) (mc := 82) (ms := 2135) (cells := 65) (slots := 1269) (y := mX9_init) (own := RX9) (z := mX5_init) (q := q53) (st := [.ref q53, .ref q]) (As := [.ref q5, .ref q38]) (raw := .inr (5, [.null, .null, .null, .int 0, .null])) (ws := (((([(q, .inr (9, [.ref q5, .ref q16, .ref q27, .ref q38, .null, .null, .null, .null, .null, .int 0]))] ++ bX7 g q5 f9) ++ bX7 g q16 f20) ++ bX3 g q27 f31) ++ bX1 g q38 f46 r46 q5)) dX9_init_65 rfl (Or.inl mlRX9_37) miX_X5 rfl npX5_init rfl (k_X5 (a0 := q5) (a1 := q38)) E0_ok (fun _ _ _ _ _ _ _ _ _ => trivial) (by decide) (by decide) (by decide) (Nat.le_of_ble_eq_true rfl) (fun B65 hB65 => ?_)
  obtain ⟨f65, rfl⟩ := hB65
  refine N.putF dX9_init_68 rfl (ci := 9) rfl inG9 tyX9_ok nmX9 (k := 4) (by decide) flw_9_40 rfl rfl (q0 := 0) rfl rfl rfl (Nat.le_of_ble_eq_true rfl) (ws' := ((((([(q, .inr (9, [.ref q5, .ref q16, .ref q27, .ref q38, .ref q53, .null, .null, .null, .null, .int 0]))] ++ bX7 g q5 f9) ++ bX7 g q16 f20) ++ bX3 g q27 f31) ++ bX1 g q38 f46 r46 q5) ++ bX5 g q53 f65 q5 q38)) rfl ?_
  refine N.aload dX9_init_71 rfl (i := 0) rfl ?_
  refine N.new dX9_init_72 rfl (ci := 6) rfl inG6 tyX6_ok ckRX9_44 insRX6 iniRX6 rawX6 (by decide) (by decide) (fun q72 => ?_)
  refine N.dup dX9_init_75 rfl ?_
  refine N.aload dX9_init_76 rfl (i := 0) rfl ?_
  refine N.get dX9_init_77 rfl (ci := 9) rfl inG9 (k := 0) (by decide) flw_9_12 (q0 := 0) rfl (v := .ref q5) rfl ?_
  refine N.aload dX9_init_80 rfl (i := 0) rfl ?_
  refine N.get dX9_init_81 rfl (ci := 9) rfl inG9 (k := 3) (by decide) flw_9_31 (q0 := 0) rfl (v := .ref q38) rfl ?_
  refine N.call (F := 63) (mc := 82) (ms := 2135) (cells := 68) (slots := 1290) (y := mX9_init) (own := RX9) (z := mX6_init) (q := q72) (st := [.ref q72, .ref q]) (As := [.ref q5, .ref q38]) (raw := .inr (6, [.null, .null, .null, .null, .null])) (ws := ((((([(q, .inr (9, [.ref q5, .ref q16, .ref q27, .ref q38, .ref q53, .null, .null, .null, .null, .int 0]))] ++ bX7 g q5 f9) ++ bX7 g q16 f20) ++ bX3 g q27 f31) ++ bX1 g q38 f46 r46 q5) ++ bX5 g q53 f65 q5 q38)) dX9_init_84 rfl (Or.inl mlRX9_46) miX_X6 rfl npX6_init rfl (k_X6 (a0 := q5) (a1 := q38)) E0_ok (fun _ _ _ _ _ _ _ _ _ => trivial) (by decide) (by decide) (by decide) (Nat.le_of_ble_eq_true rfl) (fun B84 hB84 => ?_)
  obtain ⟨f84, rfl⟩ := hB84
  refine N.putF dX9_init_87 rfl (ci := 9) rfl inG9 tyX9_ok nmX9 (k := 5) (by decide) flw_9_47 rfl rfl (q0 := 0) rfl rfl rfl (Nat.le_of_ble_eq_true rfl) (ws' := (((((([(q, .inr (9, [.ref q5, .ref q16, .ref q27, .ref q38, .ref q53, .ref q72, .null, .null, .null, .int 0]))] ++ bX7 g q5 f9) ++ bX7 g q16 f20) ++ bX3 g q27 f31) ++ bX1 g q38 f46 r46 q5) ++ bX5 g q53 f65 q5 q38) ++ bX6 g q72 f84 q5 q38)) rfl ?_
  refine N.aload dX9_init_90 rfl (i := 0) rfl ?_
  refine N.new dX9_init_91 rfl (ci := 8) rfl inG8 tyX8_ok ckRX9_51 insRX8 iniRX8 rawX8 (by decide) (by decide) (fun q91 => ?_)
  refine N.dup dX9_init_94 rfl ?_
  refine N.call (F := 63) (mc := 82) (ms := 2135) (cells := 72) (slots := 1914) (y := mX9_init) (own := RX9) (z := mX8_init) (q := q91) (st := [.ref q91, .ref q]) (As := []) (raw := .inr (8, [.null, .int 0, .int 0, .int 0, .int 0])) (ws := (((((([(q, .inr (9, [.ref q5, .ref q16, .ref q27, .ref q38, .ref q53, .ref q72, .null, .null, .null, .int 0]))] ++ bX7 g q5 f9) ++ bX7 g q16 f20) ++ bX3 g q27 f31) ++ bX1 g q38 f46 r46 q5) ++ bX5 g q53 f65 q5 q38) ++ bX6 g q72 f84 q5 q38)) dX9_init_95 rfl (Or.inr ⟨"OneBreath", List.mem_of_getElem? (i := 4) rfl⟩) miX_X8 rfl npX8_init rfl (k_X8) E0_ok (fun _ _ _ _ _ _ _ _ _ => trivial) (by decide) (by decide) (by decide) (Nat.le_of_ble_eq_true rfl) (fun B95 hB95 => ?_)
  obtain ⟨f95, rfl⟩ := hB95
  refine N.putF dX9_init_98 rfl (ci := 9) rfl inG9 tyX9_ok nmX9 (k := 6) (by decide) flw_9_54 rfl rfl (q0 := 0) rfl rfl rfl (Nat.le_of_ble_eq_true rfl) (ws' := ((((((([(q, .inr (9, [.ref q5, .ref q16, .ref q27, .ref q38, .ref q53, .ref q72, .ref q91, .null, .null, .int 0]))] ++ bX7 g q5 f9) ++ bX7 g q16 f20) ++ bX3 g q27 f31) ++ bX1 g q38 f46 r46 q5) ++ bX5 g q53 f65 q5 q38) ++ bX6 g q72 f84 q5 q38) ++ bX8 g q91 f95)) rfl ?_
  refine N.aload dX9_init_101 rfl (i := 0) rfl ?_
  refine N.new dX9_init_102 rfl (ci := 4) rfl inG4 tyX4_ok ckRX9_58 insRX4 iniRX4 rawX4 (by decide) (by decide) (fun q102 => ?_)
  refine N.dup dX9_init_105 rfl ?_
  refine N.call (F := 63) (mc := 82) (ms := 2135) (cells := 74) (slots := 1957) (y := mX9_init) (own := RX9) (z := mX4_init) (q := q102) (st := [.ref q102, .ref q]) (As := []) (raw := .inr (4, [.null, .null, .null])) (ws := ((((((([(q, .inr (9, [.ref q5, .ref q16, .ref q27, .ref q38, .ref q53, .ref q72, .ref q91, .null, .null, .int 0]))] ++ bX7 g q5 f9) ++ bX7 g q16 f20) ++ bX3 g q27 f31) ++ bX1 g q38 f46 r46 q5) ++ bX5 g q53 f65 q5 q38) ++ bX6 g q72 f84 q5 q38) ++ bX8 g q91 f95)) dX9_init_106 rfl (Or.inr ⟨"OneBreath", List.mem_of_getElem? (i := 5) rfl⟩) miX_X4 rfl npX4_init rfl (k_X4) E0_ok (fun _ _ _ _ _ _ _ _ _ => trivial) (by decide) (by decide) (by decide) (Nat.le_of_ble_eq_true rfl) (fun B106 hB106 => ?_)
  obtain ⟨f106, r106, rfl⟩ := hB106
  refine N.putF dX9_init_109 rfl (ci := 9) rfl inG9 tyX9_ok nmX9 (k := 7) (by decide) flw_9_61 rfl rfl (q0 := 0) rfl rfl rfl (Nat.le_of_ble_eq_true rfl) (ws' := (((((((([(q, .inr (9, [.ref q5, .ref q16, .ref q27, .ref q38, .ref q53, .ref q72, .ref q91, .ref q102, .null, .int 0]))] ++ bX7 g q5 f9) ++ bX7 g q16 f20) ++ bX3 g q27 f31) ++ bX1 g q38 f46 r46 q5) ++ bX5 g q53 f65 q5 q38) ++ bX6 g q72 f84 q5 q38) ++ bX8 g q91 f95) ++ bX4 g q102 f106 r106)) rfl ?_
  refine N.aload dX9_init_112 rfl (i := 0) rfl ?_
  refine N.bipush dX9_init_113 (v := 6) (by decide) ?_
  refine N.newi dX9_init_115 (by decide) (k := 6) (by decide) (by decide) (by decide) (by decide) (fun q115 => ?_)
  refine N.putF dX9_init_117 rfl (ci := 9) rfl inG9 tyX9_ok nmX9 (k := 8) (by decide) flw_9_65 rfl rfl (q0 := 0) rfl rfl rfl (Nat.le_of_ble_eq_true rfl) (ws' := ((((((((([(q, .inr (9, [.ref q5, .ref q16, .ref q27, .ref q38, .ref q53, .ref q72, .ref q91, .ref q102, .ref q115, .int 0]))] ++ bX7 g q5 f9) ++ bX7 g q16 f20) ++ bX3 g q27 f31) ++ bX1 g q38 f46 r46 q5) ++ bX5 g q53 f65 q5 q38) ++ bX6 g q72 f84 q5 q38) ++ bX8 g q91 f95) ++ bX4 g q102 f106 r106) ++ [(q115, ar0 g 6)])) rfl ?_
  have h200 : ∀ k, 200 ≤ k → ad9 g q q5 f9 q16 f20 q27 f31 q38 f46 r46 q53 f65 q72 f84 q91 f95 q102 f106 r106 q115 k = g.2.2.1 k := fun k hk => by
    unfold ad9
    rw [if_neg (by omega)]
  refine N.sg h200 ?_
  refine N.cg (ws' := wdl cS (g9 g q q5 f9 q16 f20 q27 f31 q38 f46 r46 q53 f65 q72 f84 q91 f95 q102 f106 r106 q115) M00) (fun H hP => ?_) (fun hD => ?_) ?_
  · intro k x hx
    obtain ⟨hk, rfl⟩ := wdl_inv hx
    have hk : k < 83 := hk
    obtain ⟨e, h1, h2⟩ := ws9_at (g := g) q q5 f9 q16 f20 q27 f31 q38 f46 r46 q53 f65 q72 f84 q91 f95 q102 f106 r106 q115 (k := 0 + k) (by omega)
    exact h2 H (hP _ _ h1)
  · refine ⟨fun i j x z hi hj hxz => ?_, fun k x hx => ?_⟩
    · obtain ⟨hi1, rfl⟩ := wdl_inv hi
      obtain ⟨hj1, rfl⟩ := wdl_inv hj
      have hi1 : i < 83 := hi1
      have hj1 : j < 83 := hj1
      obtain ⟨e1, h1, _⟩ := ws9_at (g := g) q q5 f9 q16 f20 q27 f31 q38 f46 r46 q53 f65 q72 f84 q91 f95 q102 f106 r106 q115 (k := 0 + i) (by omega)
      obtain ⟨e2, h2, _⟩ := ws9_at (g := g) q q5 f9 q16 f20 q27 f31 q38 f46 r46 q53 f65 q72 f84 q91 f95 q102 f106 r106 q115 (k := 0 + j) (by omega)
      have := pm9_inj (0 + i) (by omega) (0 + j) (by omega) (hD.1 _ _ _ _ h1 h2 hxz)
      omega
    · obtain ⟨hk, rfl⟩ := wdl_inv hx
      have hk : k < 83 := hk
      obtain ⟨e, h1, _⟩ := ws9_at (g := g) q q5 f9 q16 f20 q27 f31 q38 f46 r46 q53 f65 q72 f84 q91 f95 q102 f106 r106 q115 (k := 0 + k) (by omega)
      have h9 := hD.2 _ (_, e) h1
      exact h9
  · exact x9_end (g := g9 g q q5 f9 q16 f20 q27 f31 q38 f46 r46 q53 f65 q72 f84 q91 f95 q102 f106 r106 q115) (by decide) (by decide) (fun M hM => ⟨_, M, rfl, h200, rfl, hM⟩)

