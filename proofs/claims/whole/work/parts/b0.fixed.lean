/-! ===== what stands fixed at the start ===== -/
def FL0 : List Cond := flatC (Jvm.Cond.and given_1 narrow_1)
theorem el0 : ∀ j, j < 7 → Cond.eq (.elem (.static "OneBreath" "ABOVE" "[I") (.int (Int32.ofNat j))) (.int (([-1, 0, 0, 0, 1, 1, 3] : List Int32).getD j 0)) ∈ FL0 := by decide +kernel
theorem ea0 : Cond.arrayOf (.static "OneBreath" "ABOVE" "[I") .int ∈ FL0 ∧ Cond.eq (.length (.static "OneBreath" "ABOVE" "[I")) (.int (Int32.ofNat 7)) ∈ FL0 := by decide +kernel
theorem el1 : ∀ j, j < 7 → Cond.eq (.elem (.static "OneBreath$Bell" "LOWEST" "[I") (.int (Int32.ofNat j))) (.int (([0, 0, 0, 0, -900, 0, 0] : List Int32).getD j 0)) ∈ FL0 := by decide +kernel
theorem ea1 : Cond.arrayOf (.static "OneBreath$Bell" "LOWEST" "[I") .int ∈ FL0 ∧ Cond.eq (.length (.static "OneBreath$Bell" "LOWEST" "[I")) (.int (Int32.ofNat 7)) ∈ FL0 := by decide +kernel
theorem el2 : ∀ j, j < 7 → Cond.eq (.elem (.static "OneBreath$Bell" "HIGHEST" "[I") (.int (Int32.ofNat j))) (.int (([6, 23, 99, 99, 900, 99, 1] : List Int32).getD j 0)) ∈ FL0 := by decide +kernel
theorem ea2 : Cond.arrayOf (.static "OneBreath$Bell" "HIGHEST" "[I") .int ∈ FL0 ∧ Cond.eq (.length (.static "OneBreath$Bell" "HIGHEST" "[I")) (.int (Int32.ofNat 7)) ∈ FL0 := by decide +kernel
theorem el3 : ∀ j, j < 28 → Cond.eq (.elem (.static "OneBreath$Voices" "BODIES" "[I") (.int (Int32.ofNat j))) (.int (([10, 11, 12, 13, 0, 20, 0, 0, 30, 0, 0, 0, 0, 0, 40, 0, 0, 50, 0, 0, 0, 0, 0, 60, 0, 0, 70, 71] : List Int32).getD j 0)) ∈ FL0 := by decide +kernel
theorem ea3 : Cond.arrayOf (.static "OneBreath$Voices" "BODIES" "[I") .int ∈ FL0 ∧ Cond.eq (.length (.static "OneBreath$Voices" "BODIES" "[I")) (.int (Int32.ofNat 28)) ∈ FL0 := by decide +kernel
def tmS (i : Nat) : Term := .string "OneBreath" ([365, 367, 69, 75].getD i 0)
theorem sx1 : ∀ i, i < 4 → Cond.exactly (tmS i) "java/lang/String" ∈ FL0 ∧ Cond.eq (.field (tmS i) "java/lang/String" "coder" "B") (.int 0) ∈ FL0 ∧ Cond.arrayOf (.field (tmS i) "java/lang/String" "value" "[B") .byte ∈ FL0 ∧ Cond.eq (.length (.field (tmS i) "java/lang/String" "value" "[B")) (.int (Int32.ofNat (strL.getD i 0))) ∈ FL0 := by decide +kernel
theorem sx2 : ∀ i, i < 4 → ∀ j, j < strL.getD i 0 → Cond.eq (.elem (.field (tmS i) "java/lang/String" "value" "[B") (.int (Int32.ofNat j))) (.int ((strB.getD i []).getD j 0)) ∈ FL0 := by decide +kernel
theorem sx3 : ∀ i, i < 4 → ∀ j, j < 4 → i ≠ j → (Cond.not (Cond.eq (tmS i) (tmS j)) ∈ FL0 ∨ Cond.not (Cond.eq (tmS j) (tmS i)) ∈ FL0) := by decide +kernel
theorem sx4 : Cond.exactly (.string "OneBreath$Reader" 22) "java/lang/String" ∈ FL0 ∧ Cond.eq (.string "OneBreath$Reader" 22) (tmS 0) ∈ FL0 ∧ Cond.eq (.static "java/lang/String" "COMPACT_STRINGS" "Z") (.int 1) ∈ FL0 ∧ Cond.isRef (.static "jdk/internal/util/Preconditions" "SIOOBE_FORMATTER" "Ljava/util/function/BiFunction;") ∈ FL0 := by decide +kernel
def adF (t : List Nat) (aK aV : Nat → Nat) (fm k : Nat) : Nat := if k < 210 then t.getD (k - 200) 0 else if k < 220 then aK (k - 210) else if k < 230 then aV (k - 220) else fm
set_option maxHeartbeats 4000000 in
set_option maxRecDepth 100000 in
theorem fixed {p : Program} {s : State} {m : MethodId} {meth : Method} {c : Code} {b L : Nat} {xs : Nat → Int32} (l : Launch) (C0 : lw_At p s m meth c b L xs) : ∃ g0 : GG, g0.1 = l ∧ Cn g0 s ∧ Cz g0 (fun q => s.heap.size ≤ q) s := by
  obtain ⟨hx, hb, hr, hml, hown, hts, hX, hbl, hlk, hgv⟩ := C0
  have hs : ∀ w ∈ FL0, w.before #[Value.ref b] s = true := flat_of_before _ hgv
  have hA : ∀ a : Nat, a < s.heap.size → ¬ (fun q : Nat => s.heap.size ≤ q) a := fun a h => Nat.not_le.mpr h
  obtain ⟨c0, i0, k0⟩ := u_known (C := RX0) (T := TX0) (N := 7) (n := 7) hts (fun w hw => lwG_tb (inG0 w hw)) (hts _ (lwG_tb insRX0))
  obtain ⟨c1, i1, k1⟩ := u_known (C := RX1) (T := TX1) (N := 4) (n := 4) hts (fun w hw => lwG_tb (inG1 w hw)) (hts _ (lwG_tb insRX1))
  obtain ⟨c2, i2, k2⟩ := u_known (C := RX2) (T := TX2) (N := 4) (n := 4) hts (fun w hw => lwG_tb (inG2 w hw)) (hts _ (lwG_tb insRX2))
  obtain ⟨c3, i3, k3⟩ := u_known (C := RX3) (T := TX3) (N := 5) (n := 5) hts (fun w hw => lwG_tb (inG3 w hw)) (hts _ (lwG_tb insRX3))
  obtain ⟨c4, i4, k4⟩ := u_known (C := RX4) (T := TX4) (N := 3) (n := 3) hts (fun w hw => lwG_tb (inG4 w hw)) (hts _ (lwG_tb insRX4))
  obtain ⟨c5, i5, k5⟩ := u_known (C := RX5) (T := TX5) (N := 5) (n := 5) hts (fun w hw => lwG_tb (inG5 w hw)) (hts _ (lwG_tb insRX5))
  obtain ⟨c6, i6, k6⟩ := u_known (C := RX6) (T := TX6) (N := 5) (n := 5) hts (fun w hw => lwG_tb (inG6 w hw)) (hts _ (lwG_tb insRX6))
  obtain ⟨c7, i7, k7⟩ := u_known (C := RX7) (T := TX7) (N := 16) (n := 16) hts (fun w hw => lwG_tb (inG7 w hw)) (hts _ (lwG_tb insRX7))
  obtain ⟨c8, i8, k8⟩ := u_known (C := RX8) (T := TX8) (N := 5) (n := 5) hts (fun w hw => lwG_tb (inG8 w hw)) (hts _ (lwG_tb insRX8))
  obtain ⟨c9, i9, k9⟩ := u_known (C := RX9) (T := TX9) (N := 10) (n := 10) hts (fun w hw => lwG_tb (inG9 w hw)) (hts _ (lwG_tb insRX9))
  obtain ⟨c10, i10, k10⟩ := u_known (C := RX10) (T := TX10) (N := 28) (n := 28) hts (fun w hw => lwG_tb (inG10 w hw)) (hts _ (lwG_tb insRX10))
  obtain ⟨dC, dI, hKc⟩ : ∃ (dC : Nat → ClassId) (dI : Nat → Nat → Nat), ∀ (k : Nat) (q : vw_C), vwCl[k]? = some q → u_Kn s q.1 q.2.1 q.2.2 (dC k) (dI k) := by
    refine ⟨fun k => [c0, c1, c2, c3, c4, c5, c6, c7, c8, c9, c10].getD k c0, fun k => [i0, i1, i2, i3, i4, i5, i6, i7, i8, i9, i10].getD k i0, ?_⟩
    intro k q hq
    match k, hq with
    | 0, hq => cases hq; exact k0
    | 1, hq => cases hq; exact k1
    | 2, hq => cases hq; exact k2
    | 3, hq => cases hq; exact k3
    | 4, hq => cases hq; exact k4
    | 5, hq => cases hq; exact k5
    | 6, hq => cases hq; exact k6
    | 7, hq => cases hq; exact k7
    | 8, hq => cases hq; exact k8
    | 9, hq => cases hq; exact k9
    | 10, hq => cases hq; exact k10
    | k + 11, hq => simp [vwCl] at hq
  have hao : va_AO "OneBreath$Bell" s := hts (Cond.arrayOver (.object "OneBreath$Bell")) (List.mem_of_getElem? (i := 109) (by decide +kernel))
  have haoa : va_AOA .int s := hts (Cond.arrayOver (.array .int)) (List.mem_of_getElem? (i := 289) (by decide +kernel))
  obtain ⟨a0, ka0, cm0, e01, e02, e03⟩ := Cond.arrayClass_spec (hts _ (lwG_tb arrI))
  obtain ⟨a1, ka1, cm1, e11, e12, e13⟩ := Cond.arrayClass_spec (hts _ (lwG_tb arrZ))
  obtain ⟨cm2, a2, ka2, f1, f2, f3, f4, f5⟩ := Cond.arrayOver_spec hao
  obtain ⟨cm3, a3, ka3, g1, g2, g3, g4, g5⟩ := arrayOverA_spec haoa
  obtain ⟨t0, et0, vt0⟩ := va_Tof (args := #[Value.ref b]) (s := s) (tm := .static "OneBreath" "ABOVE" "[I") (ty := .int) (N := 7) (f := fun j => .int (([-1, 0, 0, 0, 1, 1, 3] : List Int32).getD j 0)) (A := fun q => s.heap.size ≤ q) (by decide) (hs _ ea0.1) (va_eqt (hs _ ea0.2)) (fun j hj => va_eqt (hs _ (el0 j hj))) hA
  have z0 := va_Zref (hts (Cond.laysStatic "OneBreath" "ABOVE" "[I") (List.mem_of_getElem? (i := 679) (by decide +kernel))) (hts (Cond.initialized "OneBreath") (List.mem_of_getElem? (i := 75) (by decide +kernel))) et0 hA
  obtain ⟨t1, et1, vt1⟩ := va_Tof (args := #[Value.ref b]) (s := s) (tm := .static "OneBreath$Bell" "LOWEST" "[I") (ty := .int) (N := 7) (f := fun j => .int (([0, 0, 0, 0, -900, 0, 0] : List Int32).getD j 0)) (A := fun q => s.heap.size ≤ q) (by decide) (hs _ ea1.1) (va_eqt (hs _ ea1.2)) (fun j hj => va_eqt (hs _ (el1 j hj))) hA
  have z1 := va_Zref (hts (Cond.laysStatic "OneBreath$Bell" "LOWEST" "[I") (List.mem_of_getElem? (i := 663) (by decide +kernel))) (hts (Cond.initialized "OneBreath$Bell") (List.mem_of_getElem? (i := 78) (by decide +kernel))) et1 hA
  obtain ⟨t2, et2, vt2⟩ := va_Tof (args := #[Value.ref b]) (s := s) (tm := .static "OneBreath$Bell" "HIGHEST" "[I") (ty := .int) (N := 7) (f := fun j => .int (([6, 23, 99, 99, 900, 99, 1] : List Int32).getD j 0)) (A := fun q => s.heap.size ≤ q) (by decide) (hs _ ea2.1) (va_eqt (hs _ ea2.2)) (fun j hj => va_eqt (hs _ (el2 j hj))) hA
  have z2 := va_Zref (hts (Cond.laysStatic "OneBreath$Bell" "HIGHEST" "[I") (List.mem_of_getElem? (i := 665) (by decide +kernel))) (hts (Cond.initialized "OneBreath$Bell") (List.mem_of_getElem? (i := 78) (by decide +kernel))) et2 hA
  obtain ⟨t3, et3, vt3⟩ := va_Tof (args := #[Value.ref b]) (s := s) (tm := .static "OneBreath$Voices" "BODIES" "[I") (ty := .int) (N := 28) (f := fun j => .int (([10, 11, 12, 13, 0, 20, 0, 0, 30, 0, 0, 0, 0, 0, 40, 0, 0, 50, 0, 0, 0, 0, 0, 60, 0, 0, 70, 71] : List Int32).getD j 0)) (A := fun q => s.heap.size ≤ q) (by decide) (hs _ ea3.1) (va_eqt (hs _ ea3.2)) (fun j hj => va_eqt (hs _ (el3 j hj))) hA
  have z3 := va_Zref (hts (Cond.laysStatic "OneBreath$Voices" "BODIES" "[I") (List.mem_of_getElem? (i := 1045) (by decide +kernel))) (hts (Cond.initialized "OneBreath$Voices") (List.mem_of_getElem? (i := 83) (by decide +kernel))) et3 hA
  obtain ⟨aK, aV, hvS, hev⟩ := vk_Sof (args := #[Value.ref b]) (s := s) (N := 4) (tm := tmS) (len := strL) (byt := strB) (A := fun q => s.heap.size ≤ q) (by decide) (fun i hi => hs _ (sx1 i hi).1) (fun i hi => hs _ (sx1 i hi).2.1) (fun i hi => hs _ (sx1 i hi).2.2.1) (fun i hi => hs _ (sx1 i hi).2.2.2) (fun i hi j hj => hs _ (sx2 i hi j hj)) (fun i j hi hj hij => (sx3 i hi j hj hij).elim (fun h => Or.inl (hs _ h)) (fun h => Or.inr (hs _ h))) hA
  have hrd : (Term.string "OneBreath$Reader" 22).eval #[Value.ref b] s none [] s = some (.ref (aK 0)) := by
    obtain ⟨a, _, _, _, q1, _⟩ := Cond.exactly_spec (args := #[Value.ref b]) (first := s) (o := none) (s := s) (idx := []) (t := .string "OneBreath$Reader" 22) (cls := "java/lang/String") (hs _ sx4.1)
    have q2 := va_eqR (hs _ sx4.2.1) q1
    rw [hev 0 (by decide)] at q2
    rw [q1, ← q2]
  have zC := va_Zof (hts (Cond.laysStatic "java/lang/String" "COMPACT_STRINGS" "Z") (List.mem_of_getElem? (i := 402) (by decide +kernel))) (hts (Cond.initialized "java/lang/String") (List.mem_of_getElem? (i := 85) (by decide +kernel))) (va_eqi (hs _ sx4.2.2.1)) hA
  obtain ⟨fm, v0, hv0, zF⟩ : ∃ (fm : Nat) (v : Value), (v = .null ∨ v = .ref 230) ∧ va_Z "jdk/internal/util/Preconditions" "SIOOBE_FORMATTER" "Ljava/util/function/BiFunction;" (cvv (adF [t0, t1, t2, t3] aK aV fm) v) (fun q => s.heap.size ≤ q) s s.heap := by
    rcases va_Zqof (A := fun q => s.heap.size ≤ q) (hts (Cond.laysStatic "jdk/internal/util/Preconditions" "SIOOBE_FORMATTER" "Ljava/util/function/BiFunction;") (List.mem_of_getElem? (i := 418) (by decide +kernel))) (hts (Cond.initialized "jdk/internal/util/Preconditions") (List.mem_of_getElem? (i := 87) (by decide +kernel))) (hs _ sx4.2.2.2) hA with h | ⟨t, h⟩
    · exact ⟨0, .null, Or.inl rfl, h⟩
    · exact ⟨t, .ref 230, Or.inr rfl, h⟩
  have nF : ∀ q ∈ nwF, va_Nw (.fieldLinkNest q.1 q.2.1 q.2.2.1 q.2.2.2.1 q.2.2.2.2.1 q.2.2.2.2.2) s := by
    refine List.forall_mem_cons.mpr ⟨va_Nw.of rfl (hts _ (List.mem_of_getElem? (i := 678) (by decide +kernel))), List.forall_mem_cons.mpr ⟨va_Nw.of rfl (hts _ (List.mem_of_getElem? (i := 1046) (by decide +kernel))), fun _ h => absurd h List.not_mem_nil⟩⟩
  have nM : ∀ q ∈ nwM, va_Nw (.methodLinkNest q.1 q.2.1 q.2.2.1 q.2.2.2) s := List.forall_mem_cons.mpr ⟨va_Nw.of rfl (hts _ (List.mem_of_getElem? (i := 767) (by decide +kernel))), List.forall_mem_cons.mpr ⟨va_Nw.of rfl (hts _ (List.mem_of_getElem? (i := 458) (by decide +kernel))), List.forall_mem_cons.mpr ⟨va_Nw.of rfl (hts _ (List.mem_of_getElem? (i := 906) (by decide +kernel))), List.forall_mem_cons.mpr ⟨va_Nw.of rfl (hts _ (List.mem_of_getElem? (i := 971) (by decide +kernel))), List.forall_mem_cons.mpr ⟨va_Nw.of rfl (hts _ (List.mem_of_getElem? (i := 792) (by decide +kernel))), fun _ h => absurd h List.not_mem_nil⟩⟩⟩⟩⟩
  have nI' : ∀ q ∈ nwI, va_Nw (.methodLinkNest q.1 q.2.1 q.2.2.1 q.2.2.2) s := List.forall_mem_cons.mpr ⟨va_Nw.of rfl (hts _ (List.mem_of_getElem? (i := 112) (by decide +kernel))), List.forall_mem_cons.mpr ⟨va_Nw.of rfl (hts _ (List.mem_of_getElem? (i := 131) (by decide +kernel))), List.forall_mem_cons.mpr ⟨va_Nw.of rfl (hts _ (List.mem_of_getElem? (i := 257) (by decide +kernel))), List.forall_mem_cons.mpr ⟨va_Nw.of rfl (hts _ (List.mem_of_getElem? (i := 262) (by decide +kernel))), List.forall_mem_cons.mpr ⟨va_Nw.of rfl (hts _ (List.mem_of_getElem? (i := 349) (by decide +kernel))), List.forall_mem_cons.mpr ⟨va_Nw.of rfl (hts _ (List.mem_of_getElem? (i := 373) (by decide +kernel))), fun _ h => absurd h List.not_mem_nil⟩⟩⟩⟩⟩⟩
  have r0 : vk_R RX3 22 "ldhwk" (aK 0) s := vk_R.of (hts _ (List.mem_of_getElem? (i := 263) (by decide +kernel))) hrd
  refine ⟨(l, (dC, dI), adF [t0, t1, t2, t3] aK aV fm, fun k => if k = 0 then a0 else if k = 1 then a1 else if k = 2 then a2 else a3), rfl, ⟨⟨hKc, fun k q hq => ?_⟩, hao, haoa, r0, nI'⟩, ?_, ?_, ⟨zC, v0, hv0, zF⟩, ?_, nF, nM⟩
  · match k, hq with
    | 0, hq => cases hq; exact ⟨fun N z => ⟨fun k h => (by cases h), ka0, e02, cm0, e03⟩, e01⟩
    | 1, hq => cases hq; exact ⟨fun N z => ⟨fun k h => (by cases h), ka1, e12, cm1, e13⟩, e11⟩
    | 2, hq => cases hq; exact ⟨fun N z => ⟨fun k h => (by cases h), ka2, f3, cm2, f4⟩, ka2, cm2, f3, f4, f1, f5⟩
    | 3, hq => cases hq; exact ⟨fun N z => ⟨fun k h => (by cases h), ka3, g3, cm3, g4⟩, g5⟩
    | k + 4, hq => simp [tysG] at hq
  · intro j q hq
    match j, hq with
    | 0, hq => cases hq; exact ⟨z0, vt0⟩
    | 1, hq => cases hq; exact ⟨z1, vt1⟩
    | 2, hq => cases hq; exact ⟨z2, vt2⟩
    | 3, hq => cases hq; exact ⟨z3, vt3⟩
    | j + 4, hq => simp [saT] at hq
  · have eK : ∀ i, i < 4 → adF [t0, t1, t2, t3] aK aV fm (210 + i) = aK i := fun i hi => by
      unfold adF
      rw [if_neg (by omega), if_pos (by omega), show 210 + i - 210 = i by omega]
    have eV : ∀ i, i < 4 → adF [t0, t1, t2, t3] aK aV fm (220 + i) = aV i := fun i hi => by
      unfold adF
      rw [if_neg (by omega), if_neg (by omega), if_pos (by omega), show 220 + i - 220 = i by omega]
    refine ⟨fun i hi => ?_, fun i j hi hj e => ?_⟩
    · have := hvS.1 i hi
      rw [← eK i hi, ← eV i hi] at this
      exact this
    · have e' : adF [t0, t1, t2, t3] aK aV fm (210 + i) = adF [t0, t1, t2, t3] aK aV fm (210 + j) := e
      rw [eK i hi, eK j hj] at e'
      exact hvS.2 i j hi hj e'
  · refine List.forall_mem_cons.mpr ⟨vk_R.of (hts _ (List.mem_of_getElem? (i := 449) (by decide +kernel))) (hev 0 (by decide)), List.forall_mem_cons.mpr ⟨vk_R.of (hts _ (List.mem_of_getElem? (i := 450) (by decide +kernel))) (hev 1 (by decide)), List.forall_mem_cons.mpr ⟨vk_R.of (hts _ (List.mem_of_getElem? (i := 388) (by decide +kernel))) (hev 2 (by decide)), List.forall_mem_cons.mpr ⟨vk_R.of (hts _ (List.mem_of_getElem? (i := 578) (by decide +kernel))) (hev 3 (by decide)), List.forall_mem_cons.mpr ⟨r0, fun _ h => absurd h List.not_mem_nil⟩⟩⟩⟩⟩

