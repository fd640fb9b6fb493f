/-! ===== public methods: ears, feed ===== -/
def spt (x : Int32) : Bool := decide (0 ≤ x) && decide (x ≤ 99)
theorem spt_iff {x : Int32} : spt x = true ↔ (0 ≤ x ∧ x ≤ 99) := by unfold spt; rw [Bool.and_eq_true, decide_eq_true_iff, decide_eq_true_iff]
theorem fst_all {p : Nat → Bool} {n : Nat} (h : ∀ j, j < n → p j = false) : fst p n = n := by
  by_cases c : fst p n < n
  · have := fst_yes p n c
    rw [h _ c] at this
    cases this
  · have := fst_le p n
    omega
/-- so many more ears, from a row of numbers -/
def earM (M : Mem) (f : Nat → Int32) (n i : Nat) : Mem := um (put M 1 4 (nI (n + i))) 12 (fun j => if n ≤ j ∧ j < n + i then f (j - n) else M 12 j)
theorem earM_n {M : Mem} {f : Nat → Int32} {n i : Nat} : earM M f n i 1 4 = nI (n + i) := by unfold earM; rw [um_n (by decide), put_s]
theorem earM_o {M : Mem} {f : Nat → Int32} {n i c : Nat} (h1 : c ≠ 1) (h2 : c ≠ 12) : earM M f n i c = M c := by unfold earM; rw [um_n h2, put_cell h1]
theorem earM_1 {M : Mem} {f : Nat → Int32} {n i j : Nat} (h : j ≠ 4) : earM M f n i 1 j = M 1 j := by unfold earM; rw [um_n (by decide), put_n (fun q => h q.2)]
theorem earM_0 {M : Mem} {f : Nat → Int32} {n : Nat} (h : M 1 4 = nI n) : earM M f n 0 = M := by
  funext c j
  unfold earM um put
  by_cases h12 : c = 12
  · subst h12; simp; intro h1 h2; omega
  · rw [if_neg h12]
    by_cases h4 : c = 1 ∧ j = 4
    · obtain ⟨rfl, rfl⟩ := h4; simp [h]
    · rw [if_neg h4]
theorem earM_s {M : Mem} {f : Nat → Int32} {n i : Nat} : put (put (earM M f n i) 12 (n + i) (f i)) 1 4 (nI (n + i + 1)) = earM M f n (i + 1) := by
  funext c j
  by_cases h12 : c = 12
  · subst h12
    rw [put_cell (by decide)]
    by_cases hj : j = n + i
    · subst hj
      rw [put_s]
      unfold earM
      rw [um_s]
      rw [if_pos ⟨by omega, by omega⟩, show n + i - n = i by omega]
    · rw [put_n (fun q => hj q.2)]
      unfold earM
      rw [um_s, um_s]
      by_cases hq : n ≤ j ∧ j < n + i
      · rw [if_pos hq, if_pos ⟨hq.1, by omega⟩]
      · rw [if_neg hq, if_neg (fun z => hq ⟨z.1, by omega⟩)]
  · by_cases h4 : c = 1 ∧ j = 4
    · obtain ⟨rfl, rfl⟩ := h4
      rw [put_s, earM_n]
      rfl
    · rw [put_n h4, put_cell h12]
      unfold earM
      rw [um_n h12, um_n h12, put_n h4, put_n h4]

set_option maxHeartbeats 4000000 in
set_option maxRecDepth 100000 in
theorem l_ears {g : GG} {d : Nat} {M : Mem} {Q : Option Value → Mem → Prop} {s n z : Nat} (hs : s < 4) (hz : M 63 s = nI z) (h40 : z ≤ 40) (h10 : n ≤ 10) (hQ : Q (some (.int (nI (fst (fun i => !spt (M (64 + s) i)) (min z (10 - n)))))) (earM M (M (64 + s)) n (fst (fun i => !spt (M (64 + s) i)) (min z (10 - n))))) : ∀ (k i : Nat) (l4 : Option Value), i + k = (min z (10 - n)) → (∀ j, j < i → (fun i => !spt (M (64 + s) i)) j = false) → V cS g (d + 1) mX9_ears 36 [some (.ref 0), some (.int (nI s)), some (.int (nI i)), some (.int (nI i)), l4] [] (earM M (M (64 + s)) n i) Q := by
  intro k
  induction k with
  | zero =>
    intro i l4 hk hj
    have hi : i = (min z (10 - n)) := by omega
    have hf : fst (fun i => !spt (M (64 + s) i)) (min z (10 - n)) = i := by rw [fst_all (fun j h => hj j (by omega)), hi]
    rw [hf] at hQ
    refine V.fg (ls' := [some (.ref 0), some (.int (nI s)), some (.int (nI i)), some (.int (nI i)), none]) ⟨rfl, rfl, rfl, rfl, trivial⟩ ?_
    by_cases hiz : i = z
    · subst hiz
      refine V.iload_n dX9_ears_36 rfl (i := 3) rfl ?_
      refine V.aload_n dX9_ears_37 rfl (i := 0) rfl ?_
      refine V.getR dX9_ears_38 rfl flRX9_61 rfl ⟨by decide, by decide⟩ ?_
      refine V.iload_n dX9_ears_41 rfl (i := 1) rfl ?_
      refine V.invv (z := mX4_sizeOf) (As := [_]) dX9_ears_42 rfl mlRX9_158 okX4_sizeOf npX4_sizeOf rfl rfl rfl ⟨by decide, by decide⟩ (Nat.le_of_ble_eq_true rfl) rfl (Nat.le_of_ble_eq_true rfl) (c_sizeOf  (by first | assumption | decide | omega) ?_)
      show V cS g (d + 1) mX9_ears 45 [some (.ref 0), some (.int (nI s)), some (.int (nI i)), some (.int (nI i)), none] [.int ((earM M (M (64 + s)) n i) 63 s), .int (nI i)] ((earM M (M (64 + s)) n i)) Q
      refine V.top (x' := (nI i)) ((by rw [earM_o (by decide) (by decide)]; exact hz)) ?_
      refine V.ic_ge (tgt := 100) dX9_ears_45 (by decide) (fun c45 => ?_) (fun q => absurd ((Int32.le_refl _)) q)
      refine V.iload_n dX9_ears_100 rfl (i := 2) rfl ?_
      exact V.ret dX9_ears_101 rfl (hQ)
    · have h9 : n + i = 10 := by omega
      have hi40 : i < 40 := by omega
      refine V.iload_n dX9_ears_36 rfl (i := 3) rfl ?_
      refine V.aload_n dX9_ears_37 rfl (i := 0) rfl ?_
      refine V.getR dX9_ears_38 rfl flRX9_61 rfl ⟨by decide, by decide⟩ ?_
      refine V.iload_n dX9_ears_41 rfl (i := 1) rfl ?_
      refine V.invv (z := mX4_sizeOf) (As := [_]) dX9_ears_42 rfl mlRX9_158 okX4_sizeOf npX4_sizeOf rfl rfl rfl ⟨by decide, by decide⟩ (Nat.le_of_ble_eq_true rfl) rfl (Nat.le_of_ble_eq_true rfl) (c_sizeOf  (by first | assumption | decide | omega) ?_)
      show V cS g (d + 1) mX9_ears 45 [some (.ref 0), some (.int (nI s)), some (.int (nI i)), some (.int (nI i)), none] [.int ((earM M (M (64 + s)) n i) 63 s), .int (nI i)] ((earM M (M (64 + s)) n i)) Q
      refine V.top (x' := (nI z)) ((by rw [earM_o (by decide) (by decide)]; exact hz)) ?_
      refine V.ic_ge (tgt := 100) dX9_ears_45 (by decide) (fun q => absurd q ((nI_ge (a := i) (b := z) (by omega) (by omega)))) (fun c45 => ?_)
      refine V.aload_n dX9_ears_48 rfl (i := 0) rfl ?_
      refine V.getR dX9_ears_49 rfl flRX9_61 rfl ⟨by decide, by decide⟩ ?_
      refine V.iload_n dX9_ears_52 rfl (i := 1) rfl ?_
      refine V.iload_n dX9_ears_53 rfl (i := 3) rfl ?_
      refine V.invv (z := mX4_number) (As := [_, _]) dX9_ears_54 rfl mlRX9_161 okX4_number npX4_number rfl rfl rfl ⟨by decide, by decide⟩ (Nat.le_of_ble_eq_true rfl) rfl (Nat.le_of_ble_eq_true rfl) (c_number  (by first | assumption | decide | omega) (by first | assumption | decide | omega) ?_)
      show V cS g (d + 1) mX9_ears 57 [some (.ref 0), some (.int (nI s)), some (.int (nI i)), some (.int (nI i)), none] [.int (((earM M (M (64 + s)) n i)) (64 + s) i)] (((earM M (M (64 + s)) n i))) Q
      refine V.istore dX9_ears_57 (i := 4) (by decide) (fun _ h => by cases h; exact Or.inl rfl) rfl ?_
      refine V.iload dX9_ears_59 rfl ?_
      refine V.invs (z := mX9_isSpot) (As := [_]) dX9_ears_61 rfl mlRX9_77 okX9_isSpot npX9_isSpot rfl (Nat.le_of_ble_eq_true rfl) rfl (Nat.le_of_ble_eq_true rfl) (c_isSpot   ?_)
      show V cS g (d + 1) mX9_ears 64 [some (.ref 0), some (.int (nI s)), some (.int (nI i)), some (.int (nI i)), some (.int (((earM M (M (64 + s)) n i)) (64 + s) i))] [.int (b2i (0 ≤ (((earM M (M (64 + s)) n i)) (64 + s) i) ∧ (((earM M (M (64 + s)) n i)) (64 + s) i) ≤ 99))] ((((earM M (M (64 + s)) n i)))) Q
      refine V.if_eq (tgt := 100) dX9_ears_64 (by decide) (fun c64 => ?_) (fun c64 => ?_)
      · refine V.iload_n dX9_ears_100 rfl (i := 2) rfl ?_
        exact V.ret dX9_ears_101 rfl (hQ)
      · refine V.aload_n dX9_ears_67 rfl (i := 0) rfl ?_
        refine V.getR dX9_ears_68 rfl flRX9_12 rfl ⟨by decide, by decide⟩ ?_
        refine V.getI dX9_ears_71 rfl flRX9_144 rfl ⟨by decide, by decide⟩ ?_
        refine V.top (x' := (nI 10)) ((by rw [earM_n, h9])) ?_
        refine V.bipush dX9_ears_74 (v := 10) (by decide) ?_
        refine V.ic_lt (tgt := 82) dX9_ears_76 (by decide) (fun q => absurd q ((by decide))) (fun c76 => ?_)
        refine V.goto dX9_ears_79 (tgt := 100) (by decide) ?_
        refine V.iload_n dX9_ears_100 rfl (i := 2) rfl ?_
        exact V.ret dX9_ears_101 rfl (hQ)
  | succ k ih =>
    intro i l4 hk hj
    have hi1 : i < z := by omega
    have hi2 : n + i < 10 := by omega
    have hi40 : i < 40 := by omega
    refine V.fg (ls' := [some (.ref 0), some (.int (nI s)), some (.int (nI i)), some (.int (nI i)), none]) ⟨rfl, rfl, rfl, rfl, trivial⟩ ?_
    by_cases hsp : 0 ≤ M (64 + s) i ∧ M (64 + s) i ≤ 99
    · skip
      refine V.iload_n dX9_ears_36 rfl (i := 3) rfl ?_
      refine V.aload_n dX9_ears_37 rfl (i := 0) rfl ?_
      refine V.getR dX9_ears_38 rfl flRX9_61 rfl ⟨by decide, by decide⟩ ?_
      refine V.iload_n dX9_ears_41 rfl (i := 1) rfl ?_
      refine V.invv (z := mX4_sizeOf) (As := [_]) dX9_ears_42 rfl mlRX9_158 okX4_sizeOf npX4_sizeOf rfl rfl rfl ⟨by decide, by decide⟩ (Nat.le_of_ble_eq_true rfl) rfl (Nat.le_of_ble_eq_true rfl) (c_sizeOf  (by first | assumption | decide | omega) ?_)
      show V cS g (d + 1) mX9_ears 45 [some (.ref 0), some (.int (nI s)), some (.int (nI i)), some (.int (nI i)), none] [.int ((earM M (M (64 + s)) n i) 63 s), .int (nI i)] ((earM M (M (64 + s)) n i)) Q
      refine V.top (x' := (nI z)) ((by rw [earM_o (by decide) (by decide)]; exact hz)) ?_
      refine V.ic_ge (tgt := 100) dX9_ears_45 (by decide) (fun q => absurd q ((nI_ge (a := i) (b := z) (by omega) (by omega)))) (fun c45 => ?_)
      refine V.aload_n dX9_ears_48 rfl (i := 0) rfl ?_
      refine V.getR dX9_ears_49 rfl flRX9_61 rfl ⟨by decide, by decide⟩ ?_
      refine V.iload_n dX9_ears_52 rfl (i := 1) rfl ?_
      refine V.iload_n dX9_ears_53 rfl (i := 3) rfl ?_
      refine V.invv (z := mX4_number) (As := [_, _]) dX9_ears_54 rfl mlRX9_161 okX4_number npX4_number rfl rfl rfl ⟨by decide, by decide⟩ (Nat.le_of_ble_eq_true rfl) rfl (Nat.le_of_ble_eq_true rfl) (c_number  (by first | assumption | decide | omega) (by first | assumption | decide | omega) ?_)
      show V cS g (d + 1) mX9_ears 57 [some (.ref 0), some (.int (nI s)), some (.int (nI i)), some (.int (nI i)), none] [.int (((earM M (M (64 + s)) n i)) (64 + s) i)] (((earM M (M (64 + s)) n i))) Q
      refine V.top (x' := (M (64 + s) i)) ((by rw [earM_o (by omega) (by omega)])) ?_
      refine V.istore dX9_ears_57 (i := 4) (by decide) (fun _ h => by cases h; exact Or.inl rfl) rfl ?_
      refine V.iload dX9_ears_59 rfl ?_
      refine V.invs (z := mX9_isSpot) (As := [_]) dX9_ears_61 rfl mlRX9_77 okX9_isSpot npX9_isSpot rfl (Nat.le_of_ble_eq_true rfl) rfl (Nat.le_of_ble_eq_true rfl) (c_isSpot   ?_)
      show V cS g (d + 1) mX9_ears 64 [some (.ref 0), some (.int (nI s)), some (.int (nI i)), some (.int (nI i)), some (.int (M (64 + s) i))] [.int (b2i (0 ≤ (M (64 + s) i) ∧ (M (64 + s) i) ≤ 99))] ((((earM M (M (64 + s)) n i)))) Q
      refine V.if_eq (tgt := 100) dX9_ears_64 (by decide) (fun q => absurd q ((fun q => b2i_0.mp q hsp))) (fun c64 => ?_)
      refine V.aload_n dX9_ears_67 rfl (i := 0) rfl ?_
      refine V.getR dX9_ears_68 rfl flRX9_12 rfl ⟨by decide, by decide⟩ ?_
      refine V.getI dX9_ears_71 rfl flRX9_144 rfl ⟨by decide, by decide⟩ ?_
      refine V.top (x' := (nI (n + i))) ((by rw [earM_n])) ?_
      refine V.bipush dX9_ears_74 (v := 10) (by decide) ?_
      refine V.ic_lt (tgt := 82) dX9_ears_76 (by decide) (fun c76 => ?_) (fun q => absurd ((nI_lt (b := 10) (by omega) (by omega))) q)
      refine V.aload_n dX9_ears_82 rfl (i := 0) rfl ?_
      refine V.getR dX9_ears_83 rfl flRX9_12 rfl ⟨by decide, by decide⟩ ?_
      refine V.iload dX9_ears_86 rfl ?_
      refine V.invv (z := mX7_addEar) (As := [_]) dX9_ears_88 rfl mlRX9_147 okX7_addEar npX7_addEar rfl rfl rfl ⟨by decide, by decide⟩ (Nat.le_of_ble_eq_true rfl) rfl (Nat.le_of_ble_eq_true rfl) (c_addEar earM_n hi2 ?_)
      show V cS g (d + 1) mX9_ears 91 [some (.ref 0), some (.int (nI s)), some (.int (nI i)), some (.int (nI i)), some (.int (M (64 + s) i))] [] (put (put (earM M (M (64 + s)) n i) 12 (n + i) (M (64 + s) i)) 1 4 (nI (n + i + 1))) Q
      refine V.mem (earM_s (f := M (64 + s))) ?_
      refine V.iinc dX9_ears_91 rfl (v := (nI (i + 1))) (nI_1 _) (by decide) (fun _ h => by cases h; exact Or.inl rfl) rfl ?_
      refine V.iinc dX9_ears_94 rfl (v := (nI (i + 1))) (nI_1 _) (by decide) (fun _ h => by cases h; exact Or.inl rfl) rfl ?_
      refine V.goto dX9_ears_97 (tgt := 36) (by decide) ?_
      exact ih (i + 1) _ (by omega) (fun j h => by by_cases q : j = i; subst q; show (!spt (M (64 + s) j)) = false; rw [spt_iff.mpr hsp]; rfl; exact hj j (by omega))
    · have hf : fst (fun i => !spt (M (64 + s) i)) (min z (10 - n)) = i := fst_is (by omega) (by show (!spt (M (64 + s) i)) = true; rw [Bool.eq_false_iff.mpr (fun q => hsp (spt_iff.mp q))]; rfl) hj
      rw [hf] at hQ
      refine V.iload_n dX9_ears_36 rfl (i := 3) rfl ?_
      refine V.aload_n dX9_ears_37 rfl (i := 0) rfl ?_
      refine V.getR dX9_ears_38 rfl flRX9_61 rfl ⟨by decide, by decide⟩ ?_
      refine V.iload_n dX9_ears_41 rfl (i := 1) rfl ?_
      refine V.invv (z := mX4_sizeOf) (As := [_]) dX9_ears_42 rfl mlRX9_158 okX4_sizeOf npX4_sizeOf rfl rfl rfl ⟨by decide, by decide⟩ (Nat.le_of_ble_eq_true rfl) rfl (Nat.le_of_ble_eq_true rfl) (c_sizeOf  (by first | assumption | decide | omega) ?_)
      show V cS g (d + 1) mX9_ears 45 [some (.ref 0), some (.int (nI s)), some (.int (nI i)), some (.int (nI i)), none] [.int ((earM M (M (64 + s)) n i) 63 s), .int (nI i)] ((earM M (M (64 + s)) n i)) Q
      refine V.top (x' := (nI z)) ((by rw [earM_o (by decide) (by decide)]; exact hz)) ?_
      refine V.ic_ge (tgt := 100) dX9_ears_45 (by decide) (fun q => absurd q ((nI_ge (a := i) (b := z) (by omega) (by omega)))) (fun c45 => ?_)
      refine V.aload_n dX9_ears_48 rfl (i := 0) rfl ?_
      refine V.getR dX9_ears_49 rfl flRX9_61 rfl ⟨by decide, by decide⟩ ?_
      refine V.iload_n dX9_ears_52 rfl (i := 1) rfl ?_
      refine V.iload_n dX9_ears_53 rfl (i := 3) rfl ?_
      refine V.invv (z := mX4_number) (As := [_, _]) dX9_ears_54 rfl mlRX9_161 okX4_number npX4_number rfl rfl rfl ⟨by decide, by decide⟩ (Nat.le_of_ble_eq_true rfl) rfl (Nat.le_of_ble_eq_true rfl) (c_number  (by first | assumption | decide | omega) (by first | assumption | decide | omega) ?_)
      show V cS g (d + 1) mX9_ears 57 [some (.ref 0), some (.int (nI s)), some (.int (nI i)), some (.int (nI i)), none] [.int (((earM M (M (64 + s)) n i)) (64 + s) i)] (((earM M (M (64 + s)) n i))) Q
      refine V.top (x' := (M (64 + s) i)) ((by rw [earM_o (by omega) (by omega)])) ?_
      refine V.istore dX9_ears_57 (i := 4) (by decide) (fun _ h => by cases h; exact Or.inl rfl) rfl ?_
      refine V.iload dX9_ears_59 rfl ?_
      refine V.invs (z := mX9_isSpot) (As := [_]) dX9_ears_61 rfl mlRX9_77 okX9_isSpot npX9_isSpot rfl (Nat.le_of_ble_eq_true rfl) rfl (Nat.le_of_ble_eq_true rfl) (c_isSpot   ?_)
      show V cS g (d + 1) mX9_ears 64 [some (.ref 0), some (.int (nI s)), some (.int (nI i)), some (.int (nI i)), some (.int (M (64 + s) i))] [.int (b2i (0 ≤ (M (64 + s) i) ∧ (M (64 + s) i) ≤ 99))] ((((earM M (M (64 + s)) n i)))) Q
      refine V.if_eq (tgt := 100) dX9_ears_64 (by decide) (fun c64 => ?_) (fun q => absurd ((b2i_f hsp)) q)
      refine V.iload_n dX9_ears_100 rfl (i := 2) rfl ?_
      exact V.ret dX9_ears_101 rfl (hQ)
set_option maxHeartbeats 4000000 in
set_option maxRecDepth 100000 in
theorem c9_ears {g : GG} {d : Nat} {M : Mem} {Q : Option Value → Mem → Prop} {a : Int32} {n : Nat} (hn : M 1 4 = nI n) (h10 : n ≤ 10) (hsz : ∀ s, s < 4 → ∃ z, z ≤ 40 ∧ M 63 s = nI z) (hbad : ¬ (0 ≤ a ∧ a ≤ 3) → Q (some (.int (-1000000001))) (put M 9 1 (M 9 1 + 1))) (hnone : ∀ s, s < 4 → a = nI s → M 62 s = 0 → Q (some (.int (-1000000002))) (put M 9 2 (M 9 2 + 1))) (hok : ∀ s z, s < 4 → a = nI s → ¬ M 62 s = 0 → z ≤ 40 → M 63 s = nI z → Q (some (.int (nI (fst (fun i => !spt (M (64 + s) i)) (min z (10 - n)))))) (earM M (M (64 + s)) n (fst (fun i => !spt (M (64 + s) i)) (min z (10 - n))))) : V cS g (d + 2) mX9_ears 0 [some (.ref 0), some (.int a), none, none, none] [] M Q := by
  by_cases h : 0 ≤ a ∧ a ≤ 3
  · obtain ⟨s, hs, rfl⟩ := nI_ex (n := 4) (by omega) h.1 (Int32.lt_of_le_of_lt h.2 (by decide))
    by_cases hm : M 62 s = 0
    · skip
      refine V.iload_n dX9_ears_0 rfl (i := 1) rfl ?_
      refine V.invs (z := mX4_canBe) (As := [_]) dX9_ears_1 rfl mlRX9_151 okX4_canBe npX4_canBe rfl (Nat.le_of_ble_eq_true rfl) rfl (Nat.le_of_ble_eq_true rfl) (c_canBe   ?_)
      show V cS g (d + 2) mX9_ears 4 [some (.ref 0), some (.int (nI s)), none, none, none] [.int (b2i (0 ≤ (nI s) ∧ (nI s) ≤ 3))] (M) Q
      refine V.if_ne (tgt := 14) dX9_ears_4 (by decide) (fun c4 => ?_) (fun q => absurd q ((fun z => b2i_0.mp z h)))
      refine V.aload_n dX9_ears_14 rfl (i := 0) rfl ?_
      refine V.getR dX9_ears_15 rfl flRX9_61 rfl ⟨by decide, by decide⟩ ?_
      refine V.iload_n dX9_ears_18 rfl (i := 1) rfl ?_
      refine V.invv (z := mX4_isMissing) (As := [_]) dX9_ears_19 rfl mlRX9_154 okX4_isMissing npX4_isMissing rfl rfl rfl ⟨by decide, by decide⟩ (Nat.le_of_ble_eq_true rfl) rfl (Nat.le_of_ble_eq_true rfl) (c_isMissing  (by first | assumption | decide | omega) ?_)
      show V cS g (d + 2) mX9_ears 22 [some (.ref 0), some (.int (nI s)), none, none, none] [.int (b2i ((M) 62 s = 0))] ((M)) Q
      refine V.if_eq (tgt := 32) dX9_ears_22 (by decide) (fun q => absurd q ((fun z => b2i_0.mp z hm))) (fun c22 => ?_)
      refine V.aload_n dX9_ears_25 rfl (i := 0) rfl ?_
      refine V.ldc dX9_ears_26 rfl ctRX9_157 ?_
      refine V.invv (z := mX9_error) (As := [_]) dX9_ears_28 rfl mlRX9_82 okX9_error npX9_error rfl rfl rfl ⟨by decide, by decide⟩ (Nat.le_of_ble_eq_true rfl) rfl (Nat.le_of_ble_eq_true rfl) (c_err2   ?_)
      show V cS g (d + 2) mX9_ears 31 [some (.ref 0), some (.int (nI s)), none, none, none] [.int (-1000000002 : Int32)] (put ((M)) 9 2 (((M)) 9 2 + 1)) Q
      exact V.ret dX9_ears_31 rfl (hnone s hs rfl hm)
    · obtain ⟨z, h40, hz⟩ := hsz s hs
      refine V.iload_n dX9_ears_0 rfl (i := 1) rfl ?_
      refine V.invs (z := mX4_canBe) (As := [_]) dX9_ears_1 rfl mlRX9_151 okX4_canBe npX4_canBe rfl (Nat.le_of_ble_eq_true rfl) rfl (Nat.le_of_ble_eq_true rfl) (c_canBe   ?_)
      show V cS g (d + 2) mX9_ears 4 [some (.ref 0), some (.int (nI s)), none, none, none] [.int (b2i (0 ≤ (nI s) ∧ (nI s) ≤ 3))] (M) Q
      refine V.if_ne (tgt := 14) dX9_ears_4 (by decide) (fun c4 => ?_) (fun q => absurd q ((fun z => b2i_0.mp z h)))
      refine V.aload_n dX9_ears_14 rfl (i := 0) rfl ?_
      refine V.getR dX9_ears_15 rfl flRX9_61 rfl ⟨by decide, by decide⟩ ?_
      refine V.iload_n dX9_ears_18 rfl (i := 1) rfl ?_
      refine V.invv (z := mX4_isMissing) (As := [_]) dX9_ears_19 rfl mlRX9_154 okX4_isMissing npX4_isMissing rfl rfl rfl ⟨by decide, by decide⟩ (Nat.le_of_ble_eq_true rfl) rfl (Nat.le_of_ble_eq_true rfl) (c_isMissing  (by first | assumption | decide | omega) ?_)
      show V cS g (d + 2) mX9_ears 22 [some (.ref 0), some (.int (nI s)), none, none, none] [.int (b2i ((M) 62 s = 0))] ((M)) Q
      refine V.if_eq (tgt := 32) dX9_ears_22 (by decide) (fun c22 => ?_) (fun q => absurd ((b2i_f hm)) q)
      refine V.iconst dX9_ears_32 (v := 0) (by decide) ?_
      refine V.istore_n dX9_ears_33 rfl (i := 2) (by decide) (fun _ h => by cases h; exact Or.inl rfl) rfl ?_
      refine V.iconst dX9_ears_34 (v := 0) (by decide) ?_
      refine V.istore_n dX9_ears_35 rfl (i := 3) (by decide) (fun _ h => by cases h; exact Or.inl rfl) rfl ?_
      exact V.mem (earM_0 hn).symm (l_ears (d := d + 1) hs hz h40 h10 (hok s z hs rfl hm h40 hz) (min z (10 - n)) 0 _ (by omega) (fun j hj => absurd hj (Nat.not_lt_zero _)))
  · skip
    refine V.iload_n dX9_ears_0 rfl (i := 1) rfl ?_
    refine V.invs (z := mX4_canBe) (As := [_]) dX9_ears_1 rfl mlRX9_151 okX4_canBe npX4_canBe rfl (Nat.le_of_ble_eq_true rfl) rfl (Nat.le_of_ble_eq_true rfl) (c_canBe   ?_)
    show V cS g (d + 2) mX9_ears 4 [some (.ref 0), some (.int a), none, none, none] [.int (b2i (0 ≤ a ∧ a ≤ 3))] (M) Q
    refine V.if_ne (tgt := 14) dX9_ears_4 (by decide) (fun c4 => ?_) (fun c4 => ?_)
    · exact absurd (Classical.byContradiction fun z => c4 (b2i_f z)) h
    · refine V.aload_n dX9_ears_7 rfl (i := 0) rfl ?_
      refine V.ldc dX9_ears_8 rfl ctRX9_81 ?_
      refine V.invv (z := mX9_error) (As := [_]) dX9_ears_10 rfl mlRX9_82 okX9_error npX9_error rfl rfl rfl ⟨by decide, by decide⟩ (Nat.le_of_ble_eq_true rfl) rfl (Nat.le_of_ble_eq_true rfl) (c_err1   ?_)
      show V cS g (d + 2) mX9_ears 13 [some (.ref 0), some (.int a), none, none, none] [.int (-1000000001 : Int32)] (put (M) 9 1 ((M) 9 1 + 1)) Q
      exact V.ret dX9_ears_13 rfl (hbad h)
def bytF (w : Int64) (i : Nat) : Int32 := Int64.toInt32 ((Int64.toUInt64 w >>> ((Int32.toInt64 (nI (8 * i))).toUInt64 &&& Int64.toUInt64 63)).toInt64) &&& 255
/-- so many more bytes on the tape -/
def tapM (M : Mem) (f : Nat → Int32) (n i : Nat) : Mem := um (put M 1 9 (nI (n + i))) 13 (fun j => if n ≤ j ∧ j < n + i then f (j - n) else M 13 j)
theorem tapM_n {M : Mem} {f : Nat → Int32} {n i : Nat} : tapM M f n i 1 9 = nI (n + i) := by unfold tapM; rw [um_n (by decide), put_s]
theorem tapM_o {M : Mem} {f : Nat → Int32} {n i c : Nat} (h1 : c ≠ 1) (h2 : c ≠ 13) : tapM M f n i c = M c := by unfold tapM; rw [um_n h2, put_cell h1]
theorem tapM_1 {M : Mem} {f : Nat → Int32} {n i j : Nat} (h : j ≠ 9) : tapM M f n i 1 j = M 1 j := by unfold tapM; rw [um_n (by decide), put_n (fun q => h q.2)]
theorem tapM_0 {M : Mem} {f : Nat → Int32} {n : Nat} (h : M 1 9 = nI n) : tapM M f n 0 = M := by
  funext c j
  unfold tapM um put
  by_cases h12 : c = 13
  · subst h12; simp; intro h1 h2; omega
  · rw [if_neg h12]
    by_cases h4 : c = 1 ∧ j = 9
    · obtain ⟨rfl, rfl⟩ := h4; simp [h]
    · rw [if_neg h4]
theorem tapM_s {M : Mem} {f : Nat → Int32} {n i : Nat} : put (put (tapM M f n i) 13 (n + i) (f i)) 1 9 (nI (n + i + 1)) = tapM M f n (i + 1) := by
  funext c j
  by_cases h12 : c = 13
  · subst h12
    rw [put_cell (by decide)]
    by_cases hj : j = n + i
    · subst hj
      rw [put_s]
      unfold tapM
      rw [um_s]
      rw [if_pos ⟨by omega, by omega⟩, show n + i - n = i by omega]
    · rw [put_n (fun q => hj q.2)]
      unfold tapM
      rw [um_s, um_s]
      by_cases hq : n ≤ j ∧ j < n + i
      · rw [if_pos hq, if_pos ⟨hq.1, by omega⟩]
      · rw [if_neg hq, if_neg (fun z => hq ⟨z.1, by omega⟩)]
  · by_cases h4 : c = 1 ∧ j = 9
    · obtain ⟨rfl, rfl⟩ := h4
      rw [put_s, tapM_n]
      rfl
    · rw [put_n h4, put_cell h12]
      unfold tapM
      rw [um_n h12, um_n h12, put_n h4, put_n h4]

set_option maxHeartbeats 4000000 in
set_option maxRecDepth 100000 in
theorem l_feed {g : GG} {d : Nat} {M : Mem} {Q : Option Value → Mem → Prop} {w : Int64} {t N : Nat} (hN : t + N ≤ 50) (h8 : N ≤ 8) (hQ : Q (some (.int (nI (t + N)))) (tapM M (bytF w) t N)) : ∀ (k i : Nat), i + k = N → V cS g (d + 1) mX9_feed 42 [some (.ref 0), some (.long w), none, some (.int (nI N)), some (.int (nI i))] [] (tapM M (bytF w) t i) Q := by
  intro k
  induction k with
  | zero =>
    intro i hk
    obtain rfl : i = N := by omega
    refine V.iload dX9_feed_42 rfl ?_
    refine V.iload_n dX9_feed_44 rfl (i := 3) rfl ?_
    refine V.ic_ge (tgt := 73) dX9_feed_45 (by decide) (fun c45 => ?_) (fun q => absurd ((Int32.le_refl _)) q)
    refine V.aload_n dX9_feed_73 rfl (i := 0) rfl ?_
    refine V.getR dX9_feed_74 rfl flRX9_12 rfl ⟨by decide, by decide⟩ ?_
    refine V.getI dX9_feed_77 rfl flRX9_201 rfl ⟨by decide, by decide⟩ ?_
    exact V.ret dX9_feed_80 rfl (Qi hQ tapM_n)
  | succ k ih =>
    intro i hk
    refine V.iload dX9_feed_42 rfl ?_
    refine V.iload_n dX9_feed_44 rfl (i := 3) rfl ?_
    refine V.ic_ge (tgt := 73) dX9_feed_45 (by decide) (fun q => absurd q ((nI_ge (a := i) (b := N) (by omega) (by omega)))) (fun c45 => ?_)
    refine V.aload_n dX9_feed_48 rfl (i := 0) rfl ?_
    refine V.getR dX9_feed_49 rfl flRX9_12 rfl ⟨by decide, by decide⟩ ?_
    refine V.lload_n dX9_feed_52 rfl (i := 1) rfl ?_
    refine V.bipush dX9_feed_53 (v := 8) (by decide) ?_
    refine V.iload dX9_feed_55 rfl ?_
    refine V.imul dX9_feed_57 ?_
    refine V.top (x' := (nI (8 * i))) (pk_mul 8 i) ?_
    refine V.lushr dX9_feed_58 ?_
    refine V.l2i dX9_feed_59 ?_
    refine V.sipush dX9_feed_60 (v := 255) (by decide) ?_
    refine V.iand dX9_feed_63 ?_
    refine V.invv (z := mX7_addByte) (As := [_]) dX9_feed_64 rfl mlRX9_204 okX7_addByte npX7_addByte rfl rfl rfl ⟨by decide, by decide⟩ (Nat.le_of_ble_eq_true rfl) rfl (Nat.le_of_ble_eq_true rfl) (c_addByte (n := t + i) tapM_n (by omega) ?_)
    show V cS g (d + 1) mX9_feed 67 [some (.ref 0), some (.long w), none, some (.int (nI N)), some (.int (nI i))] [] (put (put (tapM M (bytF w) t i) 13 (t + i) (bytF w i)) 1 9 (nI (t + i + 1))) Q
    refine V.mem (tapM_s (f := bytF w)) ?_
    refine V.iinc dX9_feed_67 rfl (v := (nI (i + 1))) (nI_1 _) (by decide) (fun _ h => by cases h; exact Or.inl rfl) rfl ?_
    refine V.goto dX9_feed_70 (tgt := 42) (by decide) ?_
    exact ih (i + 1) (by omega)
set_option maxHeartbeats 4000000 in
set_option maxRecDepth 100000 in
theorem c9_feed {g : GG} {d : Nat} {M : Mem} {Q : Option Value → Mem → Prop} {w : Int64} {a : Int32} {t : Nat} (ht : M 1 9 = nI t) (h50 : t ≤ 50) (hbad : ¬ (1 ≤ a ∧ a ≤ 8) → Q (some (.int (-1000000001))) (put M 9 1 (M 9 1 + 1))) (hfull : ∀ N, 1 ≤ N → N ≤ 8 → a = nI N → 50 < t + N → Q (some (.int (-1000000004))) (put M 9 4 (M 9 4 + 1))) (hok : ∀ N, 1 ≤ N → N ≤ 8 → a = nI N → t + N ≤ 50 → Q (some (.int (nI (t + N)))) (tapM M (bytF w) t N)) : V cS g (d + 2) mX9_feed 0 [some (.ref 0), some (.long w), none, some (.int a), none] [] M Q := by
  by_cases h : 1 ≤ a ∧ a ≤ 8
  · obtain ⟨N, hN, rfl⟩ := nI_ex (n := 9) (by omega) (Int32.le_trans (by decide) h.1) (Int32.lt_of_le_of_lt h.2 (by decide))
    have hN1 : 1 ≤ N := (nI_leI (a := 1) (by omega) (by omega)).mp h.1
    by_cases q : t + N ≤ 50
    · skip
      refine V.iload_n dX9_feed_0 rfl (i := 3) rfl ?_
      refine V.iconst dX9_feed_1 (v := 1) (by decide) ?_
      refine V.ic_lt (tgt := 11) dX9_feed_2 (by decide) (fun q => absurd q ((Int32.not_lt.mpr h.1))) (fun c2 => ?_)
      refine V.iload_n dX9_feed_5 rfl (i := 3) rfl ?_
      refine V.bipush dX9_feed_6 (v := 8) (by decide) ?_
      refine V.ic_le (tgt := 18) dX9_feed_8 (by decide) (fun c8 => ?_) (fun q => absurd ((h.2)) q)
      refine V.aload_n dX9_feed_18 rfl (i := 0) rfl ?_
      refine V.getR dX9_feed_19 rfl flRX9_12 rfl ⟨by decide, by decide⟩ ?_
      refine V.getI dX9_feed_22 rfl flRX9_201 rfl ⟨by decide, by decide⟩ ?_
      refine V.top (x' := (nI t)) (ht) ?_
      refine V.iload_n dX9_feed_25 rfl (i := 3) rfl ?_
      refine V.iadd dX9_feed_26 ?_
      refine V.top (x' := (nI (t + N))) (nI_add t N) ?_
      refine V.bipush dX9_feed_27 (v := 50) (by decide) ?_
      refine V.ic_le (tgt := 39) dX9_feed_29 (by decide) (fun c29 => ?_) (fun q => absurd ((nI_le (a := t + N) (b := 50) (by omega) (by omega))) q)
      refine V.iconst dX9_feed_39 (v := 0) (by decide) ?_
      refine V.istore dX9_feed_40 (i := 4) (by decide) (fun _ h => by cases h; exact Or.inl rfl) rfl ?_
      exact V.mem (tapM_0 ht).symm (l_feed (d := d + 1) q (by omega) (hok N hN1 (by omega) rfl q) N 0 (by omega))
    · skip
      refine V.iload_n dX9_feed_0 rfl (i := 3) rfl ?_
      refine V.iconst dX9_feed_1 (v := 1) (by decide) ?_
      refine V.ic_lt (tgt := 11) dX9_feed_2 (by decide) (fun q => absurd q ((Int32.not_lt.mpr h.1))) (fun c2 => ?_)
      refine V.iload_n dX9_feed_5 rfl (i := 3) rfl ?_
      refine V.bipush dX9_feed_6 (v := 8) (by decide) ?_
      refine V.ic_le (tgt := 18) dX9_feed_8 (by decide) (fun c8 => ?_) (fun q => absurd ((h.2)) q)
      refine V.aload_n dX9_feed_18 rfl (i := 0) rfl ?_
      refine V.getR dX9_feed_19 rfl flRX9_12 rfl ⟨by decide, by decide⟩ ?_
      refine V.getI dX9_feed_22 rfl flRX9_201 rfl ⟨by decide, by decide⟩ ?_
      refine V.top (x' := (nI t)) (ht) ?_
      refine V.iload_n dX9_feed_25 rfl (i := 3) rfl ?_
      refine V.iadd dX9_feed_26 ?_
      refine V.top (x' := (nI (t + N))) (nI_add t N) ?_
      refine V.bipush dX9_feed_27 (v := 50) (by decide) ?_
      refine V.ic_le (tgt := 39) dX9_feed_29 (by decide) (fun q => absurd q ((nI_ge (a := 50) (b := t + N) (by omega) (by omega)))) (fun c29 => ?_)
      refine V.aload_n dX9_feed_32 rfl (i := 0) rfl ?_
      refine V.ldc dX9_feed_33 rfl ctRX9_107 ?_
      refine V.invv (z := mX9_error) (As := [_]) dX9_feed_35 rfl mlRX9_82 okX9_error npX9_error rfl rfl rfl ⟨by decide, by decide⟩ (Nat.le_of_ble_eq_true rfl) rfl (Nat.le_of_ble_eq_true rfl) (c_err4   ?_)
      show V cS g (d + 2) mX9_feed 38 [some (.ref 0), some (.long w), none, some (.int (nI N)), none] [.int (-1000000004 : Int32)] (put M 9 4 (M 9 4 + 1)) Q
      exact V.ret dX9_feed_38 rfl (hfull N hN1 (by omega) rfl (by omega))
  · skip
    refine V.iload_n dX9_feed_0 rfl (i := 3) rfl ?_
    refine V.iconst dX9_feed_1 (v := 1) (by decide) ?_
    refine V.ic_lt (tgt := 11) dX9_feed_2 (by decide) (fun c2 => ?_) (fun c2 => ?_)
    · refine V.aload_n dX9_feed_11 rfl (i := 0) rfl ?_
      refine V.ldc dX9_feed_12 rfl ctRX9_81 ?_
      refine V.invv (z := mX9_error) (As := [_]) dX9_feed_14 rfl mlRX9_82 okX9_error npX9_error rfl rfl rfl ⟨by decide, by decide⟩ (Nat.le_of_ble_eq_true rfl) rfl (Nat.le_of_ble_eq_true rfl) (c_err1   ?_)
      show V cS g (d + 2) mX9_feed 17 [some (.ref 0), some (.long w), none, some (.int a), none] [.int (-1000000001 : Int32)] (put M 9 1 (M 9 1 + 1)) Q
      exact V.ret dX9_feed_17 rfl (hbad h)
    · refine V.iload_n dX9_feed_5 rfl (i := 3) rfl ?_
      refine V.bipush dX9_feed_6 (v := 8) (by decide) ?_
      refine V.ic_le (tgt := 18) dX9_feed_8 (by decide) (fun c8 => ?_) (fun c8 => ?_)
      · exact absurd ⟨Int32.not_lt.mp c2, c8⟩ h
      · refine V.aload_n dX9_feed_11 rfl (i := 0) rfl ?_
        refine V.ldc dX9_feed_12 rfl ctRX9_81 ?_
        refine V.invv (z := mX9_error) (As := [_]) dX9_feed_14 rfl mlRX9_82 okX9_error npX9_error rfl rfl rfl ⟨by decide, by decide⟩ (Nat.le_of_ble_eq_true rfl) rfl (Nat.le_of_ble_eq_true rfl) (c_err1   ?_)
        show V cS g (d + 2) mX9_feed 17 [some (.ref 0), some (.long w), none, some (.int a), none] [.int (-1000000001 : Int32)] (put M 9 1 (M 9 1 + 1)) Q
        exact V.ret dX9_feed_17 rfl (hbad h)

