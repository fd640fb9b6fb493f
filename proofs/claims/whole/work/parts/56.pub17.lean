/-! ===== public methods: place ===== -/
/-- the best of the first places, and how loud -/
def plF (ld : Nat → Int32) : Nat → Nat × Int32
  | 0 => (0, -1)
  | j + 1 => if (plF ld j).2 < ld j then (5 * j, ld j) else plF ld j
theorem plF_cong {f h : Nat → Int32} : ∀ {n : Nat}, (∀ k, k < n → f k = h k) → plF f n = plF h n
  | 0, _ => rfl
  | n + 1, e => by rw [plF, plF, plF_cong (fun k hk => e k (by omega)), e n (by omega)]
theorem plF_stop {ld : Nat → Int32} (h : ∀ j, ld j ≤ 99) {j : Nat} (hj : 99 ≤ (plF ld j).2) : ∀ k, plF ld (j + k) = plF ld j
  | 0 => rfl
  | k + 1 => by
    rw [show j + (k + 1) = (j + k) + 1 from rfl, plF, plF_stop h hj k]
    exact if_neg (Int32.not_lt.mpr (Int32.le_trans (h _) hj))
theorem ldF_le (ok : Nat → Bool) : ∀ n, n ≤ 100 → ldF ok n ≤ 99
  | 0, _ => by unfold ldF; decide
  | n + 1, h => by
    unfold ldF
    split
    · exact nI_le (b := 99) (by omega) (by omega)
    · exact ldF_le ok n (by omega)
def ldA (M1 : Mem) (hp : Nat → Nat → Bool) (wy : Nat → Nat → Int32) (n ne : Nat) (s : Int32) : Int32 := ldF (fun l => !anB (fun e => bdP M1 hp wy n s e && hpL M1 (nI l) s e) ne) 100
theorem ldF_cong {p q : Nat → Bool} : ∀ {n : Nat}, (∀ k, k < n → p k = q k) → ldF p n = ldF q n
  | 0, _ => rfl
  | n + 1, e => by unfold ldF; rw [e n (by omega), ldF_cong (fun k hk => e k (by omega))]
theorem ldA_eq {M M1 : Mem} {hp : Nat → Nat → Bool} {wy : Nat → Nat → Int32} {n ne : Nat} {s : Int32} (h8 : n ≤ 8) (he : eqx [58, 69, 70] M M1) : ldA M1 hp wy n ne s = ldA M hp wy n ne s := by
  have hstr : strS M1 = strS M := strS_eq (he 14 (by decide)) (he 68 (by decide)) (he 10 (by decide))
  refine ldF_cong (fun l _ => ?_)
  refine congrArg Bool.not (anB_cong (fun e _ => ?_))
  have e1 : bdP M1 hp wy n s e = bdP M hp wy n s e := by
    unfold bdP
    refine anB_cong (fun b hb => ?_)
    unfold nrP
    simp only [he 1 (by decide), he 12 (by decide), he (30 + b) (by simp; omega)]
  have e2 : hpL M1 (nI l) s e = hpL M (nI l) s e := by
    unfold hpL
    rw [hstr, he 1 (by decide), he 12 (by decide)]
  simp only [e1, e2]

set_option maxHeartbeats 4000000 in
set_option maxRecDepth 100000 in
theorem l_place {g : GG} {d : Nat} {Q : Option Value → Mem → Prop} {M0 : Mem} {hp : Nat → Nat → Bool} {wy : Nat → Nat → Int32} {n ne : Nat} (hV : VB M0 n ne) (hH : Hd M0 hp wy n ne) {a w : Int32} (hc : ∀ M' l5 l6, eqx [58, 69, 70] M0 M' → V cS g (d + 5) mX9_place 89 [some (.ref 0), some (.int a), some (.int w), some (.int (nI (plF (fun j => ldA M0 hp wy n ne (nI (5 * j))) 20).1)), some (.int (plF (fun j => ldA M0 hp wy n ne (nI (5 * j))) 20).2), l5, l6] [] M' Q) : ∀ (k j : Nat) (M : Mem) (l6 : Option Value), j + k = 20 → eqx [58, 69, 70] M0 M → V cS g (d + 5) mX9_place 44 [some (.ref 0), some (.int a), some (.int w), some (.int (nI (plF (fun j => ldA M0 hp wy n ne (nI (5 * j))) j).1)), some (.int (plF (fun j => ldA M0 hp wy n ne (nI (5 * j))) j).2), some (.int (nI (5 * j))), l6] [] M Q := by
  have h8 := hV.2.1
  intro k
  induction k with
  | zero =>
    intro j M l6 hk he
    obtain rfl : j = 20 := by omega
    refine V.fg (ls' := [some (.ref 0), some (.int a), some (.int w), some (.int (nI (plF (fun j => ldA M0 hp wy n ne (nI (5 * j))) 20).1)), some (.int (plF (fun j => ldA M0 hp wy n ne (nI (5 * j))) 20).2), some (.int (nI (5 * 20))), none]) ⟨rfl, rfl, rfl, rfl, rfl, rfl, trivial⟩ ?_
    refine V.iload dX9_place_44 rfl ?_
    refine V.bipush dX9_place_46 (v := 100) (by decide) ?_
    refine V.ic_ge (tgt := 89) dX9_place_48 (by decide) (fun c48 => ?_) (fun q => absurd ((by decide)) q)
    exact hc M _ _ he
  | succ k ih =>
    intro j M l6 hk he
    have hVM : VB M n ne := hV.eq he (by decide) (by decide) (by decide) (fun b hb => by simp; omega)
    have hHM : Hd M hp wy n ne := hH.eq he h8 (by decide) (fun b hb => by simp; omega)
    have hrg : rg 0 99 (nI (5 * j)) := ⟨nI_pos' (by omega), nI_le (b := 99) (by omega) (by omega)⟩
    refine V.fg (ls' := [some (.ref 0), some (.int a), some (.int w), some (.int (nI (plF (fun j => ldA M0 hp wy n ne (nI (5 * j))) j).1)), some (.int (plF (fun j => ldA M0 hp wy n ne (nI (5 * j))) j).2), some (.int (nI (5 * j))), none]) ⟨rfl, rfl, rfl, rfl, rfl, rfl, trivial⟩ ?_
    by_cases h99 : 99 ≤ (plF (fun j => ldA M0 hp wy n ne (nI (5 * j))) j).2
    · have hst := plF_stop (ld := (fun j => ldA M0 hp wy n ne (nI (5 * j)))) (fun _ => ldF_le _ 100 (by omega)) h99 (k + 1)
      rw [hk] at hst
      rw [hst] at hc
      refine V.iload dX9_place_44 rfl ?_
      refine V.bipush dX9_place_46 (v := 100) (by decide) ?_
      refine V.ic_ge (tgt := 89) dX9_place_48 (by decide) (fun q => absurd q ((nI_ge (a := 5 * j) (b := 100) (by omega) (by omega)))) (fun c48 => ?_)
      refine V.iload dX9_place_51 rfl ?_
      refine V.bipush dX9_place_53 (v := 99) (by decide) ?_
      refine V.ic_ge (tgt := 89) dX9_place_55 (by decide) (fun c55 => ?_) (fun q => absurd (h99) q)
      exact hc M _ _ he
    · skip
      refine V.iload dX9_place_44 rfl ?_
      refine V.bipush dX9_place_46 (v := 100) (by decide) ?_
      refine V.ic_ge (tgt := 89) dX9_place_48 (by decide) (fun q => absurd q ((nI_ge (a := 5 * j) (b := 100) (by omega) (by omega)))) (fun c48 => ?_)
      refine V.iload dX9_place_51 rfl ?_
      refine V.bipush dX9_place_53 (v := 99) (by decide) ?_
      refine V.ic_ge (tgt := 89) dX9_place_55 (by decide) (fun q => absurd q (h99)) (fun c55 => ?_)
      refine V.aload_n dX9_place_58 rfl (i := 0) rfl ?_
      refine V.getR dX9_place_59 rfl flRX9_47 rfl ⟨by decide, by decide⟩ ?_
      refine V.iload dX9_place_62 rfl ?_
      refine V.invv (z := mX6_loudestAt) (As := [_]) dX9_place_64 rfl mlRX9_297 okX6_loudestAt npX6_loudestAt rfl rfl rfl ⟨by decide, by decide⟩ (Nat.le_of_ble_eq_true rfl) rfl (Nat.le_of_ble_eq_true rfl) (c_la hVM hHM hrg (fun M1 hM1 => ?_))
      show V cS g (d + 5) mX9_place 67 [some (.ref 0), some (.int a), some (.int w), some (.int (nI (plF (fun j => ldA M0 hp wy n ne (nI (5 * j))) j).1)), some (.int ((plF (fun j => ldA M0 hp wy n ne (nI (5 * j))) j).2)), some (.int (nI (5 * j))), none] [.int (ldA M hp wy n ne (nI (5 * j)))] M1 Q
      refine V.top (x' := (ldA M0 hp wy n ne (nI (5 * j)))) ((ldA_eq h8 he)) ?_
      refine V.istore dX9_place_67 (i := 6) (by decide) (fun _ h => by cases h; exact Or.inl rfl) rfl ?_
      refine V.iload dX9_place_69 rfl ?_
      refine V.iload dX9_place_71 rfl ?_
      refine V.ic_le (tgt := 83) dX9_place_73 (by decide) (fun c73 => ?_) (fun c73 => ?_)
      · refine V.lseq (ls' := [some (.ref 0), some (.int a), some (.int w), some (.int (nI (plF (fun j => ldA M0 hp wy n ne (nI (5 * j))) (j + 1)).1)), some (.int (plF (fun j => ldA M0 hp wy n ne (nI (5 * j))) (j + 1)).2), some (.int (nI (5 * j))), some (.int (ldA M0 hp wy n ne (nI (5 * j))))]) (by first | (rw [plF, if_neg (Int32.not_lt.mpr c73)]; try rfl) | (rw [plF, if_pos (Int32.not_le.mp c73)]; try rfl)) ?_
        refine V.iinc dX9_place_83 rfl (v := (nI (5 * (j + 1)))) (by rw [show 5 * (j + 1) = 5 * j + 5 by omega]; exact nI_add (5 * j) 5) (by decide) (fun _ h => by cases h; exact Or.inl rfl) rfl ?_
        refine V.goto dX9_place_86 (tgt := 44) (by decide) ?_
        exact ih (j + 1) M1 _ (by omega) (he.tr hM1)
      · refine V.iload dX9_place_76 rfl ?_
        refine V.istore_n dX9_place_78 rfl (i := 3) (by decide) (fun _ h => by cases h; exact Or.inl rfl) rfl ?_
        refine V.iload dX9_place_79 rfl ?_
        refine V.istore dX9_place_81 (i := 4) (by decide) (fun _ h => by cases h; exact Or.inl rfl) rfl ?_
        refine V.lseq (ls' := [some (.ref 0), some (.int a), some (.int w), some (.int (nI (plF (fun j => ldA M0 hp wy n ne (nI (5 * j))) (j + 1)).1)), some (.int (plF (fun j => ldA M0 hp wy n ne (nI (5 * j))) (j + 1)).2), some (.int (nI (5 * j))), some (.int (ldA M0 hp wy n ne (nI (5 * j))))]) (by first | (rw [plF, if_neg (Int32.not_lt.mpr c73)]; try rfl) | (rw [plF, if_pos (Int32.not_le.mp c73)]; try rfl)) ?_
        refine V.iinc dX9_place_83 rfl (v := (nI (5 * (j + 1)))) (by rw [show 5 * (j + 1) = 5 * j + 5 by omega]; exact nI_add (5 * j) 5) (by decide) (fun _ h => by cases h; exact Or.inl rfl) rfl ?_
        refine V.goto dX9_place_86 (tgt := 44) (by decide) ?_
        exact ih (j + 1) M1 _ (by omega) (he.tr hM1)
set_option maxHeartbeats 4000000 in
set_option maxRecDepth 100000 in
theorem c9_place {g : GG} {d : Nat} {M : Mem} {Q : Option Value → Mem → Prop} {a w : Int32} {n ne : Nat} (hV : VB M n ne) (hbad : ¬ ((0 ≤ a ∧ a ≤ 23) ∧ 0 ≤ w ∧ w ≤ 1) → Q (some (.int (-1000000001))) (put M 9 1 (M 9 1 + 1))) (hnone : ((0 ≤ a ∧ a ≤ 23) ∧ 0 ≤ w ∧ w ≤ 1) → ∀ M1 M2, eqx scrH M M1 → eqx [58, 69, 70] M1 M2 → (plF (fun j => ldA M1 (hpH M a) (wyH M) n ne (nI (5 * j))) 20).2 < 0 → Q (some (.int (-1000000002))) (put M2 9 2 (M2 9 2 + 1))) (hok : ((0 ≤ a ∧ a ≤ 23) ∧ 0 ≤ w ∧ w ≤ 1) → ∀ M1 M2, eqx scrH M M1 → eqx [58, 69, 70] M1 M2 → ¬ (plF (fun j => ldA M1 (hpH M a) (wyH M) n ne (nI (5 * j))) 20).2 < 0 → Q (some (.int (if w = 0 then nI (plF (fun j => ldA M1 (hpH M a) (wyH M) n ne (nI (5 * j))) 20).1 else (plF (fun j => ldA M1 (hpH M a) (wyH M) n ne (nI (5 * j))) 20).2))) M2) : V cS g (d + 5) mX9_place 0 [some (.ref 0), some (.int a), some (.int w), none, none, none, none] [] M Q := by
  have h8 := hV.2.1
  by_cases h : ((0 ≤ a ∧ a ≤ 23) ∧ 0 ≤ w ∧ w ≤ 1)
  · skip
    refine V.iload_n dX9_place_0 rfl (i := 1) rfl ?_
    refine V.invs (z := mX9_isHour) (As := [_]) dX9_place_1 rfl mlRX9_138 okX9_isHour npX9_isHour rfl (Nat.le_of_ble_eq_true rfl) rfl (Nat.le_of_ble_eq_true rfl) (c_isHour   ?_)
    show V cS g (d + 5) mX9_place 4 [some (.ref 0), some (.int a), some (.int w), none, none, none, none] [.int (b2i (0 ≤ a ∧ a ≤ 23))] (M) Q
    refine V.if_eq (tgt := 14) dX9_place_4 (by decide) (fun q => absurd q ((fun z => b2i_0.mp z h.1))) (fun c4 => ?_)
    refine V.iload_n dX9_place_7 rfl (i := 2) rfl ?_
    refine V.invs (z := mX9_isEither) (As := [_]) dX9_place_8 rfl mlRX9_225 okX9_isEither npX9_isEither rfl (Nat.le_of_ble_eq_true rfl) rfl (Nat.le_of_ble_eq_true rfl) (c_isEither   ?_)
    show V cS g (d + 5) mX9_place 11 [some (.ref 0), some (.int a), some (.int w), none, none, none, none] [.int (b2i (0 ≤ w ∧ w ≤ 1))] ((M)) Q
    refine V.if_ne (tgt := 21) dX9_place_11 (by decide) (fun c11 => ?_) (fun q => absurd q ((fun z => b2i_0.mp z h.2)))
    refine V.aload_n dX9_place_21 rfl (i := 0) rfl ?_
    refine V.getR dX9_place_22 rfl flRX9_31 rfl ⟨by decide, by decide⟩ ?_
    refine V.iload_n dX9_place_25 rfl (i := 1) rfl ?_
    refine V.aload_n dX9_place_26 rfl (i := 0) rfl ?_
    refine V.getR dX9_place_27 rfl flRX9_12 rfl ⟨by decide, by decide⟩ ?_
    refine V.getI dX9_place_30 rfl flRX9_94 rfl ⟨by decide, by decide⟩ ?_
    refine V.invv (z := mX1_listen) (As := [_, _]) dX9_place_33 rfl mlRX9_195 okX1_listen npX1_listen rfl rfl rfl ⟨by decide, by decide⟩ (Nat.le_of_ble_eq_true rfl) rfl (Nat.le_of_ble_eq_true rfl) (c_listen hV (fun M1 hM1 hH1 => ?_))
    show V cS g (d + 5) mX9_place 36 [some (.ref 0), some (.int a), some (.int w), none, none, none, none] [] M1 Q
    refine V.iconst dX9_place_36 (v := 0) (by decide) ?_
    refine V.istore_n dX9_place_37 rfl (i := 3) (by decide) (fun _ h => by cases h; exact Or.inl rfl) rfl ?_
    refine V.iconst dX9_place_38 (v := (-1)) (by decide) ?_
    refine V.istore dX9_place_39 (i := 4) (by decide) (fun _ h => by cases h; exact Or.inl rfl) rfl ?_
    refine V.iconst dX9_place_41 (v := 0) (by decide) ?_
    refine V.istore dX9_place_42 (i := 5) (by decide) (fun _ h => by cases h; exact Or.inl rfl) rfl ?_
    refine l_place (hV.eq hM1 (by decide) (by decide) (by decide) (fun b hb => by simp; omega)) hH1 (fun M2 l5 l6 hM2 => ?_) 20 0 M1 _ (by omega) eqx.rf
    refine V.fg (ls' := [some (.ref 0), some (.int a), some (.int w), some (.int (nI (plF (fun j => ldA M1 (hpH M a) (wyH M) n ne (nI (5 * j))) 20).1)), some (.int (plF (fun j => ldA M1 (hpH M a) (wyH M) n ne (nI (5 * j))) 20).2), none, none]) ⟨rfl, rfl, rfl, rfl, rfl, trivial⟩ ?_
    refine V.iload dX9_place_89 rfl ?_
    refine V.if_ge (tgt := 101) dX9_place_91 (by decide) (fun c91 => ?_) (fun c91 => ?_)
    · refine V.iload_n dX9_place_101 rfl (i := 2) rfl ?_
      refine V.if_ne (tgt := 109) dX9_place_102 (by decide) (fun c102 => ?_) (fun c102 => ?_)
      · refine V.iload dX9_place_109 rfl ?_
        exact V.ret dX9_place_111 rfl (Qi (hok h M1 M2 hM1 hM2 (Int32.not_lt.mpr c91)) (by first | rw [if_pos c102] | rw [if_neg c102]))
      · refine V.iload_n dX9_place_105 rfl (i := 3) rfl ?_
        refine V.goto dX9_place_106 (tgt := 111) (by decide) ?_
        exact V.ret dX9_place_111 rfl (Qi (hok h M1 M2 hM1 hM2 (Int32.not_lt.mpr c91)) (by first | rw [if_pos c102] | rw [if_neg c102]))
    · refine V.aload_n dX9_place_94 rfl (i := 0) rfl ?_
      refine V.ldc dX9_place_95 rfl ctRX9_157 ?_
      refine V.invv (z := mX9_error) (As := [_]) dX9_place_97 rfl mlRX9_82 okX9_error npX9_error rfl rfl rfl ⟨by decide, by decide⟩ (Nat.le_of_ble_eq_true rfl) rfl (Nat.le_of_ble_eq_true rfl) (c_err2   ?_)
      show V cS g (d + 5) mX9_place 100 [some (.ref 0), some (.int a), some (.int w), some (.int (nI (plF (fun j => ldA M1 (hpH M a) (wyH M) n ne (nI (5 * j))) 20).1)), some (.int ((plF (fun j => ldA M1 (hpH M a) (wyH M) n ne (nI (5 * j))) 20).2)), none, none] [.int (-1000000002 : Int32)] (put M2 9 2 (M2 9 2 + 1)) Q
      exact V.ret dX9_place_100 rfl (hnone h M1 M2 hM1 hM2 (Int32.not_le.mp c91))
  · skip
    refine V.iload_n dX9_place_0 rfl (i := 1) rfl ?_
    refine V.invs (z := mX9_isHour) (As := [_]) dX9_place_1 rfl mlRX9_138 okX9_isHour npX9_isHour rfl (Nat.le_of_ble_eq_true rfl) rfl (Nat.le_of_ble_eq_true rfl) (c_isHour   ?_)
    show V cS g (d + 5) mX9_place 4 [some (.ref 0), some (.int a), some (.int w), none, none, none, none] [.int (b2i (0 ≤ a ∧ a ≤ 23))] (M) Q
    refine V.if_eq (tgt := 14) dX9_place_4 (by decide) (fun c4 => ?_) (fun c4 => ?_)
    · refine V.aload_n dX9_place_14 rfl (i := 0) rfl ?_
      refine V.ldc dX9_place_15 rfl ctRX9_81 ?_
      refine V.invv (z := mX9_error) (As := [_]) dX9_place_17 rfl mlRX9_82 okX9_error npX9_error rfl rfl rfl ⟨by decide, by decide⟩ (Nat.le_of_ble_eq_true rfl) rfl (Nat.le_of_ble_eq_true rfl) (c_err1   ?_)
      show V cS g (d + 5) mX9_place 20 [some (.ref 0), some (.int a), some (.int w), none, none, none, none] [.int (-1000000001 : Int32)] (put (M) 9 1 ((M) 9 1 + 1)) Q
      exact V.ret dX9_place_20 rfl (hbad h)
    · refine V.iload_n dX9_place_7 rfl (i := 2) rfl ?_
      refine V.invs (z := mX9_isEither) (As := [_]) dX9_place_8 rfl mlRX9_225 okX9_isEither npX9_isEither rfl (Nat.le_of_ble_eq_true rfl) rfl (Nat.le_of_ble_eq_true rfl) (c_isEither   ?_)
      show V cS g (d + 5) mX9_place 11 [some (.ref 0), some (.int a), some (.int w), none, none, none, none] [.int (b2i (0 ≤ w ∧ w ≤ 1))] ((M)) Q
      refine V.if_ne (tgt := 21) dX9_place_11 (by decide) (fun c11 => ?_) (fun c11 => ?_)
      · exact absurd ⟨(Classical.byContradiction fun z => c4 (b2i_f z)), (Classical.byContradiction fun z => c11 (b2i_f z))⟩ h
      · refine V.aload_n dX9_place_14 rfl (i := 0) rfl ?_
        refine V.ldc dX9_place_15 rfl ctRX9_81 ?_
        refine V.invv (z := mX9_error) (As := [_]) dX9_place_17 rfl mlRX9_82 okX9_error npX9_error rfl rfl rfl ⟨by decide, by decide⟩ (Nat.le_of_ble_eq_true rfl) rfl (Nat.le_of_ble_eq_true rfl) (c_err1   ?_)
        show V cS g (d + 5) mX9_place 20 [some (.ref 0), some (.int a), some (.int w), none, none, none, none] [.int (-1000000001 : Int32)] (put ((M)) 9 1 (((M)) 9 1 + 1)) Q
        exact V.ret dX9_place_20 rfl (hbad h)

