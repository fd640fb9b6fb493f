/-! ===== Trials: the shifts tried ===== -/
def wN (j : Nat) : Int32 := nI j - 5
theorem wN_inc (x : Nat) : wN x + 1 = wN (x + 1) := by
  unfold wN
  rw [show nI (x + 1) = nI x + 1 from by have := nI_pred x; rw [← this, Int32.sub_add_cancel], Int32.sub_eq_add_neg, Int32.sub_eq_add_neg, Int32.add_assoc, Int32.add_assoc, Int32.add_comm (-5) 1]
theorem wN_5 (x : Nat) : wN x + 5 = nI x := Int32.sub_add_cancel _ _
theorem wN_gt : ∀ j, j ≤ 11 → (5 < wN j ↔ j = 11) := by decide +kernel
theorem bI_orC {p : Nat → Bool} {j : Nat} (hj : j < 31) : orC (bI p j) (p j) (1 <<< (nI j &&& 31)) = bI p (j + 1) := by
  cases q : p j with
  | true => rw [bI_t hj q]; rfl
  | false => rw [bI_f (by rw [q]; decide)]; rfl

set_option maxHeartbeats 4000000 in
set_option maxRecDepth 100000 in
theorem c_mark {g : GG} {d : Nat} {M : Mem} {Q : Option Value → Mem → Prop} {hp : Nat → Nat → Bool} {wy : Nat → Nat → Int32} {n ne : Nat} (hN : cnts M n ne) (hH : Hd M hp wy n ne) {a e : Nat} {t : Int32} (ha : a < n) (he : e < ne) (hQ : ∀ M', eqx [59] M M' → (∀ y, y < 601 → M' 59 y = orC (M 59 y) (anB (shB hp wy (M 1 6) (fun b => M (30 + b) 4) a e y) n) t) → Q none M') : V cS g (d + 3) mX6_markShifts 0 [some (.ref 6), some (.int (nI a)), some (.int (nI e)), some (.int t), none, none, none, none, none, none] [] M Q := by
  have h8 := hN.2.1
  have h10 := hN.2.2.2
  have he10 : e < 10 := by omega
  refine V.aload_n dX6_markShifts_0 rfl (i := 0) rfl ?_
  refine V.getR dX6_markShifts_1 rfl flRX6_25 rfl ⟨by decide, by decide⟩ ?_
  refine V.iload_n dX6_markShifts_4 rfl (i := 2) rfl ?_
  refine V.invv (z := mX1_heardAt) (As := [_]) dX6_markShifts_5 rfl mlRX6_92 okX1_heardAt npX1_heardAt rfl rfl rfl ⟨by decide, by decide⟩ (Nat.le_of_ble_eq_true rfl) rfl (Nat.le_of_ble_eq_true rfl) (c_heardAt  (by first | assumption | decide | omega) ?_)
  show V cS g (d + 3) mX6_markShifts 8 [some (.ref 6), some (.int (nI a)), some (.int (nI e)), some (.int t), none, none, none, none, none, none] [.int (M 29 e)] (M) Q
  refine V.top (x' := (bI (fun b => hp b e) n)) ((hH.1 e he)) ?_
  refine V.istore dX6_markShifts_8 (i := 4) (by decide) (fun _ h => by cases h; exact Or.inl rfl) rfl ?_
  refine V.iload dX6_markShifts_10 rfl ?_
  refine V.iload_n dX6_markShifts_12 rfl (i := 1) rfl ?_
  refine V.ishr dX6_markShifts_13 ?_
  refine V.iconst dX6_markShifts_14 (v := 1) (by decide) ?_
  refine V.iand dX6_markShifts_15 ?_
  refine V.if_ne (tgt := 20) dX6_markShifts_16 (by decide) (fun c16 => ?_) (fun c16 => ?_)
  · refine V.iconst dX6_markShifts_20 (v := 0) (by decide) ?_
    refine V.istore dX6_markShifts_21 (i := 5) (by decide) (fun _ h => by cases h; exact Or.inl rfl) rfl ?_
    exact l_mk hN hH ha he (Classical.not_not.mp (mt (bI_bit (p := fun b => hp b e) (n := n) (k := a) (by omega) (by omega)).mpr c16)).2 hQ n 0 M (by omega) eqx.rf (fun y hy => rfl)
  · exact V.vret dX6_markShifts_19 rfl (hQ M eqx.rf (fun y hy => by rw [show anB (shB hp wy (M 1 6) (fun b => M (30 + b) 4) a e y) n = false from Bool.eq_false_iff.mpr (fun z => by obtain ⟨b, _, q⟩ := anB_iff.mp z; unfold shB at q; rw [Bool.and_eq_true] at q; exact (bI_bit (by omega) (by omega)).mp c16 ⟨ha, q.1⟩), orC_f]))
set_option maxHeartbeats 4000000 in
set_option maxRecDepth 100000 in
theorem l_cl {g : GG} {d : Nat} {Q : Option Value → Mem → Prop} {a hour : Int32} {M0 : Mem} (hc : ∀ M', eqx [59] M0 M' → (∀ y, y < 601 → M' 59 y = 0) → V cS g d mX6_tryShifts 24 [some (.ref 6), some (.int a), some (.int hour), none, none] [] M' Q) : ∀ (k i : Nat) (M : Mem), i + k = 601 → eqx [59] M0 M → (∀ y, y < i → M 59 y = 0) → V cS g d mX6_tryShifts 2 [some (.ref 6), some (.int a), some (.int hour), some (.int (nI i)), none] [] M Q := by
  intro k
  induction k with
  | zero =>
    intro i M hk he hM
    obtain rfl : i = 601 := by omega
    refine V.iload_n dX6_tryShifts_2 rfl (i := 3) rfl ?_
    refine V.aload_n dX6_tryShifts_3 rfl (i := 0) rfl ?_
    refine V.getR dX6_tryShifts_4 rfl flRX6_18 rfl ⟨by decide, by decide⟩ ?_
    refine V.alen dX6_tryShifts_7 rfl (by decide) ⟨by decide, by decide⟩ ?_
    refine V.ic_ge (tgt := 24) dX6_tryShifts_8 (by decide) (fun c8 => ?_) (fun q => absurd ((by decide)) q)
    exact V.fg (ls' := [some (.ref 6), some (.int a), some (.int hour), none, none]) ⟨rfl, rfl, rfl, trivial⟩ (hc M he hM)
  | succ k ih =>
    intro i M hk he hM
    have hi : i < 601 := by omega
    refine V.iload_n dX6_tryShifts_2 rfl (i := 3) rfl ?_
    refine V.aload_n dX6_tryShifts_3 rfl (i := 0) rfl ?_
    refine V.getR dX6_tryShifts_4 rfl flRX6_18 rfl ⟨by decide, by decide⟩ ?_
    refine V.alen dX6_tryShifts_7 rfl (by decide) ⟨by decide, by decide⟩ ?_
    refine V.ic_ge (tgt := 24) dX6_tryShifts_8 (by decide) (fun q => absurd q ((nI_ge (a := i) (b := 601) (by omega) (by omega)))) (fun c8 => ?_)
    refine V.aload_n dX6_tryShifts_11 rfl (i := 0) rfl ?_
    refine V.getR dX6_tryShifts_12 rfl flRX6_18 rfl ⟨by decide, by decide⟩ ?_
    refine V.iload_n dX6_tryShifts_15 rfl (i := 3) rfl ?_
    refine V.iconst dX6_tryShifts_16 (v := 0) (by decide) ?_
    refine V.iastN dX6_tryShifts_17 rfl ⟨by decide, by decide⟩ (by first | assumption | decide | omega) (by decide) ?_
    refine V.iinc dX6_tryShifts_18 rfl (v := (nI (i + 1))) (nI_1 _) (by decide) (fun _ h => by cases h; exact Or.inl rfl) rfl ?_
    refine V.goto dX6_tryShifts_21 (tgt := 2) (by decide) ?_
    exact ih (i + 1) _ (by omega) (he.put (by decide)) (fun y hy => by by_cases q : y = i; subst q; rw [put_s]; rw [put_n (fun z => by omega)]; exact hM y (by omega))
set_option maxHeartbeats 4000000 in
set_option maxRecDepth 100000 in
theorem l_te {g : GG} {d : Nat} {Q : Option Value → Mem → Prop} {M0 : Mem} {hp : Nat → Nat → Bool} {wy : Nat → Nat → Int32} {n ne : Nat} (hN : cnts M0 n ne) (hH : Hd M0 hp wy n ne) {a j : Nat} {hour : Int32} (ha : a < n) (hj : j < 11) (hc : ∀ M', eqx [59] M0 M' → (∀ y, y < 601 → M' 59 y = orC (M0 59 y) (anB (fun e => anB (shB hp wy (M0 1 6) (fun b => M0 (30 + b) 4) a e y) n) ne) (1 <<< (nI j &&& 31))) → V cS g (d + 4) mX6_tryShifts 74 [some (.ref 6), some (.int (nI a)), some (.int hour), some (.int (wN j)), none] [] M' Q) : ∀ (k e : Nat) (M : Mem), e + k = ne → eqx [59] M0 M → (∀ y, y < 601 → M 59 y = orC (M0 59 y) (anB (fun e => anB (shB hp wy (M0 1 6) (fun b => M0 (30 + b) 4) a e y) n) e) (1 <<< (nI j &&& 31))) → V cS g (d + 4) mX6_tryShifts 44 [some (.ref 6), some (.int (nI a)), some (.int hour), some (.int (wN j)), some (.int (nI e))] [] M Q := by
  intro k
  induction k with
  | zero =>
    intro e M hk he hM
    have hz : M 1 4 = nI ne := by rw [he 1 (by decide)]; exact hN.2.2.1
    obtain rfl : e = ne := by omega
    refine V.iload dX6_tryShifts_44 rfl ?_
    refine V.aload_n dX6_tryShifts_46 rfl (i := 0) rfl ?_
    refine V.getR dX6_tryShifts_47 rfl flRX6_21 rfl ⟨by decide, by decide⟩ ?_
    refine V.getI dX6_tryShifts_50 rfl flRX6_53 rfl ⟨by decide, by decide⟩ ?_
    refine V.top (x' := (nI e)) (hz) ?_
    refine V.ic_ge (tgt := 74) dX6_tryShifts_53 (by decide) (fun c53 => ?_) (fun q => absurd ((Int32.le_refl _)) q)
    exact V.fg (ls' := [some (.ref 6), some (.int (nI a)), some (.int hour), some (.int (wN j)), none]) ⟨rfl, rfl, rfl, rfl, trivial⟩ (hc M he hM)
  | succ k ih =>
    intro e M hk he hM
    have hNM : cnts M n ne := hN.eq he (by decide)
    have h8 := hN.2.1
    have h10 := hN.2.2.2
    have hHM : Hd M hp wy n ne := hH.eq he h8 (by decide) (fun b hb => by simp; omega)
    have e1 : M 1 = M0 1 := he 1 (by decide)
    have e30 : ∀ x, x < 8 → M (30 + x) = M0 (30 + x) := fun x hx => he (30 + x) (by simp; omega)
    refine V.iload dX6_tryShifts_44 rfl ?_
    refine V.aload_n dX6_tryShifts_46 rfl (i := 0) rfl ?_
    refine V.getR dX6_tryShifts_47 rfl flRX6_21 rfl ⟨by decide, by decide⟩ ?_
    refine V.getI dX6_tryShifts_50 rfl flRX6_53 rfl ⟨by decide, by decide⟩ ?_
    refine V.top (x' := (nI ne)) (hNM.2.2.1) ?_
    refine V.ic_ge (tgt := 74) dX6_tryShifts_53 (by decide) (fun q => absurd q ((nI_ge (a := e) (b := ne) (by omega) (by omega)))) (fun c53 => ?_)
    refine V.aload_n dX6_tryShifts_56 rfl (i := 0) rfl ?_
    refine V.iload_n dX6_tryShifts_57 rfl (i := 1) rfl ?_
    refine V.iload dX6_tryShifts_58 rfl ?_
    refine V.iconst dX6_tryShifts_60 (v := 1) (by decide) ?_
    refine V.iload_n dX6_tryShifts_61 rfl (i := 3) rfl ?_
    refine V.iconst dX6_tryShifts_62 (v := 5) (by decide) ?_
    refine V.iadd dX6_tryShifts_63 ?_
    refine V.top (x' := (nI j)) ((wN_5 j)) ?_
    refine V.ishl dX6_tryShifts_64 ?_
    refine V.invv (z := mX6_markShifts) (As := [_, _, _]) dX6_tryShifts_65 rfl mlRX6_56 okX6_markShifts npX6_markShifts rfl rfl rfl ⟨by decide, by decide⟩ (Nat.le_of_ble_eq_true rfl) rfl (Nat.le_of_ble_eq_true rfl) (c_mark hNM hHM ha (by omega) (fun M1 hM1 hM2 => ?_))
    show V cS g (d + 4) mX6_tryShifts 68 [some (.ref 6), some (.int (nI a)), some (.int hour), some (.int (wN j)), some (.int (nI e))] [] M1 Q
    refine V.iinc dX6_tryShifts_68 rfl (v := (nI (e + 1))) (nI_1 _) (by decide) (fun _ h => by cases h; exact Or.inl rfl) rfl ?_
    refine V.goto dX6_tryShifts_71 (tgt := 44) (by decide) ?_
    exact ih (e + 1) M1 (by omega) (he.tr hM1) (fun y hy => by rw [hM2 y hy, hM y hy, orC_or, anB]; congr 2; exact anB_cong (fun b hb => by unfold shB; simp only [e1, e30 b (show b < 8 by omega), e30 a (show a < 8 by omega)]))
/-- against a shift, a wind -/
def shW (M : Mem) (n ne a : Nat) (hour : Int32) (y j : Nat) : Bool := anB (fun e => anB (shB (hpF M (fun b => strk (M (30 + b) 0) (M (30 + b) 1) (M (30 + b) 6) hour) (wN j)) (wyF M (wN j)) (M 1 6) (fun b => M (30 + b) 4) a e y) n) ne
abbrev scrW : List Nat := 59 :: scrH
set_option maxHeartbeats 4000000 in
set_option maxRecDepth 100000 in
theorem l_tw {g : GG} {d : Nat} {Q : Option Value → Mem → Prop} {M0 : Mem} {n ne : Nat} (hV : VB M0 n ne) {a : Nat} {hour : Int32} (ha : a < n) (hQ : ∀ M', eqx scrW M0 M' → (∀ y, y < 601 → M' 59 y = bI (shW M0 n ne a hour y) 11) → Q none M') : ∀ (k j : Nat) (M : Mem), j + k = 11 → eqx scrW M0 M → (∀ y, y < 601 → M 59 y = bI (shW M0 n ne a hour y) j) → V cS g (d + 5) mX6_tryShifts 27 [some (.ref 6), some (.int (nI a)), some (.int hour), some (.int (wN j)), none] [] M Q := by
  intro k
  induction k with
  | zero =>
    intro j M hk he hM
    obtain rfl : j = 11 := by omega
    refine V.iload_n dX6_tryShifts_27 rfl (i := 3) rfl ?_
    refine V.iconst dX6_tryShifts_28 (v := 5) (by decide) ?_
    refine V.ic_gt (tgt := 80) dX6_tryShifts_29 (by decide) (fun c29 => ?_) (fun q => absurd ((by decide)) q)
    exact V.vret dX6_tryShifts_80 rfl (hQ M he hM)
  | succ k ih =>
    intro j M hk he hM
    have h8 := hV.2.1
    have hVM : VB M n ne := hV.eq he (by decide) (by decide) (by decide) (fun b hb => by simp; omega)
    have hstr : strS M = strS M0 := strS_eq (he 14 (by decide)) (he 68 (by decide)) (he 10 (by decide))
    have e1 : M 1 = M0 1 := he 1 (by decide)
    have e12 : M 12 = M0 12 := he 12 (by decide)
    have e30 : ∀ x, x < 8 → M (30 + x) = M0 (30 + x) := fun x hx => he (30 + x) (by simp; omega)
    have hs : ∀ y, shW M n ne a hour y j = shW M0 n ne a hour y j := fun y => by
      unfold shW
      refine anB_cong (fun e _ => anB_cong (fun b hb => ?_))
      unfold shB hpF wyF
      simp only [hstr, e1, e12, e30 b (show b < 8 by omega), e30 a (show a < 8 by omega)]
    refine V.iload_n dX6_tryShifts_27 rfl (i := 3) rfl ?_
    refine V.iconst dX6_tryShifts_28 (v := 5) (by decide) ?_
    refine V.ic_gt (tgt := 80) dX6_tryShifts_29 (by decide) (fun q => absurd q ((fun z => absurd ((wN_gt j (by omega)).mp z) (by omega)))) (fun c29 => ?_)
    refine V.aload_n dX6_tryShifts_32 rfl (i := 0) rfl ?_
    refine V.getR dX6_tryShifts_33 rfl flRX6_25 rfl ⟨by decide, by decide⟩ ?_
    refine V.iload_n dX6_tryShifts_36 rfl (i := 2) rfl ?_
    refine V.iload_n dX6_tryShifts_37 rfl (i := 3) rfl ?_
    refine V.invv (z := mX1_listen) (As := [_, _]) dX6_tryShifts_38 rfl mlRX6_49 okX1_listen npX1_listen rfl rfl rfl ⟨by decide, by decide⟩ (Nat.le_of_ble_eq_true rfl) rfl (Nat.le_of_ble_eq_true rfl) (c_listen hVM (fun M1 hM1 hH1 => ?_))
    show V cS g (d + 5) mX6_tryShifts 41 [some (.ref 6), some (.int (nI a)), some (.int hour), some (.int (wN j)), none] [] M1 Q
    refine V.iconst dX6_tryShifts_41 (v := 0) (by decide) ?_
    refine V.istore dX6_tryShifts_42 (i := 4) (by decide) (fun _ h => by cases h; exact Or.inl rfl) rfl ?_
    refine l_te (hVM.eq hM1 (by decide) (by decide) (by decide) (fun b hb => by simp; omega)).cn hH1 ha (j := j) (by omega) (fun M' he' hM' => ?_) ne 0 M1 (by omega) eqx.rf (fun y hy => rfl)
    have h4 : ∀ y, anB (fun e => anB (shB (hpF M (fun b => strk (M (30 + b) 0) (M (30 + b) 1) (M (30 + b) 6) hour) (wN j)) (wyF M (wN j)) (M1 1 6) (fun b => M1 (30 + b) 4) a e y) n) ne = shW M0 n ne a hour y j := fun y => by
      rw [← hs y]
      unfold shW
      refine anB_cong (fun e _ => anB_cong (fun b hb => ?_))
      unfold shB
      simp only [hM1 1 (by decide), hM1 (30 + b) (by simp; omega), hM1 (30 + a) (by simp; omega)]
    refine V.iinc dX6_tryShifts_74 rfl (v := (wN (j + 1))) (wN_inc j) (by decide) (fun _ h => by cases h; exact Or.inl rfl) rfl ?_
    refine V.goto dX6_tryShifts_77 (tgt := 27) (by decide) ?_
    exact ih (j + 1) M' (by omega) (he.tr ((hM1.up (fun c hc => List.mem_cons_of_mem _ hc)).tr (he'.up (fun c hc => by rw [List.mem_singleton.mp hc]; exact List.mem_cons_self)))) (fun y hy => by rw [hM' y hy, h4 y, hM1 59 (by decide), hM y hy]; exact bI_orC (by omega))
set_option maxHeartbeats 4000000 in
set_option maxRecDepth 100000 in
theorem c_ts {g : GG} {d : Nat} {M : Mem} {Q : Option Value → Mem → Prop} {n ne : Nat} (hV : VB M n ne) {a : Nat} {hour : Int32} (ha : a < n) (hQ : ∀ M', eqx scrW M M' → (∀ y, y < 601 → M' 59 y = bI (shW M n ne a hour y) 11) → Q none M') : V cS g (d + 5) mX6_tryShifts 0 [some (.ref 6), some (.int (nI a)), some (.int hour), none, none] [] M Q := by
  have h8 := hV.2.1
  refine V.iconst dX6_tryShifts_0 (v := 0) (by decide) ?_
  refine V.istore_n dX6_tryShifts_1 rfl (i := 3) (by decide) (fun _ h => by cases h; exact Or.inl rfl) rfl ?_
  refine l_cl (fun M1 hM1 hM2 => ?_) 601 0 M (by omega) eqx.rf (fun y hy => absurd hy (Nat.not_lt_zero _))
  refine V.bipush dX6_tryShifts_24 (v := (-5)) (by decide) ?_
  refine V.istore_n dX6_tryShifts_26 rfl (i := 3) (by decide) (fun _ h => by cases h; exact Or.inl rfl) rfl ?_
  exact l_tw hV ha hQ 11 0 M1 (by omega) (hM1.up (fun c hc => by rw [List.mem_singleton.mp hc]; exact List.mem_cons_self)) (fun y hy => by rw [hM2 y hy, bI_0])

