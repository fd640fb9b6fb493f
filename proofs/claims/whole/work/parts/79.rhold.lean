/-! ===== the reference: winds, shifts ===== -/
def wdM (M : Mem) (j : Nat) : Mem := put M 84 100 (wN j)
/-- but for the wind, the same -/
def KpW (M M' : Mem) : Prop := (∀ c, c = 86 ∨ c = 87 ∨ c = 97 ∨ c = 98 ∨ c = 99 ∨ c = 100 → M' c = M c) ∧ (∀ i, i ≠ 100 → M' 84 i = M 84 i) ∧ M' 83 3 = M 83 3 ∧ M' 83 22 = M 83 22
theorem KpW.rf {M : Mem} : KpW M M := ⟨fun _ _ => rfl, fun _ _ => rfl, rfl, rfl⟩
theorem KpW.p {M M1 : Mem} {x : Int32} (h : KpW M M1) : KpW M (put M1 84 100 x) := ⟨fun c hc => by rw [put_cell (by omega)]; exact h.1 c hc, fun i hi => by rw [put_n (fun q => hi q.2)]; exact h.2.1 i hi, by rw [put_cell (by decide)]; exact h.2.2.1, by rw [put_cell (by decide)]; exact h.2.2.2⟩
theorem KpW.x {M M1 M2 : Mem} (h : KpW M M1) (h2 : KpX M1 M2) : KpW M M2 := ⟨fun c hc => (h2.1 c (by omega)).trans (h.1 c hc), fun i hi => by rw [h2.d]; exact h.2.1 i hi, h2.2.1.trans h.2.2.1, h2.2.2.trans h.2.2.2⟩
theorem KpW.at {M M1 : Mem} {j : Nat} (h : KpW M M1) : put M1 84 100 (wN j) 84 = wdM M j 84 := by
  funext i
  unfold wdM
  by_cases hi : i = 100
  · subst hi; rw [put_s, put_s]
  · rw [put_n (fun q => hi q.2), put_n (fun q => hi q.2)]; exact h.2.1 i hi
theorem KpW.back {M M1 : Mem} (h : KpW M M1) : KpX M (put M1 84 100 (M 84 100)) := by
  refine ⟨fun c hc => ?_, by rw [put_cell (by decide)]; exact h.2.2.1, by rw [put_cell (by decide)]; exact h.2.2.2⟩
  by_cases h84 : c = 84
  · subst h84
    funext i
    by_cases hi : i = 100
    · subst hi; rw [put_s]
    · rw [put_n (fun q => hi q.2)]; exact h.2.1 i hi
  · rw [put_cell h84]; exact h.1 c (by omega)
theorem wN_rg2 : ∀ j, j < 11 → rg (-5) 5 (wN j) := by unfold rg; decide +kernel
theorem wd_n {M : Mem} {j i : Nat} (h : i ≠ 100) : wdM M j 84 i = M 84 i := put_n (fun q => h q.2)
theorem VR.w {S : List Int32} {M : Mem} {n ne j : Nat} (h : VR S M n ne) (hj : j < 11) : VR S (wdM M j) n ne := by
  obtain ⟨h1, h2, h3, h4, h5, h6, h7, h8⟩ := h
  refine ⟨by rw [wd_n (by decide)]; exact h1, h2, by rw [wd_n (by decide)]; exact h3, h4, ?_, ?_, fun b hb => ?_, fun e he => ?_⟩
  · unfold wdM; rw [put_s]; exact wN_rg2 j hj
  · unfold LwR
    rw [wd_n (by omega)]
    rw [show (fun i => wdM M j 84 (203 + 50 * 0 + i)) = (fun i => M 84 (203 + 50 * 0 + i)) from funext fun i => wd_n (by omega)]
    exact h6
  · unfold BB
    rw [wd_n (by omega), wd_n (by omega)]
    exact h7 b hb
  · rw [wd_n (by omega)]
    exact h8 e he
theorem wd_off {M : Mem} {j : Nat} : offR (wdM M j) = offR M := by
  funext x
  exact wd_n (by omega)
theorem bI_orw {p : Nat → Bool} {j : Nat} {x : Int32} (hj : j < 31) (h : p j = decide (x = 0)) : bI p j ||| (if x = (0 : Int32) then ((1 : Int32) <<< ((wN j + (5 : Int32)) &&& (31 : Int32))) else (0 : Int32)) = bI p (j + 1) := by
  by_cases hx : x = 0
  · rw [if_pos hx, wN_5, bI_t hj (by rw [h]; exact decide_eq_true hx)]
  · rw [if_neg hx, Int32.or_zero, bI_f (by rw [h]; exact fun z => hx (of_decide_eq_true z))]
theorem wN_ge : ∀ j, j ≤ 11 → (6 ≤ wN j ↔ j = 11) := by decide +kernel
def cwR (S : List Int32) (M : Mem) (n ne : Nat) (h : Int32) (j : Nat) : Bool := decide (caR S (wdM M j) n ne h = 0)

set_option maxHeartbeats 4000000 in
set_option maxRecDepth 100000 in
theorem l_wdR {g : GG} {d : Nat} {Q : Option Value → Mem → Prop} {M0 : Mem} {h : Int32} {S : List Int32} {n ne : Nat} (hV : VR S M0 n ne) (hQ : ∀ M', KpX M0 M' → Q (some (.int (bI (cwR S M0 n ne h) 11))) M') : ∀ (k j : Nat) (M : Mem), j + k = 11 → KpW M0 M → V rS g (d + 67) mX10_winds 27 [some (.ref 83), some (.int h), some (.int (M0 84 100)), some (.int (bI (cwR S M0 n ne h) j)), some (.int (wN j))] [] M Q := by
  intro k
  induction k with
  | zero =>
    intro j M hk hM
    obtain rfl : j = 11 := by omega
    refine V.iload dX10_winds_27 rfl ?_
    refine V.bipush dX10_winds_29 (v := 6) (by decide) ?_
    refine V.ic_ge (tgt := 70) dX10_winds_31 (by decide) (fun c31 => ?_) (fun q => absurd ((by decide)) q)
    refine V.aload_n dX10_winds_70 rfl (i := 0) rfl ?_
    refine V.getR dX10_winds_71 rfl flRX10_7 rfl ⟨by decide, by decide⟩ ?_
    refine V.bipush dX10_winds_74 (v := 100) (by decide) ?_
    refine V.iload_n dX10_winds_76 rfl (i := 2) rfl ?_
    refine V.top1 (x' := nI 100) (by decide) ?_
    refine V.iastN dX10_winds_77 rfl ⟨by decide, by decide⟩ (by first | assumption | decide | omega) (by decide) ?_
    refine V.iload_n dX10_winds_78 rfl (i := 3) rfl ?_
    exact V.ret dX10_winds_79 rfl (hQ _ hM.back)
  | succ k ih =>
    intro j M hk hM
    refine V.iload dX10_winds_27 rfl ?_
    refine V.bipush dX10_winds_29 (v := 6) (by decide) ?_
    refine V.ic_ge (tgt := 70) dX10_winds_31 (by decide) (fun q => absurd q ((fun z => absurd ((wN_ge j (by omega)).mp z) (by omega)))) (fun c31 => ?_)
    refine V.aload_n dX10_winds_34 rfl (i := 0) rfl ?_
    refine V.getR dX10_winds_35 rfl flRX10_7 rfl ⟨by decide, by decide⟩ ?_
    refine V.bipush dX10_winds_38 (v := 100) (by decide) ?_
    refine V.iload dX10_winds_40 rfl ?_
    refine V.top1 (x' := nI 100) (by decide) ?_
    refine V.iastN dX10_winds_42 rfl ⟨by decide, by decide⟩ (by first | assumption | decide | omega) (by decide) ?_
    refine V.iload_n dX10_winds_43 rfl (i := 3) rfl ?_
    refine V.aload_n dX10_winds_44 rfl (i := 0) rfl ?_
    refine V.iload_n dX10_winds_45 rfl (i := 1) rfl ?_
    refine V.invv (z := mX10_clashesAt) (As := [_]) dX10_winds_46 rfl mlRX10_245 okX10_clashesAt npX10_clashesAt rfl rfl rfl ⟨by decide, by decide⟩ (Nat.le_of_ble_eq_true rfl) rfl (Nat.le_of_ble_eq_true rfl) (c_ca (S := S) (n := n) (ne := ne) ((hV.w (show j < 11 by omega)).eq hM.at) (fun M1 hM1 hH1 => ?_))
    show V rS g (d + 67) mX10_winds 49 [some (.ref 83), some (.int h), some (.int (M0 84 100)), some (.int (bI (cwR S M0 n ne h) j)), some (.int (wN j))] [.int (caR S (put M 84 100 (wN j)) n ne h), .int (bI (cwR S M0 n ne h) j)] M1 Q
    refine V.top (x' := (caR S (wdM M0 j) n ne h)) ((caR_eq hM.at)) ?_
    suffices kJ49 : V rS g (d + 67) mX10_winds 62 [some (.ref 83), some (.int h), some (.int (M0 84 100)), some (.int (bI (cwR S M0 n ne h) j)), some (.int (wN j))] [.int (if (caR S (wdM M0 j) n ne h) = (0 : Int32) then ((1 : Int32) <<< (((wN j) + (5 : Int32)) &&& 31)) else (0 : Int32)), .int (bI (cwR S M0 n ne h) j)] M1 Q by
      refine V.if_ne (tgt := 61) dX10_winds_49 (by decide) (fun c49 => ?_) (fun c49 => ?_)
      · refine V.iconst dX10_winds_61 (v := 0) (by decide) ?_
        rw [if_neg c49] at kJ49; exact kJ49
      · refine V.iconst dX10_winds_52 (v := 1) (by decide) ?_
        refine V.iload dX10_winds_53 rfl ?_
        refine V.iconst dX10_winds_55 (v := 5) (by decide) ?_
        refine V.iadd dX10_winds_56 ?_
        refine V.ishl dX10_winds_57 ?_
        refine V.goto dX10_winds_58 (tgt := 62) (by decide) ?_
        rw [if_pos c49] at kJ49; exact kJ49
    refine V.ior dX10_winds_62 ?_
    refine V.top (x' := (bI (cwR S M0 n ne h) (j + 1))) ((bI_orw (by omega) rfl)) ?_
    refine V.istore_n dX10_winds_63 rfl (i := 3) (by decide) (fun _ h => by cases h; exact Or.inl rfl) rfl ?_
    refine V.iinc dX10_winds_64 rfl (v := (wN (j + 1))) (wN_inc j) (by decide) (fun _ h => by cases h; exact Or.inl rfl) rfl ?_
    refine V.goto dX10_winds_67 (tgt := 27) (by decide) ?_
    exact ih (j + 1) M1 (by omega) (hM.p.x hM1.x)
set_option maxHeartbeats 4000000 in
set_option maxRecDepth 100000 in
theorem c10_winds {g : GG} {d : Nat} {M : Mem} {Q : Option Value → Mem → Prop} {a : Int32} {S : List Int32} {n ne : Nat} (hV : VR S M n ne) (hbad : ¬ (0 ≤ a ∧ a ≤ 23) → Q (some (.int (-1000000001))) (put M 87 1 (M 87 1 + 1))) (hok : (0 ≤ a ∧ a ≤ 23) → ∀ M', KpX M M' → Q (some (.int (bI (cwR S M n ne a) 11))) M') : V rS g (d + 67) mX10_winds 0 [some (.ref 83), some (.int a), none, none, none] [] M Q := by
  by_cases h : 0 ≤ a ∧ a ≤ 23
  · skip
    refine V.iload_n dX10_winds_0 rfl (i := 1) rfl ?_
    refine V.invs (z := mX10_isHour) (As := [_]) dX10_winds_1 rfl mlRX10_191 okX10_isHour npX10_isHour rfl (Nat.le_of_ble_eq_true rfl) rfl (Nat.le_of_ble_eq_true rfl) (c_hourR   ?_)
    show V rS g (d + 67) mX10_winds 4 [some (.ref 83), some (.int a), none, none, none] [.int (b2i (0 ≤ a ∧ a ≤ 23))] (M) Q
    refine V.if_ne (tgt := 13) dX10_winds_4 (by decide) (fun c4 => ?_) (fun q => absurd q ((fun z => b2i_0.mp z h)))
    refine V.aload_n dX10_winds_13 rfl (i := 0) rfl ?_
    refine V.getR dX10_winds_14 rfl flRX10_7 rfl ⟨by decide, by decide⟩ ?_
    refine V.bipush dX10_winds_17 (v := 100) (by decide) ?_
    refine V.top (x' := nI 100) (by decide) ?_
    refine V.ialdN dX10_winds_19 rfl ⟨by decide, by decide⟩ (by first | assumption | decide | omega) (by decide) ?_
    refine V.istore_n dX10_winds_20 rfl (i := 2) (by decide) (fun _ h => by cases h; exact Or.inl rfl) rfl ?_
    refine V.iconst dX10_winds_21 (v := 0) (by decide) ?_
    refine V.istore_n dX10_winds_22 rfl (i := 3) (by decide) (fun _ h => by cases h; exact Or.inl rfl) rfl ?_
    refine V.bipush dX10_winds_23 (v := (-5)) (by decide) ?_
    refine V.istore dX10_winds_25 (i := 4) (by decide) (fun _ h => by cases h; exact Or.inl rfl) rfl ?_
    exact l_wdR hV (hok h) 11 0 M (by omega) KpW.rf
  · skip
    refine V.iload_n dX10_winds_0 rfl (i := 1) rfl ?_
    refine V.invs (z := mX10_isHour) (As := [_]) dX10_winds_1 rfl mlRX10_191 okX10_isHour npX10_isHour rfl (Nat.le_of_ble_eq_true rfl) rfl (Nat.le_of_ble_eq_true rfl) (c_hourR   ?_)
    show V rS g (d + 67) mX10_winds 4 [some (.ref 83), some (.int a), none, none, none] [.int (b2i (0 ≤ a ∧ a ≤ 23))] (M) Q
    refine V.if_ne (tgt := 13) dX10_winds_4 (by decide) (fun c4 => ?_) (fun c4 => ?_)
    · exact absurd (Classical.byContradiction fun z => c4 (b2i_f z)) h
    · refine V.aload_n dX10_winds_7 rfl (i := 0) rfl ?_
      refine V.iconst dX10_winds_8 (v := 1) (by decide) ?_
      refine V.invv (z := mX10_finds) (As := [_]) dX10_winds_9 rfl mlRX10_131 okX10_finds npX10_finds rfl rfl rfl ⟨by decide, by decide⟩ (Nat.le_of_ble_eq_true rfl) rfl (Nat.le_of_ble_eq_true rfl) (c_fnd1   ?_)
      show V rS g (d + 67) mX10_winds 12 [some (.ref 83), some (.int a), none, none, none] [.int (-1000000001 : Int32)] (put (M) 87 1 ((M) 87 1 + 1)) Q
      exact V.ret dX10_winds_12 rfl (hbad h)
/-- does a shift clash in a wind -/
def hW (S : List Int32) (M : Mem) (n ne : Nat) (h : Int32) (b y j : Nat) : Bool := decide (0 < ccS (hpR S (wdM M j) h) (wyR (wdM M j)) (M 84 101) (offR M) n ne b (sN y))
theorem sN_inc (x : Nat) : sN x + 1 = sN (x + 1) := sh_inc x
theorem sN_i (x : Nat) : (300 : Int32) + sN x = nI x := by rw [Int32.add_comm]; exact sh_idx x
theorem sN_gt {y bd : Nat} (hy : y ≤ 601) (hb : bd ≤ 300) : (nI bd < sN y ↔ 300 + bd < y) := by
  rw [Int32.lt_iff_toInt_lt, nI_toInt (by omega), show (sN y).toInt = (y : Int) - 300 from sh_toInt y hy]
  omega
theorem hit_add {n : Nat} {x : Int32} : nI n + (if x ≤ (0 : Int32) then (0 : Int32) else (1 : Int32)) = nI (n + (if decide (0 < x) = true then 1 else 0)) := by
  by_cases h : 0 < x
  · rw [if_neg (Int32.not_le.mpr h), if_pos (decide_eq_true h)]; exact nI_1 n
  · rw [if_pos (Int32.not_lt.mp h), if_neg (fun z => h (of_decide_eq_true z)), Int32.add_zero, Nat.add_zero]

set_option maxHeartbeats 4000000 in
set_option maxRecDepth 100000 in
theorem l_h0 {g : GG} {d : Nat} {Q : Option Value → Mem → Prop} {b : Nat} {h v : Int32} {M0 : Mem} (hc : ∀ M', eqx [96] M0 M' → (∀ y, y < 601 → M' 96 y = 0) → V rS g d mX10_holds 56 [some (.ref 83), some (.int (nI b)), some (.int h), some (.int v), none, none, none] [] M' Q) : ∀ (k i : Nat) (M : Mem), i + k = 601 → eqx [96] M0 M → (∀ y, y < i → M 96 y = 0) → V rS g d mX10_holds 34 [some (.ref 83), some (.int (nI b)), some (.int h), some (.int v), some (.int (nI i)), none, none] [] M Q := by
  intro k
  induction k with
  | zero =>
    intro i M hk he hM
    obtain rfl : i = 601 := by omega
    refine V.iload dX10_holds_34 rfl ?_
    refine V.sipush dX10_holds_36 (v := 601) (by decide) ?_
    refine V.ic_ge (tgt := 56) dX10_holds_39 (by decide) (fun c39 => ?_) (fun q => absurd ((by decide)) q)
    exact V.fg (ls' := [some (.ref 83), some (.int (nI b)), some (.int h), some (.int v), none, none, none]) ⟨rfl, rfl, rfl, rfl, trivial⟩ (hc M he hM)
  | succ k ih =>
    intro i M hk he hM
    have hi : i < 601 := by omega
    refine V.iload dX10_holds_34 rfl ?_
    refine V.sipush dX10_holds_36 (v := 601) (by decide) ?_
    refine V.ic_ge (tgt := 56) dX10_holds_39 (by decide) (fun q => absurd q ((nI_ge (a := i) (b := 601) (by omega) (by omega)))) (fun c39 => ?_)
    refine V.aload_n dX10_holds_42 rfl (i := 0) rfl ?_
    refine V.getR dX10_holds_43 rfl flRX10_47 rfl ⟨by decide, by decide⟩ ?_
    refine V.iload dX10_holds_46 rfl ?_
    refine V.iconst dX10_holds_48 (v := 0) (by decide) ?_
    refine V.iastN dX10_holds_49 rfl ⟨by decide, by decide⟩ (by first | assumption | decide | omega) (by decide) ?_
    refine V.iinc dX10_holds_50 rfl (v := (nI (i + 1))) (nI_1 _) (by decide) (fun _ h => by cases h; exact Or.inl rfl) rfl ?_
    refine V.goto dX10_holds_53 (tgt := 34) (by decide) ?_
    exact ih (i + 1) _ (by omega) (he.put (by decide)) (fun y hy => by by_cases hq : y = i; subst hq; rw [put_s]; rw [put_n (fun z => by omega)]; exact hM y (by omega))
set_option maxHeartbeats 4000000 in
set_option maxRecDepth 100000 in
theorem l_hs {g : GG} {d : Nat} {Q : Option Value → Mem → Prop} {M0 M1 : Mem} {h v : Int32} {S : List Int32} {n ne b j bd : Nat} (hV : VR S M0 n ne) (hb : b < n) (hj : j < 11) (hbd : M0 84 102 = nI bd) (h300 : bd ≤ 300) (h84 : M1 84 = wdM M0 j 84) (hH : HdR M1 (hpR S (wdM M0 j) h) (wyR (wdM M0 j)) n ne) (h1 : ∀ y, 300 - bd ≤ y → y ≤ 300 + bd → M1 96 y = nI (cB (hW S M0 n ne h b y) j)) (hc : ∀ M', eqx [96] M1 M' → (∀ y, 300 - bd ≤ y → y ≤ 300 + bd → M' 96 y = nI (cB (hW S M0 n ne h b y) (j + 1))) → V rS g (d + 4) mX10_holds 147 [some (.ref 83), some (.int (nI b)), some (.int h), some (.int v), some (.int (M0 84 100)), some (.int (wN j)), none] [] M' Q) : ∀ (k y : Nat) (M : Mem), y + k = 301 + bd → 300 - bd ≤ y → eqx [96] M1 M → (∀ y', 300 - bd ≤ y' → y' ≤ 300 + bd → M 96 y' = if y' < y then nI (cB (hW S M0 n ne h b y') (j + 1)) else nI (cB (hW S M0 n ne h b y') j)) → V rS g (d + 4) mX10_holds 100 [some (.ref 83), some (.int (nI b)), some (.int h), some (.int v), some (.int (M0 84 100)), some (.int (wN j)), some (.int (sN y))] [] M Q := by
  have h8 := hV.2.1
  have h10 := hV.2.2.2.1
  intro k
  induction k with
  | zero =>
    intro y M hk hy he hM
    obtain rfl : y = 301 + bd := by omega
    refine V.iload dX10_holds_100 rfl ?_
    refine V.aload_n dX10_holds_102 rfl (i := 0) rfl ?_
    refine V.getR dX10_holds_103 rfl flRX10_7 rfl ⟨by decide, by decide⟩ ?_
    refine V.bipush dX10_holds_106 (v := 102) (by decide) ?_
    refine V.top (x' := nI 102) (by decide) ?_
    refine V.ialdN dX10_holds_108 rfl ⟨by decide, by decide⟩ (by first | assumption | decide | omega) (by decide) ?_
    refine V.top (x' := (nI bd)) ((by rw [he 84 (by decide), h84, wd_n (by decide)]; exact hbd)) ?_
    refine V.ic_gt (tgt := 147) dX10_holds_109 (by decide) (fun c109 => ?_) (fun q => absurd (((sN_gt (by omega) h300).mpr (by omega))) q)
    exact V.fg (ls' := [some (.ref 83), some (.int (nI b)), some (.int h), some (.int v), some (.int (M0 84 100)), some (.int (wN j)), none]) ⟨rfl, rfl, rfl, rfl, rfl, rfl, trivial⟩ (hc M he (fun y' a1 a2 => by rw [hM y' a1 a2, if_pos (by omega)]))
  | succ k ih =>
    intro y M hk hy he hM
    have hy6 : y < 601 := by omega
    have e84 : M 84 = wdM M0 j 84 := by rw [he 84 (by decide), h84]
    have hVw := hV.w hj
    have hHM : HdR M (hpR S (wdM M0 j) h) (wyR (wdM M0 j)) n ne := fun b' e hb' hee => by rw [he 90 (by decide), he 89 (by decide)]; exact hH b' e hb' hee
    have hv0 : M 96 y = nI (cB (hW S M0 n ne h b y) j) := by rw [hM y hy (by omega), if_neg (Nat.lt_irrefl _)]
    have e3 : ccS (hpR S (wdM M0 j) h) (wyR (wdM M0 j)) (M 84 101) (offR M) n ne b (sN y) = ccS (hpR S (wdM M0 j) h) (wyR (wdM M0 j)) (M0 84 101) (offR M0) n ne b (sN y) := by
      rw [show M 84 101 = M0 84 101 from by rw [e84, wd_n (by decide)], show offR M = offR M0 from by rw [← wd_off (M := M0) (j := j)]; unfold offR; rw [e84]]
    refine V.iload dX10_holds_100 rfl ?_
    refine V.aload_n dX10_holds_102 rfl (i := 0) rfl ?_
    refine V.getR dX10_holds_103 rfl flRX10_7 rfl ⟨by decide, by decide⟩ ?_
    refine V.bipush dX10_holds_106 (v := 102) (by decide) ?_
    refine V.top (x' := nI 102) (by decide) ?_
    refine V.ialdN dX10_holds_108 rfl ⟨by decide, by decide⟩ (by first | assumption | decide | omega) (by decide) ?_
    refine V.top (x' := (nI bd)) ((by rw [e84, wd_n (by decide)]; exact hbd)) ?_
    refine V.ic_gt (tgt := 147) dX10_holds_109 (by decide) (fun q => absurd q ((fun z => absurd ((sN_gt (by omega) h300).mp z) (by omega)))) (fun c109 => ?_)
    refine V.aload_n dX10_holds_112 rfl (i := 0) rfl ?_
    refine V.getR dX10_holds_113 rfl flRX10_47 rfl ⟨by decide, by decide⟩ ?_
    refine V.sipush dX10_holds_116 (v := 300) (by decide) ?_
    refine V.iload dX10_holds_119 rfl ?_
    refine V.iadd dX10_holds_121 ?_
    refine V.top (x' := (nI y)) ((sN_i y)) ?_
    refine V.dup2 dX10_holds_122 rfl rfl ?_
    refine V.ialdN dX10_holds_123 rfl ⟨by decide, by decide⟩ (by first | assumption | decide | omega) (by decide) ?_
    refine V.top (x' := (nI (cB (hW S M0 n ne h b y) j))) (hv0) ?_
    refine V.aload_n dX10_holds_124 rfl (i := 0) rfl ?_
    refine V.iload_n dX10_holds_125 rfl (i := 1) rfl ?_
    refine V.iload dX10_holds_126 rfl ?_
    refine V.invv (z := mX10_clashesOfOne) (As := [_, _]) dX10_holds_128 rfl mlRX10_242 okX10_clashesOfOne npX10_clashesOfOne rfl rfl rfl ⟨by decide, by decide⟩ (Nat.le_of_ble_eq_true rfl) rfl (Nat.le_of_ble_eq_true rfl) (c_c1 (d := d) hHM (by rw [e84]; exact hVw.1) h8 (by rw [e84]; exact hVw.2.2.1) h10 (hHM.x hb) (by omega) ?_)
    show V rS g (d + 4) mX10_holds 131 [some (.ref 83), some (.int (nI b)), some (.int h), some (.int v), some (.int (M0 84 100)), some (.int (wN j)), some (.int (sN y))] [.int (ccS (hpR S (wdM M0 j) h) (wyR (wdM M0 j)) (M 84 101) (offR M) n ne b (sN y)), .int (nI (cB (hW S M0 n ne h b y) j)), .int (nI y), .ref 96] M Q
    refine V.top (x' := (ccS (hpR S (wdM M0 j) h) (wyR (wdM M0 j)) (M0 84 101) (offR M0) n ne b (sN y))) (e3) ?_
    suffices kJ131 : V rS g (d + 4) mX10_holds 139 [some (.ref 83), some (.int (nI b)), some (.int h), some (.int v), some (.int (M0 84 100)), some (.int (wN j)), some (.int (sN y))] [.int (if (ccS (hpR S (wdM M0 j) h) (wyR (wdM M0 j)) (M0 84 101) (offR M0) n ne b (sN y)) ≤ (0 : Int32) then (0 : Int32) else (1 : Int32)), .int (nI (cB (hW S M0 n ne h b y) j)), .int (nI y), .ref 96] M Q by
      refine V.if_le (tgt := 138) dX10_holds_131 (by decide) (fun c131 => ?_) (fun c131 => ?_)
      · refine V.iconst dX10_holds_138 (v := 0) (by decide) ?_
        rw [if_pos c131] at kJ131; exact kJ131
      · refine V.iconst dX10_holds_134 (v := 1) (by decide) ?_
        refine V.goto dX10_holds_135 (tgt := 139) (by decide) ?_
        rw [if_neg c131] at kJ131; exact kJ131
    refine V.iadd dX10_holds_139 ?_
    refine V.top (x' := (nI (cB (hW S M0 n ne h b y) (j + 1)))) (hit_add) ?_
    refine V.iastN dX10_holds_140 rfl ⟨by decide, by decide⟩ (by first | assumption | decide | omega) (by decide) ?_
    refine V.iinc dX10_holds_141 rfl (v := (sN (y + 1))) (sN_inc y) (by decide) (fun _ h => by cases h; exact Or.inl rfl) rfl ?_
    refine V.goto dX10_holds_144 (tgt := 100) (by decide) ?_
    exact ih (y + 1) _ (by omega) (by omega) (he.put (by decide)) (fun y' a1 a2 => by by_cases hq : y' = y; subst hq; rw [put_s, if_pos (Nat.lt_succ_self _)]; rw [put_n (fun z => hq z.2), hM y' a1 a2]; by_cases hl : y' < y; rw [if_pos hl, if_pos (by omega)]; rw [if_neg hl, if_neg (by omega)])
set_option maxHeartbeats 4000000 in
set_option maxRecDepth 100000 in
theorem l_hw {g : GG} {d : Nat} {Q : Option Value → Mem → Prop} {M0 : Mem} {h v : Int32} {S : List Int32} {n ne b bd : Nat} (hV : VR S M0 n ne) (hb : b < n) (hbd : M0 84 102 = nI bd) (h300 : bd ≤ 300) (hc : ∀ M', KpW M0 M' → (∀ y, 300 - bd ≤ y → y ≤ 300 + bd → M' 96 y = nI (cB (hW S M0 n ne h b y) 11)) → V rS g (d + 67) mX10_holds 153 [some (.ref 83), some (.int (nI b)), some (.int h), some (.int v), some (.int (M0 84 100)), none, none] [] M' Q) : ∀ (k j : Nat) (M : Mem) (l6 : Option Value), j + k = 11 → KpW M0 M → (∀ y, 300 - bd ≤ y → y ≤ 300 + bd → M 96 y = nI (cB (hW S M0 n ne h b y) j)) → V rS g (d + 67) mX10_holds 69 [some (.ref 83), some (.int (nI b)), some (.int h), some (.int v), some (.int (M0 84 100)), some (.int (wN j)), l6] [] M Q := by
  intro k
  induction k with
  | zero =>
    intro j M l6 hk hM h1
    obtain rfl : j = 11 := by omega
    refine V.fg (ls' := [some (.ref 83), some (.int (nI b)), some (.int h), some (.int v), some (.int (M0 84 100)), some (.int (wN 11)), none]) ⟨rfl, rfl, rfl, rfl, rfl, rfl, trivial⟩ ?_
    refine V.iload dX10_holds_69 rfl ?_
    refine V.bipush dX10_holds_71 (v := 6) (by decide) ?_
    refine V.ic_ge (tgt := 153) dX10_holds_73 (by decide) (fun c73 => ?_) (fun q => absurd ((by decide)) q)
    exact V.fg (ls' := [some (.ref 83), some (.int (nI b)), some (.int h), some (.int v), some (.int (M0 84 100)), none, none]) ⟨rfl, rfl, rfl, rfl, rfl, trivial⟩ (hc M hM h1)
  | succ k ih =>
    intro j M l6 hk hM h1
    have hj : j < 11 := by omega
    have hat := hM.at (j := j)
    refine V.fg (ls' := [some (.ref 83), some (.int (nI b)), some (.int h), some (.int v), some (.int (M0 84 100)), some (.int (wN j)), none]) ⟨rfl, rfl, rfl, rfl, rfl, rfl, trivial⟩ ?_
    refine V.iload dX10_holds_69 rfl ?_
    refine V.bipush dX10_holds_71 (v := 6) (by decide) ?_
    refine V.ic_ge (tgt := 153) dX10_holds_73 (by decide) (fun q => absurd q ((fun z => absurd ((wN_ge j (by omega)).mp z) (by omega)))) (fun c73 => ?_)
    refine V.aload_n dX10_holds_76 rfl (i := 0) rfl ?_
    refine V.getR dX10_holds_77 rfl flRX10_7 rfl ⟨by decide, by decide⟩ ?_
    refine V.bipush dX10_holds_80 (v := 100) (by decide) ?_
    refine V.iload dX10_holds_82 rfl ?_
    refine V.top1 (x' := nI 100) (by decide) ?_
    refine V.iastN dX10_holds_84 rfl ⟨by decide, by decide⟩ (by first | assumption | decide | omega) (by decide) ?_
    refine V.aload_n dX10_holds_85 rfl (i := 0) rfl ?_
    refine V.iload_n dX10_holds_86 rfl (i := 2) rfl ?_
    refine V.invv (z := mX10_hearsAll) (As := [_]) dX10_holds_87 rfl mlRX10_238 okX10_hearsAll npX10_hearsAll rfl rfl rfl ⟨by decide, by decide⟩ (Nat.le_of_ble_eq_true rfl) rfl (Nat.le_of_ble_eq_true rfl) (c_all (S := S) (n := n) (ne := ne) ((hV.w hj).eq hat) (fun M1 hM1 hH1 => ?_))
    show V rS g (d + 67) mX10_holds 90 [some (.ref 83), some (.int (nI b)), some (.int h), some (.int v), some (.int (M0 84 100)), some (.int (wN j)), none] [] M1 Q
    refine V.aload_n dX10_holds_90 rfl (i := 0) rfl ?_
    refine V.getR dX10_holds_91 rfl flRX10_7 rfl ⟨by decide, by decide⟩ ?_
    refine V.bipush dX10_holds_94 (v := 102) (by decide) ?_
    refine V.top (x' := nI 102) (by decide) ?_
    refine V.ialdN dX10_holds_96 rfl ⟨by decide, by decide⟩ (by first | assumption | decide | omega) (by decide) ?_
    refine V.top (x' := (nI bd)) ((by rw [hM1.d, hat, wd_n (by decide)]; exact hbd)) ?_
    refine V.ineg dX10_holds_97 ?_
    refine V.top (x' := (sN (300 - bd))) ((sN_neg bd h300)) ?_
    refine V.istore dX10_holds_98 (i := 6) (by decide) (fun _ h => by cases h; exact Or.inl rfl) rfl ?_
    refine l_hs (d := d + 63) hV hb hj hbd h300 (hM1.d.trans hat) (by rw [hpR_eq hat, wyR_eq hat] at hH1; exact hH1) (fun y a1 a2 => by rw [hM1.1 96 (by decide) (by decide) (by decide) (by decide), put_cell (by decide)]; exact h1 y a1 a2) (fun M2 hM2 h2 => ?_) (301 + bd - (300 - bd)) (300 - bd) M1 (by omega) (Nat.le_refl _) eqx.rf (fun y' a1 a2 => by rw [if_neg (by omega), hM1.1 96 (by decide) (by decide) (by decide) (by decide), put_cell (by decide)]; exact h1 y' a1 a2)
    refine V.iinc dX10_holds_147 rfl (v := (wN (j + 1))) (wN_inc j) (by decide) (fun _ h => by cases h; exact Or.inl rfl) rfl ?_
    refine V.goto dX10_holds_150 (tgt := 69) (by decide) ?_
    exact ih (j + 1) M2 _ (by omega) ((hM.p.x hM1.x).x (hM2.x (by decide))) h2
set_option maxHeartbeats 4000000 in
set_option maxRecDepth 100000 in
theorem l_hbst {g : GG} {d : Nat} {M : Mem} {Q : Option Value → Mem → Prop} {h v was : Int32} {b bd : Nat} (hbd : M 84 102 = nI bd) (h300 : bd ≤ 300) (hQ : Q (some (.int (if v = 0 then sN (bsF (M 96) bd) else M 96 (bsF (M 96) bd)))) M) : ∀ (k u : Nat), u + k = bd → V rS g d mX10_holds 168 [some (.ref 83), some (.int (nI b)), some (.int h), some (.int v), some (.int was), some (.int (sN (bsF (M 96) u))), some (.int (nI (u + 1)))] [] M Q := by
  intro k
  induction k with
  | zero =>
    intro u hk
    obtain rfl : u = bd := by omega
    have hy := bsF_le (M 96) u h300
    have hy1 : bsF (M 96) u < 601 := by omega
    refine V.iload dX10_holds_168 rfl ?_
    refine V.aload_n dX10_holds_170 rfl (i := 0) rfl ?_
    refine V.getR dX10_holds_171 rfl flRX10_7 rfl ⟨by decide, by decide⟩ ?_
    refine V.bipush dX10_holds_174 (v := 102) (by decide) ?_
    refine V.top (x' := nI 102) (by decide) ?_
    refine V.ialdN dX10_holds_176 rfl ⟨by decide, by decide⟩ (by first | assumption | decide | omega) (by decide) ?_
    refine V.top (x' := (nI u)) (hbd) ?_
    refine V.ic_gt (tgt := 255) dX10_holds_177 (by decide) (fun c177 => ?_) (fun q => absurd ((nI_lt (by omega) (by omega))) q)
    refine V.iload_n dX10_holds_255 rfl (i := 3) rfl ?_
    refine V.if_ne (tgt := 264) dX10_holds_256 (by decide) (fun c256 => ?_) (fun c256 => ?_)
    · refine V.aload_n dX10_holds_264 rfl (i := 0) rfl ?_
      refine V.getR dX10_holds_265 rfl flRX10_47 rfl ⟨by decide, by decide⟩ ?_
      refine V.sipush dX10_holds_268 (v := 300) (by decide) ?_
      refine V.iload dX10_holds_271 rfl ?_
      refine V.iadd dX10_holds_273 ?_
      refine V.top (x' := (nI (bsF (M 96) u))) ((sN_i _)) ?_
      refine V.ialdN dX10_holds_274 rfl ⟨by decide, by decide⟩ (by first | assumption | decide | omega) (by decide) ?_
      exact V.ret dX10_holds_275 rfl (Qi hQ (by first | rw [if_pos c256] | rw [if_neg c256]))
    · refine V.iload dX10_holds_259 rfl ?_
      refine V.goto dX10_holds_261 (tgt := 275) (by decide) ?_
      exact V.ret dX10_holds_275 rfl (Qi hQ (by first | rw [if_pos c256] | rw [if_neg c256]))
  | succ k ih =>
    intro u hk
    have hy := bsF_le (M 96) u (by omega)
    have hy1 : bsF (M 96) u < 601 := by omega
    have hm : 300 - (u + 1) < 601 := by omega
    have hp : 300 + (u + 1) < 601 := by omega
    have hmid : ∀ y, y < 601 → (if M 96 (300 - (u + 1)) < M 96 (bsF (M 96) u) then 300 - (u + 1) else bsF (M 96) u) = y → V rS g d mX10_holds 215 [some (.ref 83), some (.int (nI b)), some (.int h), some (.int v), some (.int was), some (.int (sN y)), some (.int (nI (u + 1)))] [] M Q := by
      intro y hy6 hye
      have hbs : bsF (M 96) (u + 1) = if M 96 (300 + (u + 1)) < M 96 y then 300 + (u + 1) else y := by rw [bsF, hye]
      by_cases hl : M 96 (300 + (u + 1)) < M 96 y
      · rw [if_pos hl] at hbs
        refine V.aload_n dX10_holds_215 rfl (i := 0) rfl ?_
        refine V.getR dX10_holds_216 rfl flRX10_47 rfl ⟨by decide, by decide⟩ ?_
        refine V.sipush dX10_holds_219 (v := 300) (by decide) ?_
        refine V.iload dX10_holds_222 rfl ?_
        refine V.iadd dX10_holds_224 ?_
        refine V.top (x' := (nI (300 + (u + 1)))) (nI_add 300 (u + 1)) ?_
        refine V.top (x' := (nI (300 + (u + 1)))) (rfl) ?_
        refine V.ialdN dX10_holds_225 rfl ⟨by decide, by decide⟩ (by first | assumption | decide | omega) (by decide) ?_
        refine V.aload_n dX10_holds_226 rfl (i := 0) rfl ?_
        refine V.getR dX10_holds_227 rfl flRX10_47 rfl ⟨by decide, by decide⟩ ?_
        refine V.sipush dX10_holds_230 (v := 300) (by decide) ?_
        refine V.iload dX10_holds_233 rfl ?_
        refine V.iadd dX10_holds_235 ?_
        refine V.top (x' := (nI y)) ((sN_i _)) ?_
        refine V.ialdN dX10_holds_236 rfl ⟨by decide, by decide⟩ (by first | assumption | decide | omega) (by decide) ?_
        refine V.ic_ge (tgt := 245) dX10_holds_237 (by decide) (fun q => absurd q ((Int32.not_le.mpr hl))) (fun c237 => ?_)
        refine V.iload dX10_holds_240 rfl ?_
        refine V.goto dX10_holds_242 (tgt := 247) (by decide) ?_
        refine V.top (x' := (sN (bsF (M 96) (u + 1)))) ((by rw [hbs]; exact sN_pos (u + 1) (by omega))) ?_
        refine V.istore dX10_holds_247 (i := 5) (by decide) (fun _ h => by cases h; exact Or.inl rfl) rfl ?_
        refine V.iinc dX10_holds_249 rfl (v := (nI ((u + 1) + 1))) (nI_1 _) (by decide) (fun _ h => by cases h; exact Or.inl rfl) rfl ?_
        refine V.goto dX10_holds_252 (tgt := 168) (by decide) ?_
        exact ih (u + 1) (by omega)
      · rw [if_neg hl] at hbs
        refine V.aload_n dX10_holds_215 rfl (i := 0) rfl ?_
        refine V.getR dX10_holds_216 rfl flRX10_47 rfl ⟨by decide, by decide⟩ ?_
        refine V.sipush dX10_holds_219 (v := 300) (by decide) ?_
        refine V.iload dX10_holds_222 rfl ?_
        refine V.iadd dX10_holds_224 ?_
        refine V.top (x' := (nI (300 + (u + 1)))) (nI_add 300 (u + 1)) ?_
        refine V.top (x' := (nI (300 + (u + 1)))) (rfl) ?_
        refine V.ialdN dX10_holds_225 rfl ⟨by decide, by decide⟩ (by first | assumption | decide | omega) (by decide) ?_
        refine V.aload_n dX10_holds_226 rfl (i := 0) rfl ?_
        refine V.getR dX10_holds_227 rfl flRX10_47 rfl ⟨by decide, by decide⟩ ?_
        refine V.sipush dX10_holds_230 (v := 300) (by decide) ?_
        refine V.iload dX10_holds_233 rfl ?_
        refine V.iadd dX10_holds_235 ?_
        refine V.top (x' := (nI y)) ((sN_i _)) ?_
        refine V.ialdN dX10_holds_236 rfl ⟨by decide, by decide⟩ (by first | assumption | decide | omega) (by decide) ?_
        refine V.ic_ge (tgt := 245) dX10_holds_237 (by decide) (fun c237 => ?_) (fun q => absurd ((Int32.not_lt.mp hl)) q)
        refine V.iload dX10_holds_245 rfl ?_
        refine V.top (x' := (sN (bsF (M 96) (u + 1)))) ((by rw [hbs])) ?_
        refine V.istore dX10_holds_247 (i := 5) (by decide) (fun _ h => by cases h; exact Or.inl rfl) rfl ?_
        refine V.iinc dX10_holds_249 rfl (v := (nI ((u + 1) + 1))) (nI_1 _) (by decide) (fun _ h => by cases h; exact Or.inl rfl) rfl ?_
        refine V.goto dX10_holds_252 (tgt := 168) (by decide) ?_
        exact ih (u + 1) (by omega)
    by_cases hl : M 96 (300 - (u + 1)) < M 96 (bsF (M 96) u)
    · skip
      refine V.iload dX10_holds_168 rfl ?_
      refine V.aload_n dX10_holds_170 rfl (i := 0) rfl ?_
      refine V.getR dX10_holds_171 rfl flRX10_7 rfl ⟨by decide, by decide⟩ ?_
      refine V.bipush dX10_holds_174 (v := 102) (by decide) ?_
      refine V.top (x' := nI 102) (by decide) ?_
      refine V.ialdN dX10_holds_176 rfl ⟨by decide, by decide⟩ (by first | assumption | decide | omega) (by decide) ?_
      refine V.top (x' := (nI bd)) (hbd) ?_
      refine V.ic_gt (tgt := 255) dX10_holds_177 (by decide) (fun q => absurd q ((nI_nlt (by omega) (by omega)))) (fun c177 => ?_)
      refine V.aload_n dX10_holds_180 rfl (i := 0) rfl ?_
      refine V.getR dX10_holds_181 rfl flRX10_47 rfl ⟨by decide, by decide⟩ ?_
      refine V.sipush dX10_holds_184 (v := 300) (by decide) ?_
      refine V.iload dX10_holds_187 rfl ?_
      refine V.isub dX10_holds_189 ?_
      refine V.top (x' := (nI (300 - (u + 1)))) ((pk_sub (a := 300) (by omega))) ?_
      refine V.ialdN dX10_holds_190 rfl ⟨by decide, by decide⟩ (by first | assumption | decide | omega) (by decide) ?_
      refine V.aload_n dX10_holds_191 rfl (i := 0) rfl ?_
      refine V.getR dX10_holds_192 rfl flRX10_47 rfl ⟨by decide, by decide⟩ ?_
      refine V.sipush dX10_holds_195 (v := 300) (by decide) ?_
      refine V.iload dX10_holds_198 rfl ?_
      refine V.iadd dX10_holds_200 ?_
      refine V.top (x' := (nI (bsF (M 96) u))) ((sN_i _)) ?_
      refine V.ialdN dX10_holds_201 rfl ⟨by decide, by decide⟩ (by first | assumption | decide | omega) (by decide) ?_
      refine V.ic_ge (tgt := 211) dX10_holds_202 (by decide) (fun q => absurd q ((Int32.not_le.mpr hl))) (fun c202 => ?_)
      refine V.iload dX10_holds_205 rfl ?_
      refine V.ineg dX10_holds_207 ?_
      refine V.goto dX10_holds_208 (tgt := 213) (by decide) ?_
      refine V.top (x' := (sN (300 - (u + 1)))) ((sN_neg (u + 1) (by omega))) ?_
      refine V.istore dX10_holds_213 (i := 5) (by decide) (fun _ h => by cases h; exact Or.inl rfl) rfl ?_
      exact hmid _ (by omega) (if_pos hl)
    · skip
      refine V.iload dX10_holds_168 rfl ?_
      refine V.aload_n dX10_holds_170 rfl (i := 0) rfl ?_
      refine V.getR dX10_holds_171 rfl flRX10_7 rfl ⟨by decide, by decide⟩ ?_
      refine V.bipush dX10_holds_174 (v := 102) (by decide) ?_
      refine V.top (x' := nI 102) (by decide) ?_
      refine V.ialdN dX10_holds_176 rfl ⟨by decide, by decide⟩ (by first | assumption | decide | omega) (by decide) ?_
      refine V.top (x' := (nI bd)) (hbd) ?_
      refine V.ic_gt (tgt := 255) dX10_holds_177 (by decide) (fun q => absurd q ((nI_nlt (by omega) (by omega)))) (fun c177 => ?_)
      refine V.aload_n dX10_holds_180 rfl (i := 0) rfl ?_
      refine V.getR dX10_holds_181 rfl flRX10_47 rfl ⟨by decide, by decide⟩ ?_
      refine V.sipush dX10_holds_184 (v := 300) (by decide) ?_
      refine V.iload dX10_holds_187 rfl ?_
      refine V.isub dX10_holds_189 ?_
      refine V.top (x' := (nI (300 - (u + 1)))) ((pk_sub (a := 300) (by omega))) ?_
      refine V.ialdN dX10_holds_190 rfl ⟨by decide, by decide⟩ (by first | assumption | decide | omega) (by decide) ?_
      refine V.aload_n dX10_holds_191 rfl (i := 0) rfl ?_
      refine V.getR dX10_holds_192 rfl flRX10_47 rfl ⟨by decide, by decide⟩ ?_
      refine V.sipush dX10_holds_195 (v := 300) (by decide) ?_
      refine V.iload dX10_holds_198 rfl ?_
      refine V.iadd dX10_holds_200 ?_
      refine V.top (x' := (nI (bsF (M 96) u))) ((sN_i _)) ?_
      refine V.ialdN dX10_holds_201 rfl ⟨by decide, by decide⟩ (by first | assumption | decide | omega) (by decide) ?_
      refine V.ic_ge (tgt := 211) dX10_holds_202 (by decide) (fun c202 => ?_) (fun q => absurd ((Int32.not_lt.mp hl)) q)
      refine V.iload dX10_holds_211 rfl ?_
      refine V.istore dX10_holds_213 (i := 5) (by decide) (fun _ h => by cases h; exact Or.inl rfl) rfl ?_
      exact hmid _ hy1 (if_neg hl)
set_option maxHeartbeats 4000000 in
set_option maxRecDepth 100000 in
theorem c10_holds {g : GG} {d : Nat} {M : Mem} {Q : Option Value → Mem → Prop} {a w v : Int32} {S : List Int32} {n ne bd : Nat} (hV : VR S M n ne) (hbd : M 84 102 = nI bd) (h300 : bd ≤ 300) (hbad : ¬ ((0 ≤ a ∧ a < nI n) ∧ (0 ≤ w ∧ w ≤ 23) ∧ 0 ≤ v ∧ v ≤ 1) → Q (some (.int (-1000000001))) (put M 87 1 (M 87 1 + 1))) (hok : ((0 ≤ a ∧ a < nI n) ∧ (0 ≤ w ∧ w ≤ 23) ∧ 0 ≤ v ∧ v ≤ 1) → ∀ b, b < n → a = nI b → ∀ M', KpX M M' → (∀ y, 300 - bd ≤ y → y ≤ 300 + bd → M' 96 y = nI (cB (hW S M n ne w b y) 11)) → Q (some (.int (if v = 0 then sN (bsF (M' 96) bd) else M' 96 (bsF (M' 96) bd)))) M') : V rS g (d + 67) mX10_holds 0 [some (.ref 83), some (.int a), some (.int w), some (.int v), none, none, none] [] M Q := by
  have h8 := hV.2.1
  by_cases h : ((0 ≤ a ∧ a < nI n) ∧ (0 ≤ w ∧ w ≤ 23) ∧ 0 ≤ v ∧ v ≤ 1)
  · obtain ⟨b, hb, rfl⟩ := nI_ex (n := n) (by omega) h.1.1 h.1.2
    refine V.aload_n dX10_holds_0 rfl (i := 0) rfl ?_
    refine V.iload_n dX10_holds_1 rfl (i := 1) rfl ?_
    refine V.invv (z := mX10_isBell) (As := [_]) dX10_holds_2 rfl mlRX10_170 okX10_isBell npX10_isBell rfl rfl rfl ⟨by decide, by decide⟩ (Nat.le_of_ble_eq_true rfl) rfl (Nat.le_of_ble_eq_true rfl) (c_bellR hV.1 h8 ?_)
    show V rS g (d + 67) mX10_holds 5 [some (.ref 83), some (.int (nI b)), some (.int w), some (.int v), none, none, none] [.int (b2i (0 ≤ nI b ∧ nI b < nI n))] M Q
    refine V.if_eq (tgt := 25) dX10_holds_5 (by decide) (fun q => absurd q ((fun z => b2i_0.mp z h.1))) (fun c5 => ?_)
    refine V.iload_n dX10_holds_8 rfl (i := 2) rfl ?_
    refine V.invs (z := mX10_isHour) (As := [_]) dX10_holds_9 rfl mlRX10_191 okX10_isHour npX10_isHour rfl (Nat.le_of_ble_eq_true rfl) rfl (Nat.le_of_ble_eq_true rfl) (c_hourR   ?_)
    show V rS g (d + 67) mX10_holds 12 [some (.ref 83), some (.int (nI b)), some (.int w), some (.int v), none, none, none] [.int (b2i (0 ≤ w ∧ w ≤ 23))] (M) Q
    refine V.if_eq (tgt := 25) dX10_holds_12 (by decide) (fun q => absurd q ((fun z => b2i_0.mp z h.2.1))) (fun c12 => ?_)
    refine V.iload_n dX10_holds_15 rfl (i := 3) rfl ?_
    refine V.i2l dX10_holds_16 ?_
    refine V.lconst dX10_holds_17 (v := 0) (by decide) ?_
    refine V.lconst dX10_holds_18 (v := 1) (by decide) ?_
    refine V.invs (z := mX10_in) (As := [_, _, _]) dX10_holds_19 rfl mlRX10_66 okX10_in npX10_in rfl (Nat.le_of_ble_eq_true rfl) rfl (Nat.le_of_ble_eq_true rfl) (c_in32 (v := v) (lo := (0 : Int32)) (hi := (1 : Int32)) (by first | rfl | decide) (by first | rfl | decide)   ?_)
    show V rS g (d + 67) mX10_holds 22 [some (.ref 83), some (.int (nI b)), some (.int w), some (.int v), none, none, none] [.int (b2i ((0 : Int32) ≤ v ∧ v ≤ (1 : Int32)))] (M) Q
    refine V.if_ne (tgt := 31) dX10_holds_22 (by decide) (fun c22 => ?_) (fun q => absurd q ((fun z => b2i_0.mp z h.2.2)))
    refine V.iconst dX10_holds_31 (v := 0) (by decide) ?_
    refine V.istore dX10_holds_32 (i := 4) (by decide) (fun _ h => by cases h; exact Or.inl rfl) rfl ?_
    refine l_h0 (fun M1 hM1 h96 => ?_) 601 0 M (by omega) eqx.rf (fun y hy => absurd hy (Nat.not_lt_zero _))
    have e84 : M1 84 = M 84 := hM1 84 (by decide)
    have hX1 : KpX M M1 := hM1.x (by decide)
    have hW1 : ∀ y j, hW S M1 n ne w b y j = hW S M n ne w b y j := fun y j => by
      have e2 : wdM M1 j 84 = wdM M j 84 := by funext i; unfold wdM put; split; rfl; rw [e84]
      unfold hW
      rw [hpR_eq e2, wyR_eq e2, e84, show offR M1 = offR M from by unfold offR; rw [e84]]
    have hcont : ∀ M', KpW M1 M' → (∀ y, 300 - bd ≤ y → y ≤ 300 + bd → M' 96 y = nI (cB (hW S M1 n ne w b y) 11)) → V rS g (d + 67) mX10_holds 153 [some (.ref 83), some (.int (nI b)), some (.int w), some (.int v), some (.int (M1 84 100)), none, none] [] M' Q := by
      intro M2 hM2 h2
      have hX : KpX M (put M2 84 100 (M1 84 100)) := hX1.tr hM2.back
      refine V.aload_n dX10_holds_153 rfl (i := 0) rfl ?_
      refine V.getR dX10_holds_154 rfl flRX10_7 rfl ⟨by decide, by decide⟩ ?_
      refine V.bipush dX10_holds_157 (v := 100) (by decide) ?_
      refine V.iload dX10_holds_159 rfl ?_
      refine V.top1 (x' := nI 100) (by decide) ?_
      refine V.iastN dX10_holds_161 rfl ⟨by decide, by decide⟩ (by first | assumption | decide | omega) (by decide) ?_
      refine V.iconst dX10_holds_162 (v := 0) (by decide) ?_
      refine V.istore dX10_holds_163 (i := 5) (by decide) (fun _ h => by cases h; exact Or.inl rfl) rfl ?_
      refine V.iconst dX10_holds_165 (v := 1) (by decide) ?_
      refine V.istore dX10_holds_166 (i := 6) (by decide) (fun _ h => by cases h; exact Or.inl rfl) rfl ?_
      exact V.lseq (ls' := [some (.ref 83), some (.int (nI b)), some (.int w), some (.int v), some (.int (M1 84 100)), some (.int (sN (bsF (put M2 84 100 (M1 84 100) 96) 0))), some (.int (nI (0 + 1)))]) (by rw [bsF, ← sN_0]; rfl) (l_hbst (by rw [hX.d]; exact hbd) h300 (hok h b hb rfl _ hX (fun y a1 a2 => by rw [put_cell (by decide), h2 y a1 a2]; exact congrArg nI (cB_cong (fun j _ => hW1 y j)))) bd 0 (by omega))
    refine V.aload_n dX10_holds_56 rfl (i := 0) rfl ?_
    refine V.getR dX10_holds_57 rfl flRX10_7 rfl ⟨by decide, by decide⟩ ?_
    refine V.bipush dX10_holds_60 (v := 100) (by decide) ?_
    refine V.top (x' := nI 100) (by decide) ?_
    refine V.ialdN dX10_holds_62 rfl ⟨by decide, by decide⟩ (by first | assumption | decide | omega) (by decide) ?_
    refine V.istore dX10_holds_63 (i := 4) (by decide) (fun _ h => by cases h; exact Or.inl rfl) rfl ?_
    refine V.bipush dX10_holds_65 (v := (-5)) (by decide) ?_
    refine V.istore dX10_holds_67 (i := 5) (by decide) (fun _ h => by cases h; exact Or.inl rfl) rfl ?_
    exact l_hw (hV.eq e84) hb (by rw [e84]; exact hbd) h300 hcont 11 0 M1 _ (by omega) KpW.rf (fun y a1 a2 => by rw [h96 y (by omega)]; rfl)
  · skip
    refine V.aload_n dX10_holds_0 rfl (i := 0) rfl ?_
    refine V.iload_n dX10_holds_1 rfl (i := 1) rfl ?_
    refine V.invv (z := mX10_isBell) (As := [_]) dX10_holds_2 rfl mlRX10_170 okX10_isBell npX10_isBell rfl rfl rfl ⟨by decide, by decide⟩ (Nat.le_of_ble_eq_true rfl) rfl (Nat.le_of_ble_eq_true rfl) (c_bellR hV.1 h8 ?_)
    show V rS g (d + 67) mX10_holds 5 [some (.ref 83), some (.int a), some (.int w), some (.int v), none, none, none] [.int (b2i (0 ≤ a ∧ a < nI n))] M Q
    refine V.if_eq (tgt := 25) dX10_holds_5 (by decide) (fun c5 => ?_) (fun c5 => ?_)
    · refine V.aload_n dX10_holds_25 rfl (i := 0) rfl ?_
      refine V.iconst dX10_holds_26 (v := 1) (by decide) ?_
      refine V.invv (z := mX10_finds) (As := [_]) dX10_holds_27 rfl mlRX10_131 okX10_finds npX10_finds rfl rfl rfl ⟨by decide, by decide⟩ (Nat.le_of_ble_eq_true rfl) rfl (Nat.le_of_ble_eq_true rfl) (c_fnd1   ?_)
      show V rS g (d + 67) mX10_holds 30 [some (.ref 83), some (.int a), some (.int w), some (.int v), none, none, none] [.int (-1000000001 : Int32)] (put M 87 1 (M 87 1 + 1)) Q
      exact V.ret dX10_holds_30 rfl (hbad h)
    · refine V.iload_n dX10_holds_8 rfl (i := 2) rfl ?_
      refine V.invs (z := mX10_isHour) (As := [_]) dX10_holds_9 rfl mlRX10_191 okX10_isHour npX10_isHour rfl (Nat.le_of_ble_eq_true rfl) rfl (Nat.le_of_ble_eq_true rfl) (c_hourR   ?_)
      show V rS g (d + 67) mX10_holds 12 [some (.ref 83), some (.int a), some (.int w), some (.int v), none, none, none] [.int (b2i (0 ≤ w ∧ w ≤ 23))] (M) Q
      refine V.if_eq (tgt := 25) dX10_holds_12 (by decide) (fun c12 => ?_) (fun c12 => ?_)
      · refine V.aload_n dX10_holds_25 rfl (i := 0) rfl ?_
        refine V.iconst dX10_holds_26 (v := 1) (by decide) ?_
        refine V.invv (z := mX10_finds) (As := [_]) dX10_holds_27 rfl mlRX10_131 okX10_finds npX10_finds rfl rfl rfl ⟨by decide, by decide⟩ (Nat.le_of_ble_eq_true rfl) rfl (Nat.le_of_ble_eq_true rfl) (c_fnd1   ?_)
        show V rS g (d + 67) mX10_holds 30 [some (.ref 83), some (.int a), some (.int w), some (.int v), none, none, none] [.int (-1000000001 : Int32)] (put (M) 87 1 ((M) 87 1 + 1)) Q
        exact V.ret dX10_holds_30 rfl (hbad h)
      · refine V.iload_n dX10_holds_15 rfl (i := 3) rfl ?_
        refine V.i2l dX10_holds_16 ?_
        refine V.lconst dX10_holds_17 (v := 0) (by decide) ?_
        refine V.lconst dX10_holds_18 (v := 1) (by decide) ?_
        refine V.invs (z := mX10_in) (As := [_, _, _]) dX10_holds_19 rfl mlRX10_66 okX10_in npX10_in rfl (Nat.le_of_ble_eq_true rfl) rfl (Nat.le_of_ble_eq_true rfl) (c_in32 (v := v) (lo := (0 : Int32)) (hi := (1 : Int32)) (by first | rfl | decide) (by first | rfl | decide)   ?_)
        show V rS g (d + 67) mX10_holds 22 [some (.ref 83), some (.int a), some (.int w), some (.int v), none, none, none] [.int (b2i ((0 : Int32) ≤ v ∧ v ≤ (1 : Int32)))] (M) Q
        refine V.if_ne (tgt := 31) dX10_holds_22 (by decide) (fun c22 => ?_) (fun c22 => ?_)
        · exact absurd ⟨(Classical.byContradiction fun z => c5 (b2i_f z)), (Classical.byContradiction fun z => c12 (b2i_f z)), (Classical.byContradiction fun z => c22 (b2i_f z))⟩ h
        · refine V.aload_n dX10_holds_25 rfl (i := 0) rfl ?_
          refine V.iconst dX10_holds_26 (v := 1) (by decide) ?_
          refine V.invv (z := mX10_finds) (As := [_]) dX10_holds_27 rfl mlRX10_131 okX10_finds npX10_finds rfl rfl rfl ⟨by decide, by decide⟩ (Nat.le_of_ble_eq_true rfl) rfl (Nat.le_of_ble_eq_true rfl) (c_fnd1   ?_)
          show V rS g (d + 67) mX10_holds 30 [some (.ref 83), some (.int a), some (.int w), some (.int v), none, none, none] [.int (-1000000001 : Int32)] (put (M) 87 1 ((M) 87 1 + 1)) Q
          exact V.ret dX10_holds_30 rfl (hbad h)

