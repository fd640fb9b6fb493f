/-! ===== the reference: another bell ===== -/
def laM (M : Mem) (n : Nat) (s l : Int32) : Mem := (put (put (put (put (put (put (put M 84 (108 + 7 * n + 0) 0) 84 (108 + 7 * n + 1) 0) 84 (108 + 7 * n + 2) s) 84 (108 + 7 * n + 3) l) 84 (108 + 7 * n + 4) 0) 84 (108 + 7 * n + 5) 1) 84 (108 + 7 * n + 6) 0)
theorem la_n {M : Mem} {n i : Nat} {s l : Int32} (h : i < 108 + 7 * n ∨ 108 + 7 * n + 7 ≤ i) : laM M n s l 84 i = M 84 i := by
  unfold laM
  rw [put_n (fun q => by omega), put_n (fun q => by omega), put_n (fun q => by omega), put_n (fun q => by omega), put_n (fun q => by omega), put_n (fun q => by omega), put_n (fun q => by omega)]
theorem la_o {M : Mem} {n c : Nat} {s l : Int32} (h : c ≠ 84) : laM M n s l c = M c := by
  unfold laM
  rw [put_cell h, put_cell h, put_cell h, put_cell h, put_cell h, put_cell h, put_cell h]
theorem la_2 {M : Mem} {n : Nat} {s l : Int32} : laM M n s l 84 (108 + 7 * n + 2) = s := by
  unfold laM
  rw [put_n (fun q => by omega), put_n (fun q => by omega), put_n (fun q => by omega), put_n (fun q => by omega), put_s]
theorem la_6 {M : Mem} {n : Nat} {s l : Int32} : laM M n s l 84 (108 + 7 * n + 6) = 0 := by unfold laM; rw [put_s]
theorem la_4 {M : Mem} {n : Nat} {s l : Int32} : laM M n s l 84 (108 + 7 * n + 4) = 0 := by
  unfold laM
  rw [put_n (fun q => by omega), put_n (fun q => by omega), put_s]
theorem la_0 {M : Mem} {n : Nat} {s l : Int32} : laM M n s l 84 (108 + 7 * n + 0) = 0 := by
  unfold laM
  rw [put_n (fun q => by omega), put_n (fun q => by omega), put_n (fun q => by omega), put_n (fun q => by omega), put_n (fun q => by omega), put_n (fun q => by omega), put_s]
theorem la_3 {M : Mem} {n : Nat} {s l : Int32} : laM M n s l 84 (108 + 7 * n + 3) = l := by
  unfold laM
  rw [put_n (fun q => by omega), put_n (fun q => by omega), put_n (fun q => by omega), put_s]
theorem la_eq {M M' : Mem} {n : Nat} {s l : Int32} (h : ∀ i, i < 108 + 7 * n ∨ 108 + 7 * n + 7 ≤ i → M' 84 i = M 84 i) : laM M' n s l 84 = laM M n s l 84 := by
  funext i
  by_cases hi : i < 108 + 7 * n ∨ 108 + 7 * n + 7 ≤ i
  · rw [la_n hi, la_n hi]; exact h i hi
  · unfold laM put
    have h7 : i = 108 + 7 * n + 0 ∨ i = 108 + 7 * n + 1 ∨ i = 108 + 7 * n + 2 ∨ i = 108 + 7 * n + 3 ∨ i = 108 + 7 * n + 4 ∨ i = 108 + 7 * n + 5 ∨ i = 108 + 7 * n + 6 := by omega
    rcases h7 with rfl | rfl | rfl | rfl | rfl | rfl | rfl <;> simp
/-- but for the place of another bell, the same -/
def KpN (n : Nat) (M M' : Mem) : Prop := (∀ c, c = 86 ∨ c = 87 ∨ c = 97 ∨ c = 98 ∨ c = 99 ∨ c = 100 → M' c = M c) ∧ (∀ i, i < 108 + 7 * n ∨ 108 + 7 * n + 7 ≤ i → M' 84 i = M 84 i) ∧ M' 83 3 = M 83 3 ∧ M' 83 22 = M 83 22
theorem KpN.rf {n : Nat} {M : Mem} : KpN n M M := ⟨fun _ _ => rfl, fun _ _ => rfl, rfl, rfl⟩
theorem KpN.x {n : Nat} {M M1 M2 : Mem} (h : KpN n M M1) (h2 : KpX M1 M2) : KpN n M M2 := ⟨fun c hc => (h2.1 c (by omega)).trans (h.1 c hc), fun i hi => by rw [h2.d]; exact h.2.1 i hi, h2.2.1.trans h.2.2.1, h2.2.2.trans h.2.2.2⟩
theorem KpN.la {n : Nat} {M M1 : Mem} {s l : Int32} (h : KpN n M M1) : KpN n M (laM M1 n s l) := ⟨fun c hc => by rw [la_o (by omega)]; exact h.1 c hc, fun i hi => by rw [la_n hi]; exact h.2.1 i hi, by rw [la_o (by decide)]; exact h.2.2.1, by rw [la_o (by decide)]; exact h.2.2.2⟩
theorem VR.la {S : List Int32} {M M1 : Mem} {n ne : Nat} (h : VR S M n ne) (hk : ∀ i, i < 108 + 7 * n ∨ 108 + 7 * n + 7 ≤ i → M1 84 i = M 84 i) : VR S M1 n ne := by
  obtain ⟨h1, h2, h3, h4, h5, h6, h7, h8⟩ := h
  refine ⟨by rw [hk _ (by omega)]; exact h1, h2, by rw [hk _ (by omega)]; exact h3, h4, by rw [hk _ (by omega)]; exact h5, ?_, fun x hx => ?_, fun e he => ?_⟩
  · unfold LwR
    rw [hk _ (by omega)]
    rw [show (fun i => M1 84 (203 + 50 * 0 + i)) = (fun i => M 84 (203 + 50 * 0 + i)) from funext fun i => hk _ (by omega)]
    exact h6
  · unfold BB
    rw [hk _ (by omega), hk _ (by omega)]
    exact h7 x hx
  · rw [hk _ (by omega)]
    exact h8 e he
def hpN (S : List Int32) (M : Mem) (h : Int32) (n : Nat) (s l : Int32) (x e : Nat) : Bool := if x = n then hpR S (laM M n s l) h n e else hpR S M h x e
def wyN (M : Mem) (n : Nat) (s l : Int32) (x e : Nat) : Int32 := if x = n then wyR (laM M n s l) n e else wyR M x e
/-- would a new bell, so loud, be in no clash -/
def okN (S : List Int32) (M : Mem) (h : Int32) (n ne : Nat) (s : Int32) (l : Nat) : Bool := decide (ccF (hpN S M h n s (nI l)) (wyN M n s (nI l)) (M 84 101) (offR (laM M n s (nI l))) n ne n = 0)
def hbX (S : List Int32) (M0 M : Mem) (h : Int32) (n ne : Nat) : Prop := ∀ x, x < n → HdX M (hpR S M0 h) (wyR M0) ne x

set_option maxHeartbeats 4000000 in
set_option maxRecDepth 100000 in
theorem l_loud {g : GG} {d : Nat} {Q : Option Value → Mem → Prop} {M0 : Mem} {h s : Int32} {S : List Int32} {n ne : Nat} (hV : VR S M0 n ne) (hs : rg 0 99 s) : ∀ (k : Nat) (M : Mem), k ≤ 100 → KpN n M0 M → hbX S M0 M h n ne → (∀ M', KpN n M0 M' → hbX S M0 M' h n ne → Q (some (.int (ldF (okN S M0 h n ne s) k))) M') → V rS g (d + 66) mX10_loudAt 12 [some (.ref 83), some (.int s), some (.int h), some (.int (nI n)), some (.int (nI k - 1))] [] M Q := by
  have h8 := hV.2.1
  have h10 := hV.2.2.2.1
  intro k
  induction k with
  | zero =>
    intro M hk hM hX hQ
    refine V.iload dX10_loudAt_12 rfl ?_
    refine V.if_lt (tgt := 51) dX10_loudAt_14 (by decide) (fun c14 => ?_) (fun q => absurd ((by decide)) q)
    refine V.iconst dX10_loudAt_51 (v := (-1)) (by decide) ?_
    exact V.ret dX10_loudAt_52 rfl (hQ M hM hX)
  | succ k ih =>
    intro M hk hM hX hQ
    refine V.lseq (ls' := [some (.ref 83), some (.int s), some (.int h), some (.int (nI n)), some (.int (nI k))]) (by rw [nI_pred]) ?_
    have hML : KpN n M0 (laM M n s (nI k)) := hM.la
    have hVL := hV.la hML.2.1
    have hBL : BB (laM M n s (nI k)) n := by
      unfold BB
      rw [la_2, la_6]
      exact ⟨hs, Or.inl rfl⟩
    have eL : laM M n s (nI k) 84 = laM M0 n s (nI k) 84 := la_eq hM.2.1
    refine V.iload dX10_loudAt_12 rfl ?_
    refine V.if_lt (tgt := 51) dX10_loudAt_14 (by decide) (fun q => absurd q ((nI_pos (by omega)))) (fun c14 => ?_)
    refine V.aload_n dX10_loudAt_17 rfl (i := 0) rfl ?_
    refine V.iload_n dX10_loudAt_18 rfl (i := 3) rfl ?_
    refine V.iconst dX10_loudAt_19 (v := 0) (by decide) ?_
    refine V.iconst dX10_loudAt_20 (v := 0) (by decide) ?_
    refine V.iload_n dX10_loudAt_21 rfl (i := 1) rfl ?_
    refine V.iload dX10_loudAt_22 rfl ?_
    refine V.invv (z := mX10_lays) (As := [_, _, _, _, _]) dX10_loudAt_24 rfl mlRX10_166 okX10_lays npX10_lays rfl rfl rfl ⟨by decide, by decide⟩ (Nat.le_of_ble_eq_true rfl) rfl (Nat.le_of_ble_eq_true rfl) (c_lays (b := n) h8 ?_)
    show V rS g (d + 66) mX10_loudAt 27 [some (.ref 83), some (.int s), some (.int h), some (.int (nI n)), some (.int (nI k))] [] (laM M n s (nI k)) Q
    refine V.aload_n dX10_loudAt_27 rfl (i := 0) rfl ?_
    refine V.iload_n dX10_loudAt_28 rfl (i := 3) rfl ?_
    refine V.iload_n dX10_loudAt_29 rfl (i := 2) rfl ?_
    refine V.invv (z := mX10_hears) (As := [_, _]) dX10_loudAt_30 rfl mlRX10_227 okX10_hears npX10_hears rfl rfl rfl ⟨by decide, by decide⟩ (Nat.le_of_ble_eq_true rfl) rfl (Nat.le_of_ble_eq_true rfl) (c_hears (S := S) (n := n) (ne := ne) (h := h) hVL h8 hBL (fun M1 hM1 g1 g2 => ?_))
    show V rS g (d + 66) mX10_loudAt 33 [some (.ref 83), some (.int s), some (.int h), some (.int (nI n)), some (.int (nI k))] [] M1 Q
    skip
    rw [hpR_eq eL, wyR_eq eL] at g1
    have hM1N : KpN n M0 M1 := hML.x hM1.x
    have hX1 : hbX S M0 M1 h n ne := fun x hx e he => by
      rw [(g2 (10 * x + e) (by omega)).1, (g2 (10 * x + e) (by omega)).2, la_o (by decide), la_o (by decide)]
      exact hX x hx e he
    have hN1 : HdX M1 (hpN S M0 h n s (nI k)) (wyN M0 n s (nI k)) ne n := fun e he => by
      unfold hpN wyN
      rw [if_pos rfl, if_pos rfl]
      exact g1 e he
    have hH1 : HdR M1 (hpN S M0 h n s (nI k)) (wyN M0 n s (nI k)) n ne := fun x e hx he => by
      unfold hpN wyN
      rw [if_neg (by omega), if_neg (by omega)]
      exact hX1 x hx e he
    have eo : offR M1 = offR (laM M0 n s (nI k)) := by unfold offR; rw [hM1.d, eL]
    have e3 : ccS (hpN S M0 h n s (nI k)) (wyN M0 n s (nI k)) (M1 84 101) (offR M1) n ne n 0 = ccF (hpN S M0 h n s (nI k)) (wyN M0 n s (nI k)) (M0 84 101) (offR (laM M0 n s (nI k))) n ne n := by rw [eo, hM1N.2.1 101 (by omega), ccS_0]
    by_cases hz : ccF (hpN S M0 h n s (nI k)) (wyN M0 n s (nI k)) (M0 84 101) (offR (laM M0 n s (nI k))) n ne n = 0
    · have hld : ldF (okN S M0 h n ne s) (k + 1) = nI k := by rw [ldF, if_pos (show okN S M0 h n ne s k = true from decide_eq_true hz)]
      rw [hld] at hQ
      refine V.aload_n dX10_loudAt_33 rfl (i := 0) rfl ?_
      refine V.iload_n dX10_loudAt_34 rfl (i := 3) rfl ?_
      refine V.iconst dX10_loudAt_35 (v := 0) (by decide) ?_
      refine V.invv (z := mX10_clashesOfOne) (As := [_, _]) dX10_loudAt_36 rfl mlRX10_242 okX10_clashesOfOne npX10_clashesOfOne rfl rfl rfl ⟨by decide, by decide⟩ (Nat.le_of_ble_eq_true rfl) rfl (Nat.le_of_ble_eq_true rfl) (c_c1 hH1 (by rw [hM1N.2.1 103 (by omega)]; exact hV.1) h8 (by rw [hM1N.2.1 104 (by omega)]; exact hV.2.2.1) h10 hN1 h8 ?_)
      show V rS g (d + 66) mX10_loudAt 39 [some (.ref 83), some (.int s), some (.int h), some (.int (nI n)), some (.int (nI k))] [.int (ccS (hpN S M0 h n s (nI k)) (wyN M0 n s (nI k)) (M1 84 101) (offR M1) n ne n 0)] M1 Q
      refine V.top (x' := (ccF (hpN S M0 h n s (nI k)) (wyN M0 n s (nI k)) (M0 84 101) (offR (laM M0 n s (nI k))) n ne n)) (e3) ?_
      refine V.if_ne (tgt := 45) dX10_loudAt_39 (by decide) (fun q => absurd (hz) q) (fun c39 => ?_)
      refine V.iload dX10_loudAt_42 rfl ?_
      exact V.ret dX10_loudAt_44 rfl (hQ M1 hM1N hX1)
    · have hld : ldF (okN S M0 h n ne s) (k + 1) = ldF (okN S M0 h n ne s) k := by rw [ldF, if_neg (show ¬ okN S M0 h n ne s k = true from fun z => hz (of_decide_eq_true z))]
      rw [hld] at hQ
      refine V.aload_n dX10_loudAt_33 rfl (i := 0) rfl ?_
      refine V.iload_n dX10_loudAt_34 rfl (i := 3) rfl ?_
      refine V.iconst dX10_loudAt_35 (v := 0) (by decide) ?_
      refine V.invv (z := mX10_clashesOfOne) (As := [_, _]) dX10_loudAt_36 rfl mlRX10_242 okX10_clashesOfOne npX10_clashesOfOne rfl rfl rfl ⟨by decide, by decide⟩ (Nat.le_of_ble_eq_true rfl) rfl (Nat.le_of_ble_eq_true rfl) (c_c1 hH1 (by rw [hM1N.2.1 103 (by omega)]; exact hV.1) h8 (by rw [hM1N.2.1 104 (by omega)]; exact hV.2.2.1) h10 hN1 h8 ?_)
      show V rS g (d + 66) mX10_loudAt 39 [some (.ref 83), some (.int s), some (.int h), some (.int (nI n)), some (.int (nI k))] [.int (ccS (hpN S M0 h n s (nI k)) (wyN M0 n s (nI k)) (M1 84 101) (offR M1) n ne n 0)] M1 Q
      refine V.top (x' := (ccF (hpN S M0 h n s (nI k)) (wyN M0 n s (nI k)) (M0 84 101) (offR (laM M0 n s (nI k))) n ne n)) (e3) ?_
      refine V.if_ne (tgt := 45) dX10_loudAt_39 (by decide) (fun c39 => ?_) (fun q => absurd q (hz))
      refine V.iinc dX10_loudAt_45 rfl (v := (nI k - 1)) (by rw [Int32.sub_eq_add_neg]; rfl) (by decide) (fun _ h => by cases h; exact Or.inl rfl) rfl ?_
      refine V.goto dX10_loudAt_48 (tgt := 12) (by decide) ?_
      exact ih M1 (by omega) hM1N hX1 hQ
set_option maxHeartbeats 4000000 in
set_option maxRecDepth 100000 in
theorem c_loud {g : GG} {d : Nat} {M : Mem} {Q : Option Value → Mem → Prop} {h s : Int32} {S : List Int32} {n ne : Nat} {M0 : Mem} (hV : VR S M0 n ne) (hs : rg 0 99 s) (hM : KpN n M0 M) (hX : hbX S M0 M h n ne) (hQ : ∀ M', KpN n M0 M' → hbX S M0 M' h n ne → Q (some (.int (ldF (okN S M0 h n ne s) 100))) M') : V rS g (d + 66) mX10_loudAt 0 [some (.ref 83), some (.int s), some (.int h), none, none] [] M Q := by
  have h8 := hV.2.1
  refine V.aload_n dX10_loudAt_0 rfl (i := 0) rfl ?_
  refine V.getR dX10_loudAt_1 rfl flRX10_7 rfl ⟨by decide, by decide⟩ ?_
  refine V.bipush dX10_loudAt_4 (v := 103) (by decide) ?_
  refine V.top (x' := nI 103) (by decide) ?_
  refine V.ialdN dX10_loudAt_6 rfl ⟨by decide, by decide⟩ (by first | assumption | decide | omega) (by decide) ?_
  refine V.top (x' := (nI n)) ((by rw [hM.2.1 103 (by omega)]; exact hV.1)) ?_
  refine V.istore_n dX10_loudAt_7 rfl (i := 3) (by decide) (fun _ h => by cases h; exact Or.inl rfl) rfl ?_
  refine V.bipush dX10_loudAt_8 (v := 99) (by decide) ?_
  refine V.istore dX10_loudAt_10 (i := 4) (by decide) (fun _ h => by cases h; exact Or.inl rfl) rfl ?_
  exact V.lseq (ls' := [some (.ref 83), some (.int s), some (.int h), some (.int (nI n)), some (.int (nI 100 - 1))]) rfl (l_loud hV hs 100 M (by omega) hM hX hQ)
set_option maxHeartbeats 4000000 in
set_option maxRecDepth 100000 in
theorem c10_hangs {g : GG} {d : Nat} {M : Mem} {Q : Option Value → Mem → Prop} {a w : Int32} {S : List Int32} {n ne : Nat} (hV : VR S M n ne) (hbad : ¬ ((0 ≤ a ∧ a ≤ 99) ∧ 0 ≤ w ∧ w ≤ 23) → Q (some (.int (-1000000001))) (put M 87 1 (M 87 1 + 1))) (hnone : ((0 ≤ a ∧ a ≤ 99) ∧ 0 ≤ w ∧ w ≤ 23) → ∀ M', KpN n M M' → (ldF (okN S M w n ne a) 100) < 0 → Q (some (.int (-1000000002))) (put M' 87 2 (M' 87 2 + 1))) (hok : ((0 ≤ a ∧ a ≤ 99) ∧ 0 ≤ w ∧ w ≤ 23) → ∀ M', KpN n M M' → ¬ (ldF (okN S M w n ne a) 100) < 0 → Q (some (.int (ldF (okN S M w n ne a) 100))) M') : V rS g (d + 67) mX10_hangs 0 [some (.ref 83), some (.int a), some (.int w), none] [] M Q := by
  have h8 := hV.2.1
  by_cases h : ((0 ≤ a ∧ a ≤ 99) ∧ 0 ≤ w ∧ w ≤ 23)
  · skip
    refine V.iload_n dX10_hangs_0 rfl (i := 1) rfl ?_
    refine V.i2l dX10_hangs_1 ?_
    refine V.lconst dX10_hangs_2 (v := 0) (by decide) ?_
    refine V.ldc2 dX10_hangs_3 rfl clRX10_150 ?_
    refine V.invs (z := mX10_in) (As := [_, _, _]) dX10_hangs_6 rfl mlRX10_66 okX10_in npX10_in rfl (Nat.le_of_ble_eq_true rfl) rfl (Nat.le_of_ble_eq_true rfl) (c_in32 (v := a) (lo := (0 : Int32)) (hi := (99 : Int32)) (by first | rfl | decide) (by first | rfl | decide)   ?_)
    show V rS g (d + 67) mX10_hangs 9 [some (.ref 83), some (.int a), some (.int w), none] [.int (b2i ((0 : Int32) ≤ a ∧ a ≤ (99 : Int32)))] M Q
    refine V.if_eq (tgt := 19) dX10_hangs_9 (by decide) (fun q => absurd q ((fun z => b2i_0.mp z h.1))) (fun c9 => ?_)
    refine V.iload_n dX10_hangs_12 rfl (i := 2) rfl ?_
    refine V.invs (z := mX10_isHour) (As := [_]) dX10_hangs_13 rfl mlRX10_191 okX10_isHour npX10_isHour rfl (Nat.le_of_ble_eq_true rfl) rfl (Nat.le_of_ble_eq_true rfl) (c_hourR   ?_)
    show V rS g (d + 67) mX10_hangs 16 [some (.ref 83), some (.int a), some (.int w), none] [.int (b2i (0 ≤ w ∧ w ≤ 23))] (M) Q
    refine V.if_ne (tgt := 25) dX10_hangs_16 (by decide) (fun c16 => ?_) (fun q => absurd q ((fun z => b2i_0.mp z h.2)))
    refine V.aload_n dX10_hangs_25 rfl (i := 0) rfl ?_
    refine V.iload_n dX10_hangs_26 rfl (i := 2) rfl ?_
    refine V.invv (z := mX10_hearsAll) (As := [_]) dX10_hangs_27 rfl mlRX10_238 okX10_hearsAll npX10_hearsAll rfl rfl rfl ⟨by decide, by decide⟩ (Nat.le_of_ble_eq_true rfl) rfl (Nat.le_of_ble_eq_true rfl) (c_all hV (fun M1 hM1 hH1 => ?_))
    show V rS g (d + 67) mX10_hangs 30 [some (.ref 83), some (.int a), some (.int w), none] [] M1 Q
    refine V.aload_n dX10_hangs_30 rfl (i := 0) rfl ?_
    refine V.iload_n dX10_hangs_31 rfl (i := 1) rfl ?_
    refine V.iload_n dX10_hangs_32 rfl (i := 2) rfl ?_
    refine V.invv (z := mX10_loudAt) (As := [_, _]) dX10_hangs_33 rfl mlRX10_277 okX10_loudAt npX10_loudAt rfl rfl rfl ⟨by decide, by decide⟩ (Nat.le_of_ble_eq_true rfl) rfl (Nat.le_of_ble_eq_true rfl) (c_loud (S := S) (n := n) (ne := ne) (M0 := M) hV h.1 (KpN.rf.x hM1.x) (fun x hx => hH1.x hx) (fun M2 hM2 hX2 => ?_))
    show V rS g (d + 67) mX10_hangs 36 [some (.ref 83), some (.int a), some (.int w), none] [.int (ldF (okN S M w n ne a) 100)] M2 Q
    refine V.istore_n dX10_hangs_36 rfl (i := 3) (by decide) (fun _ h => by cases h; exact Or.inl rfl) rfl ?_
    refine V.iload_n dX10_hangs_37 rfl (i := 3) rfl ?_
    refine V.if_ge (tgt := 49) dX10_hangs_38 (by decide) (fun c38 => ?_) (fun c38 => ?_)
    · refine V.iload_n dX10_hangs_49 rfl (i := 3) rfl ?_
      exact V.ret dX10_hangs_50 rfl (by first | exact hnone h M2 hM2 (Int32.not_le.mp c38) | exact hok h M2 hM2 (Int32.not_lt.mpr c38))
    · refine V.aload_n dX10_hangs_41 rfl (i := 0) rfl ?_
      refine V.iconst dX10_hangs_42 (v := 2) (by decide) ?_
      refine V.invv (z := mX10_finds) (As := [_]) dX10_hangs_43 rfl mlRX10_131 okX10_finds npX10_finds rfl rfl rfl ⟨by decide, by decide⟩ (Nat.le_of_ble_eq_true rfl) rfl (Nat.le_of_ble_eq_true rfl) (c_fnd2   ?_)
      show V rS g (d + 67) mX10_hangs 46 [some (.ref 83), some (.int a), some (.int w), some (.int (ldF (okN S M w n ne a) 100))] [.int (-1000000002 : Int32)] (put M2 87 2 (M2 87 2 + 1)) Q
      refine V.goto dX10_hangs_46 (tgt := 50) (by decide) ?_
      exact V.ret dX10_hangs_50 rfl (by first | exact hnone h M2 hM2 (Int32.not_le.mp c38) | exact hok h M2 hM2 (Int32.not_lt.mpr c38))
  · skip
    refine V.iload_n dX10_hangs_0 rfl (i := 1) rfl ?_
    refine V.i2l dX10_hangs_1 ?_
    refine V.lconst dX10_hangs_2 (v := 0) (by decide) ?_
    refine V.ldc2 dX10_hangs_3 rfl clRX10_150 ?_
    refine V.invs (z := mX10_in) (As := [_, _, _]) dX10_hangs_6 rfl mlRX10_66 okX10_in npX10_in rfl (Nat.le_of_ble_eq_true rfl) rfl (Nat.le_of_ble_eq_true rfl) (c_in32 (v := a) (lo := (0 : Int32)) (hi := (99 : Int32)) (by first | rfl | decide) (by first | rfl | decide)   ?_)
    show V rS g (d + 67) mX10_hangs 9 [some (.ref 83), some (.int a), some (.int w), none] [.int (b2i ((0 : Int32) ≤ a ∧ a ≤ (99 : Int32)))] M Q
    refine V.if_eq (tgt := 19) dX10_hangs_9 (by decide) (fun c9 => ?_) (fun c9 => ?_)
    · refine V.aload_n dX10_hangs_19 rfl (i := 0) rfl ?_
      refine V.iconst dX10_hangs_20 (v := 1) (by decide) ?_
      refine V.invv (z := mX10_finds) (As := [_]) dX10_hangs_21 rfl mlRX10_131 okX10_finds npX10_finds rfl rfl rfl ⟨by decide, by decide⟩ (Nat.le_of_ble_eq_true rfl) rfl (Nat.le_of_ble_eq_true rfl) (c_fnd1   ?_)
      show V rS g (d + 67) mX10_hangs 24 [some (.ref 83), some (.int a), some (.int w), none] [.int (-1000000001 : Int32)] (put M 87 1 (M 87 1 + 1)) Q
      exact V.ret dX10_hangs_24 rfl (hbad h)
    · refine V.iload_n dX10_hangs_12 rfl (i := 2) rfl ?_
      refine V.invs (z := mX10_isHour) (As := [_]) dX10_hangs_13 rfl mlRX10_191 okX10_isHour npX10_isHour rfl (Nat.le_of_ble_eq_true rfl) rfl (Nat.le_of_ble_eq_true rfl) (c_hourR   ?_)
      show V rS g (d + 67) mX10_hangs 16 [some (.ref 83), some (.int a), some (.int w), none] [.int (b2i (0 ≤ w ∧ w ≤ 23))] (M) Q
      refine V.if_ne (tgt := 25) dX10_hangs_16 (by decide) (fun c16 => ?_) (fun c16 => ?_)
      · exact absurd ⟨(Classical.byContradiction fun z => c9 (b2i_f z)), (Classical.byContradiction fun z => c16 (b2i_f z))⟩ h
      · refine V.aload_n dX10_hangs_19 rfl (i := 0) rfl ?_
        refine V.iconst dX10_hangs_20 (v := 1) (by decide) ?_
        refine V.invv (z := mX10_finds) (As := [_]) dX10_hangs_21 rfl mlRX10_131 okX10_finds npX10_finds rfl rfl rfl ⟨by decide, by decide⟩ (Nat.le_of_ble_eq_true rfl) rfl (Nat.le_of_ble_eq_true rfl) (c_fnd1   ?_)
        show V rS g (d + 67) mX10_hangs 24 [some (.ref 83), some (.int a), some (.int w), none] [.int (-1000000001 : Int32)] (put (M) 87 1 ((M) 87 1 + 1)) Q
        exact V.ret dX10_hangs_24 rfl (hbad h)
set_option maxHeartbeats 4000000 in
set_option maxRecDepth 100000 in
theorem l_plc {g : GG} {d : Nat} {Q : Option Value → Mem → Prop} {M0 : Mem} {h w : Int32} {S : List Int32} {n ne : Nat} (hV : VR S M0 n ne) (hc : ∀ M' l5 l6, KpN n M0 M' → V rS g (d + 67) mX10_place 88 [some (.ref 83), some (.int h), some (.int w), some (.int (nI (plF (fun j => ldF (okN S M0 h n ne (nI (5 * j))) 100) 20).1)), some (.int (plF (fun j => ldF (okN S M0 h n ne (nI (5 * j))) 100) 20).2), l5, l6] [] M' Q) : ∀ (k j : Nat) (M : Mem) (l6 : Option Value), j + k = 20 → KpN n M0 M → hbX S M0 M h n ne → V rS g (d + 67) mX10_place 36 [some (.ref 83), some (.int h), some (.int w), some (.int (nI (plF (fun j => ldF (okN S M0 h n ne (nI (5 * j))) 100) j).1)), some (.int (plF (fun j => ldF (okN S M0 h n ne (nI (5 * j))) 100) j).2), some (.int (nI (5 * j))), l6] [] M Q := by
  intro k
  induction k with
  | zero =>
    intro j M l6 hk hM hX
    obtain rfl : j = 20 := by omega
    refine V.fg (ls' := [some (.ref 83), some (.int h), some (.int w), some (.int (nI (plF (fun j => ldF (okN S M0 h n ne (nI (5 * j))) 100) 20).1)), some (.int (plF (fun j => ldF (okN S M0 h n ne (nI (5 * j))) 100) 20).2), some (.int (nI (5 * 20))), none]) ⟨rfl, rfl, rfl, rfl, rfl, rfl, trivial⟩ ?_
    refine V.iload dX10_place_36 rfl ?_
    refine V.bipush dX10_place_38 (v := 100) (by decide) ?_
    refine V.ic_ge (tgt := 88) dX10_place_40 (by decide) (fun c40 => ?_) (fun q => absurd ((by decide)) q)
    exact hc M _ _ hM
  | succ k ih =>
    intro j M l6 hk hM hX
    have hrg : rg 0 99 (nI (5 * j)) := ⟨nI_pos' (by omega), nI_le (b := 99) (by omega) (by omega)⟩
    refine V.fg (ls' := [some (.ref 83), some (.int h), some (.int w), some (.int (nI (plF (fun j => ldF (okN S M0 h n ne (nI (5 * j))) 100) j).1)), some (.int (plF (fun j => ldF (okN S M0 h n ne (nI (5 * j))) 100) j).2), some (.int (nI (5 * j))), none]) ⟨rfl, rfl, rfl, rfl, rfl, rfl, trivial⟩ ?_
    by_cases hl : (plF (fun j => ldF (okN S M0 h n ne (nI (5 * j))) 100) j).2 < ldF (okN S M0 h n ne (nI (5 * j))) 100
    · skip
      refine V.iload dX10_place_36 rfl ?_
      refine V.bipush dX10_place_38 (v := 100) (by decide) ?_
      refine V.ic_ge (tgt := 88) dX10_place_40 (by decide) (fun q => absurd q ((nI_ge (a := 5 * j) (b := 100) (by omega) (by omega)))) (fun c40 => ?_)
      refine V.aload_n dX10_place_43 rfl (i := 0) rfl ?_
      refine V.iload dX10_place_44 rfl ?_
      refine V.iload_n dX10_place_46 rfl (i := 1) rfl ?_
      refine V.invv (z := mX10_loudAt) (As := [_, _]) dX10_place_47 rfl mlRX10_277 okX10_loudAt npX10_loudAt rfl rfl rfl ⟨by decide, by decide⟩ (Nat.le_of_ble_eq_true rfl) rfl (Nat.le_of_ble_eq_true rfl) (c_loud (S := S) (n := n) (ne := ne) (M0 := M0) hV hrg hM hX (fun M2 hM2 hX2 => ?_))
      show V rS g (d + 67) mX10_place 50 [some (.ref 83), some (.int h), some (.int w), some (.int (nI (plF (fun j => ldF (okN S M0 h n ne (nI (5 * j))) 100) j).1)), some (.int ((plF (fun j => ldF (okN S M0 h n ne (nI (5 * j))) 100) j).2)), some (.int (nI (5 * j))), none] [.int (ldF (okN S M0 h n ne (nI (5 * j))) 100)] M2 Q
      refine V.istore dX10_place_50 (i := 6) (by decide) (fun _ h => by cases h; exact Or.inl rfl) rfl ?_
      refine V.iload dX10_place_52 rfl ?_
      refine V.iload dX10_place_54 rfl ?_
      refine V.ic_le (tgt := 64) dX10_place_56 (by decide) (fun q => absurd q ((Int32.not_le.mpr hl))) (fun c56 => ?_)
      refine V.iload dX10_place_59 rfl ?_
      refine V.goto dX10_place_61 (tgt := 65) (by decide) ?_
      refine V.istore_n dX10_place_65 rfl (i := 3) (by decide) (fun _ h => by cases h; exact Or.inl rfl) rfl ?_
      refine V.iload dX10_place_66 rfl ?_
      refine V.iload dX10_place_68 rfl ?_
      refine V.ic_le (tgt := 78) dX10_place_70 (by decide) (fun q => absurd q ((Int32.not_le.mpr hl))) (fun c70 => ?_)
      refine V.iload dX10_place_73 rfl ?_
      refine V.goto dX10_place_75 (tgt := 80) (by decide) ?_
      refine V.istore dX10_place_80 (i := 4) (by decide) (fun _ h => by cases h; exact Or.inl rfl) rfl ?_
      refine V.lseq (ls' := [some (.ref 83), some (.int h), some (.int w), some (.int (nI (plF (fun j => ldF (okN S M0 h n ne (nI (5 * j))) 100) (j + 1)).1)), some (.int (plF (fun j => ldF (okN S M0 h n ne (nI (5 * j))) 100) (j + 1)).2), some (.int (nI (5 * j))), some (.int (ldF (okN S M0 h n ne (nI (5 * j))) 100))]) (by rw [plF, if_pos hl]; rfl) ?_
      refine V.iinc dX10_place_82 rfl (v := (nI (5 * (j + 1)))) (by rw [show 5 * (j + 1) = 5 * j + 5 by omega]; exact nI_add (5 * j) 5) (by decide) (fun _ h => by cases h; exact Or.inl rfl) rfl ?_
      refine V.goto dX10_place_85 (tgt := 36) (by decide) ?_
      exact ih (j + 1) M2 _ (by omega) hM2 hX2
    · skip
      refine V.iload dX10_place_36 rfl ?_
      refine V.bipush dX10_place_38 (v := 100) (by decide) ?_
      refine V.ic_ge (tgt := 88) dX10_place_40 (by decide) (fun q => absurd q ((nI_ge (a := 5 * j) (b := 100) (by omega) (by omega)))) (fun c40 => ?_)
      refine V.aload_n dX10_place_43 rfl (i := 0) rfl ?_
      refine V.iload dX10_place_44 rfl ?_
      refine V.iload_n dX10_place_46 rfl (i := 1) rfl ?_
      refine V.invv (z := mX10_loudAt) (As := [_, _]) dX10_place_47 rfl mlRX10_277 okX10_loudAt npX10_loudAt rfl rfl rfl ⟨by decide, by decide⟩ (Nat.le_of_ble_eq_true rfl) rfl (Nat.le_of_ble_eq_true rfl) (c_loud (S := S) (n := n) (ne := ne) (M0 := M0) hV hrg hM hX (fun M2 hM2 hX2 => ?_))
      show V rS g (d + 67) mX10_place 50 [some (.ref 83), some (.int h), some (.int w), some (.int (nI (plF (fun j => ldF (okN S M0 h n ne (nI (5 * j))) 100) j).1)), some (.int ((plF (fun j => ldF (okN S M0 h n ne (nI (5 * j))) 100) j).2)), some (.int (nI (5 * j))), none] [.int (ldF (okN S M0 h n ne (nI (5 * j))) 100)] M2 Q
      refine V.istore dX10_place_50 (i := 6) (by decide) (fun _ h => by cases h; exact Or.inl rfl) rfl ?_
      refine V.iload dX10_place_52 rfl ?_
      refine V.iload dX10_place_54 rfl ?_
      refine V.ic_le (tgt := 64) dX10_place_56 (by decide) (fun c56 => ?_) (fun q => absurd ((Int32.not_lt.mp hl)) q)
      refine V.iload_n dX10_place_64 rfl (i := 3) rfl ?_
      refine V.istore_n dX10_place_65 rfl (i := 3) (by decide) (fun _ h => by cases h; exact Or.inl rfl) rfl ?_
      refine V.iload dX10_place_66 rfl ?_
      refine V.iload dX10_place_68 rfl ?_
      refine V.ic_le (tgt := 78) dX10_place_70 (by decide) (fun c70 => ?_) (fun q => absurd ((Int32.not_lt.mp hl)) q)
      refine V.iload dX10_place_78 rfl ?_
      refine V.istore dX10_place_80 (i := 4) (by decide) (fun _ h => by cases h; exact Or.inl rfl) rfl ?_
      refine V.lseq (ls' := [some (.ref 83), some (.int h), some (.int w), some (.int (nI (plF (fun j => ldF (okN S M0 h n ne (nI (5 * j))) 100) (j + 1)).1)), some (.int (plF (fun j => ldF (okN S M0 h n ne (nI (5 * j))) 100) (j + 1)).2), some (.int (nI (5 * j))), some (.int (ldF (okN S M0 h n ne (nI (5 * j))) 100))]) (by rw [plF, if_neg hl]; rfl) ?_
      refine V.iinc dX10_place_82 rfl (v := (nI (5 * (j + 1)))) (by rw [show 5 * (j + 1) = 5 * j + 5 by omega]; exact nI_add (5 * j) 5) (by decide) (fun _ h => by cases h; exact Or.inl rfl) rfl ?_
      refine V.goto dX10_place_85 (tgt := 36) (by decide) ?_
      exact ih (j + 1) M2 _ (by omega) hM2 hX2
set_option maxHeartbeats 4000000 in
set_option maxRecDepth 100000 in
theorem c10_place {g : GG} {d : Nat} {M : Mem} {Q : Option Value → Mem → Prop} {a w : Int32} {S : List Int32} {n ne : Nat} (hV : VR S M n ne) (hbad : ¬ ((0 ≤ a ∧ a ≤ 23) ∧ 0 ≤ w ∧ w ≤ 1) → Q (some (.int (-1000000001))) (put M 87 1 (M 87 1 + 1))) (hnone : ((0 ≤ a ∧ a ≤ 23) ∧ 0 ≤ w ∧ w ≤ 1) → ∀ M', KpN n M M' → (plF (fun j => ldF (okN S M a n ne (nI (5 * j))) 100) 20).2 < 0 → Q (some (.int (-1000000002))) (put M' 87 2 (M' 87 2 + 1))) (hok : ((0 ≤ a ∧ a ≤ 23) ∧ 0 ≤ w ∧ w ≤ 1) → ∀ M', KpN n M M' → ¬ (plF (fun j => ldF (okN S M a n ne (nI (5 * j))) 100) 20).2 < 0 → Q (some (.int (if w = 0 then nI (plF (fun j => ldF (okN S M a n ne (nI (5 * j))) 100) 20).1 else (plF (fun j => ldF (okN S M a n ne (nI (5 * j))) 100) 20).2))) M') : V rS g (d + 67) mX10_place 0 [some (.ref 83), some (.int a), some (.int w), none, none, none, none] [] M Q := by
  by_cases h : ((0 ≤ a ∧ a ≤ 23) ∧ 0 ≤ w ∧ w ≤ 1)
  · skip
    refine V.iload_n dX10_place_0 rfl (i := 1) rfl ?_
    refine V.invs (z := mX10_isHour) (As := [_]) dX10_place_1 rfl mlRX10_191 okX10_isHour npX10_isHour rfl (Nat.le_of_ble_eq_true rfl) rfl (Nat.le_of_ble_eq_true rfl) (c_hourR   ?_)
    show V rS g (d + 67) mX10_place 4 [some (.ref 83), some (.int a), some (.int w), none, none, none, none] [.int (b2i (0 ≤ a ∧ a ≤ 23))] (M) Q
    refine V.if_eq (tgt := 17) dX10_place_4 (by decide) (fun q => absurd q ((fun z => b2i_0.mp z h.1))) (fun c4 => ?_)
    refine V.iload_n dX10_place_7 rfl (i := 2) rfl ?_
    refine V.i2l dX10_place_8 ?_
    refine V.lconst dX10_place_9 (v := 0) (by decide) ?_
    refine V.lconst dX10_place_10 (v := 1) (by decide) ?_
    refine V.invs (z := mX10_in) (As := [_, _, _]) dX10_place_11 rfl mlRX10_66 okX10_in npX10_in rfl (Nat.le_of_ble_eq_true rfl) rfl (Nat.le_of_ble_eq_true rfl) (c_in32 (v := w) (lo := (0 : Int32)) (hi := (1 : Int32)) (by first | rfl | decide) (by first | rfl | decide)   ?_)
    show V rS g (d + 67) mX10_place 14 [some (.ref 83), some (.int a), some (.int w), none, none, none, none] [.int (b2i ((0 : Int32) ≤ w ∧ w ≤ (1 : Int32)))] (M) Q
    refine V.if_ne (tgt := 23) dX10_place_14 (by decide) (fun c14 => ?_) (fun q => absurd q ((fun z => b2i_0.mp z h.2)))
    refine V.aload_n dX10_place_23 rfl (i := 0) rfl ?_
    refine V.iload_n dX10_place_24 rfl (i := 1) rfl ?_
    refine V.invv (z := mX10_hearsAll) (As := [_]) dX10_place_25 rfl mlRX10_238 okX10_hearsAll npX10_hearsAll rfl rfl rfl ⟨by decide, by decide⟩ (Nat.le_of_ble_eq_true rfl) rfl (Nat.le_of_ble_eq_true rfl) (c_all hV (fun M1 hM1 hH1 => ?_))
    show V rS g (d + 67) mX10_place 28 [some (.ref 83), some (.int a), some (.int w), none, none, none, none] [] M1 Q
    refine V.iconst dX10_place_28 (v := 0) (by decide) ?_
    refine V.istore_n dX10_place_29 rfl (i := 3) (by decide) (fun _ h => by cases h; exact Or.inl rfl) rfl ?_
    refine V.iconst dX10_place_30 (v := (-1)) (by decide) ?_
    refine V.istore dX10_place_31 (i := 4) (by decide) (fun _ h => by cases h; exact Or.inl rfl) rfl ?_
    refine V.iconst dX10_place_33 (v := 0) (by decide) ?_
    refine V.istore dX10_place_34 (i := 5) (by decide) (fun _ h => by cases h; exact Or.inl rfl) rfl ?_
    refine l_plc (M0 := M) hV (fun M2 l5 l6 hM2 => ?_) 20 0 M1 _ (by omega) (KpN.rf.x hM1.x) (fun x hx => hH1.x hx)
    refine V.fg (ls' := [some (.ref 83), some (.int a), some (.int w), some (.int (nI (plF (fun j => ldF (okN S M a n ne (nI (5 * j))) 100) 20).1)), some (.int (plF (fun j => ldF (okN S M a n ne (nI (5 * j))) 100) 20).2), none, none]) ⟨rfl, rfl, rfl, rfl, rfl, trivial⟩ ?_
    refine V.iload dX10_place_88 rfl ?_
    refine V.if_ge (tgt := 101) dX10_place_90 (by decide) (fun c90 => ?_) (fun c90 => ?_)
    · refine V.iload_n dX10_place_101 rfl (i := 2) rfl ?_
      refine V.if_ne (tgt := 109) dX10_place_102 (by decide) (fun c102 => ?_) (fun c102 => ?_)
      · refine V.iload dX10_place_109 rfl ?_
        exact V.ret dX10_place_111 rfl (by first | exact hnone h M2 hM2 (Int32.not_le.mp c90) | exact Qi (hok h M2 hM2 (Int32.not_lt.mpr c90)) (by rw [if_pos c102]) | exact Qi (hok h M2 hM2 (Int32.not_lt.mpr c90)) (by rw [if_neg c102]))
      · refine V.iload_n dX10_place_105 rfl (i := 3) rfl ?_
        refine V.goto dX10_place_106 (tgt := 111) (by decide) ?_
        exact V.ret dX10_place_111 rfl (by first | exact hnone h M2 hM2 (Int32.not_le.mp c90) | exact Qi (hok h M2 hM2 (Int32.not_lt.mpr c90)) (by rw [if_pos c102]) | exact Qi (hok h M2 hM2 (Int32.not_lt.mpr c90)) (by rw [if_neg c102]))
    · refine V.aload_n dX10_place_93 rfl (i := 0) rfl ?_
      refine V.iconst dX10_place_94 (v := 2) (by decide) ?_
      refine V.invv (z := mX10_finds) (As := [_]) dX10_place_95 rfl mlRX10_131 okX10_finds npX10_finds rfl rfl rfl ⟨by decide, by decide⟩ (Nat.le_of_ble_eq_true rfl) rfl (Nat.le_of_ble_eq_true rfl) (c_fnd2   ?_)
      show V rS g (d + 67) mX10_place 98 [some (.ref 83), some (.int a), some (.int w), some (.int (nI (plF (fun j => ldF (okN S M a n ne (nI (5 * j))) 100) 20).1)), some (.int ((plF (fun j => ldF (okN S M a n ne (nI (5 * j))) 100) 20).2)), none, none] [.int (-1000000002 : Int32)] (put M2 87 2 (M2 87 2 + 1)) Q
      refine V.goto dX10_place_98 (tgt := 111) (by decide) ?_
      exact V.ret dX10_place_111 rfl (by first | exact hnone h M2 hM2 (Int32.not_le.mp c90) | exact Qi (hok h M2 hM2 (Int32.not_lt.mpr c90)) (by rw [if_pos c102]) | exact Qi (hok h M2 hM2 (Int32.not_lt.mpr c90)) (by rw [if_neg c102]))
  · skip
    refine V.iload_n dX10_place_0 rfl (i := 1) rfl ?_
    refine V.invs (z := mX10_isHour) (As := [_]) dX10_place_1 rfl mlRX10_191 okX10_isHour npX10_isHour rfl (Nat.le_of_ble_eq_true rfl) rfl (Nat.le_of_ble_eq_true rfl) (c_hourR   ?_)
    show V rS g (d + 67) mX10_place 4 [some (.ref 83), some (.int a), some (.int w), none, none, none, none] [.int (b2i (0 ≤ a ∧ a ≤ 23))] (M) Q
    refine V.if_eq (tgt := 17) dX10_place_4 (by decide) (fun c4 => ?_) (fun c4 => ?_)
    · refine V.aload_n dX10_place_17 rfl (i := 0) rfl ?_
      refine V.iconst dX10_place_18 (v := 1) (by decide) ?_
      refine V.invv (z := mX10_finds) (As := [_]) dX10_place_19 rfl mlRX10_131 okX10_finds npX10_finds rfl rfl rfl ⟨by decide, by decide⟩ (Nat.le_of_ble_eq_true rfl) rfl (Nat.le_of_ble_eq_true rfl) (c_fnd1   ?_)
      show V rS g (d + 67) mX10_place 22 [some (.ref 83), some (.int a), some (.int w), none, none, none, none] [.int (-1000000001 : Int32)] (put (M) 87 1 ((M) 87 1 + 1)) Q
      exact V.ret dX10_place_22 rfl (hbad h)
    · refine V.iload_n dX10_place_7 rfl (i := 2) rfl ?_
      refine V.i2l dX10_place_8 ?_
      refine V.lconst dX10_place_9 (v := 0) (by decide) ?_
      refine V.lconst dX10_place_10 (v := 1) (by decide) ?_
      refine V.invs (z := mX10_in) (As := [_, _, _]) dX10_place_11 rfl mlRX10_66 okX10_in npX10_in rfl (Nat.le_of_ble_eq_true rfl) rfl (Nat.le_of_ble_eq_true rfl) (c_in32 (v := w) (lo := (0 : Int32)) (hi := (1 : Int32)) (by first | rfl | decide) (by first | rfl | decide)   ?_)
      show V rS g (d + 67) mX10_place 14 [some (.ref 83), some (.int a), some (.int w), none, none, none, none] [.int (b2i ((0 : Int32) ≤ w ∧ w ≤ (1 : Int32)))] (M) Q
      refine V.if_ne (tgt := 23) dX10_place_14 (by decide) (fun c14 => ?_) (fun c14 => ?_)
      · exact absurd ⟨(Classical.byContradiction fun z => c4 (b2i_f z)), (Classical.byContradiction fun z => c14 (b2i_f z))⟩ h
      · refine V.aload_n dX10_place_17 rfl (i := 0) rfl ?_
        refine V.iconst dX10_place_18 (v := 1) (by decide) ?_
        refine V.invv (z := mX10_finds) (As := [_]) dX10_place_19 rfl mlRX10_131 okX10_finds npX10_finds rfl rfl rfl ⟨by decide, by decide⟩ (Nat.le_of_ble_eq_true rfl) rfl (Nat.le_of_ble_eq_true rfl) (c_fnd1   ?_)
        show V rS g (d + 67) mX10_place 22 [some (.ref 83), some (.int a), some (.int w), none, none, none, none] [.int (-1000000001 : Int32)] (put (M) 87 1 ((M) 87 1 + 1)) Q
        exact V.ret dX10_place_22 rfl (hbad h)

