/-! ===== Trials: shifts ===== -/
def orC (v : Int32) (c : Bool) (t : Int32) : Int32 := if c = true then v ||| t else v
theorem orC_f (v t : Int32) : orC v false t = v := rfl
theorem orC_t (v t : Int32) : orC v true t = v ||| t := rfl
theorem orC_or (v t : Int32) (c e : Bool) : orC (orC v c t) e t = orC v (c || e) t := by
  cases c <;> cases e <;> simp [orC, Int32.or_assoc, Int32.or_self]
def shLo (D br : Int32) : Int32 := if (-300) < (D - br) then (D - br) else (-300)
def shHi (D br : Int32) : Int32 := if (D + br) < 300 then (D + br) else 300
/-- the shift that has place x falls between two -/
def shI (lo hi : Int32) (x : Nat) : Bool := decide (lo ≤ nI x - 300) && decide (nI x - 300 ≤ hi)
def shB (hp : Nat → Nat → Bool) (wy : Nat → Nat → Int32) (br : Int32) (off : Nat → Int32) (a e x b : Nat) : Bool :=
  hp a e && (!decide (b = a) && (hp b e && shI (shLo (off b + wy b e - (off a + wy a e)) br) (shHi (off b + wy b e - (off a + wy a e)) br) x))
theorem sh_toInt : ∀ y, y ≤ 601 → (nI y - 300).toInt = (y : Int) - 300 := by decide +kernel
theorem sh_toInt1 : ∀ y, y ≤ 601 → (nI y - 301).toInt = (y : Int) - 301 := by decide +kernel
theorem sh_301 (x : Nat) : nI (x + 1) - 301 = nI x - 300 := by
  rw [show nI (x + 1) = nI x + 1 from by have := nI_pred x; rw [← this, Int32.sub_add_cancel], Int32.sub_eq_add_neg, Int32.sub_eq_add_neg, Int32.add_assoc]
  rfl
def sN (x : Nat) : Int32 := nI x - 300
theorem sh_idx (x : Nat) : nI x - 300 + 300 = nI x := Int32.sub_add_cancel _ _
theorem sh_inc (x : Nat) : nI x - 300 + 1 = nI (x + 1) - 300 := by
  rw [show nI (x + 1) = nI x + 1 from by have := nI_pred x; rw [← this, Int32.sub_add_cancel], Int32.sub_eq_add_neg, Int32.sub_eq_add_neg, Int32.add_assoc, Int32.add_assoc, Int32.add_comm (-300) 1]
theorem shLo_ge (D br : Int32) : (-300 : Int32) ≤ shLo D br := by
  unfold shLo
  split
  · exact Int32.le_of_lt (by assumption)
  · exact Int32.le_refl _
theorem shHi_le (D br : Int32) : shHi D br ≤ (300 : Int32) := by
  unfold shHi
  split
  · exact Int32.le_of_lt (by assumption)
  · exact Int32.le_refl _
theorem sh_ex {i : Int32} (h1 : (-300 : Int32) ≤ i) (h2 : i ≤ (300 : Int32)) : ∃ x, x ≤ 600 ∧ i = nI x - 300 := by
  have e1 : (-300 : Int) ≤ i.toInt := Int32.le_iff_toInt_le.mp h1
  have e2 : i.toInt ≤ 300 := Int32.le_iff_toInt_le.mp h2
  refine ⟨(i.toInt + 300).toNat, by omega, ?_⟩
  rw [← Int32.toInt_inj, sh_toInt _ (by omega)]
  omega
theorem shI_iff {lo hi : Int32} {x : Nat} : shI lo hi x = true ↔ lo.toInt ≤ (nI x - 300).toInt ∧ (nI x - 300).toInt ≤ hi.toInt := by
  unfold shI
  rw [Bool.and_eq_true, decide_eq_true_iff, decide_eq_true_iff, Int32.le_iff_toInt_le, Int32.le_iff_toInt_le]
theorem bcF_nI' : ∀ m, m < 2048 → bcF (nI m) = nI (cB (fun k => m.testBit k) 11) := by decide +kernel
theorem bcF_bI' {p : Nat → Bool} {n : Nat} (hn : n ≤ 11) : bcF (bI p n) = nI (cB p n) := by
  unfold bI
  rw [bcF_nI' _ (Nat.lt_of_lt_of_le (nB_lt p n) (Nat.pow_le_pow_right (by omega) hn : 2 ^ n ≤ 2 ^ 11))]
  congr 1
  rw [cB_cong (q := fun k => decide (k < n) && p k) (fun k _ => nB_tb p k n), cB_more (n := n) (fun k hk => by simp [show ¬ k < n by omega]) 11 hn]
  exact cB_cong (fun k hk => by simp [hk])

set_option maxHeartbeats 4000000 in
set_option maxRecDepth 100000 in
theorem l_mk1 {g : GG} {d : Nat} {Q : Option Value → Mem → Prop} {M0 : Mem} {a e i : Nat} {t hb D lo hi : Int32} {x0 : Nat} (hlo : lo = nI x0 - 300) (h300 : hi ≤ 300) (hx0 : x0 ≤ 600) (hc : ∀ M', eqx [59] M0 M' → (∀ y, y < 601 → M' 59 y = orC (M0 59 y) (shI lo hi y) t) → V cS g d mX6_markShifts 141 [some (.ref 6), some (.int (nI a)), some (.int (nI e)), some (.int t), some (.int hb), some (.int (nI i)), none, none, none, none] [] M' Q) : ∀ (k x : Nat) (M : Mem), x + k = 601 → x0 ≤ x → eqx [59] M0 M → (∀ y, y < 601 → M 59 y = orC (M0 59 y) (decide (x0 ≤ y ∧ y < x)) t) → (x = x0 ∨ nI x - 301 ≤ hi) → V cS g d mX6_markShifts 113 [some (.ref 6), some (.int (nI a)), some (.int (nI e)), some (.int t), some (.int hb), some (.int (nI i)), some (.int D), some (.int lo), some (.int hi), some (.int (sN x))] [] M Q := by
  intro k
  have hfin : ∀ (x : Nat) (M : Mem), x ≤ 601 → x0 ≤ x → (x = x0 ∨ nI x - 301 ≤ hi) → hi < nI x - 300 → (∀ y, y < 601 → M 59 y = orC (M0 59 y) (decide (x0 ≤ y ∧ y < x)) t) → (∀ y, y < 601 → M 59 y = orC (M0 59 y) (shI lo hi y) t) := by
    intro x M hx h0 hp hlt hM y hy
    rw [hM y hy]
    congr 1
    rw [Bool.eq_iff_iff, shI_iff, decide_eq_true_iff, hlo, sh_toInt x0 (by omega), sh_toInt y (by omega)]
    have h1 : hi.toInt < (x : Int) - 300 := by have := Int32.lt_iff_toInt_lt.mp hlt; rwa [sh_toInt x hx] at this
    rcases hp with q | q
    · subst q; omega
    · have h2 : (x : Int) - 301 ≤ hi.toInt := by
        have := Int32.le_iff_toInt_le.mp q
        rwa [show (nI x - 301).toInt = (x : Int) - 301 from sh_toInt1 x hx] at this
      omega
  induction k with
  | zero =>
    intro x M hk h0 he hM hp
    obtain rfl : x = 601 := by omega
    have hlt : hi < nI 601 - 300 := Int32.lt_of_le_of_lt h300 (by decide)
    refine V.fg (ls' := [some (.ref 6), some (.int (nI a)), some (.int (nI e)), some (.int t), some (.int hb), some (.int (nI i)), some (.int D), some (.int lo), some (.int hi), some (.int (sN 601))]) ⟨rfl, rfl, rfl, rfl, rfl, rfl, rfl, rfl, rfl, rfl, trivial⟩ ?_
    refine V.iload dX6_markShifts_113 rfl ?_
    refine V.iload dX6_markShifts_115 rfl ?_
    refine V.ic_gt (tgt := 141) dX6_markShifts_117 (by decide) (fun c117 => ?_) (fun q => absurd ((hlt)) q)
    exact V.fg (ls' := [some (.ref 6), some (.int (nI a)), some (.int (nI e)), some (.int t), some (.int hb), some (.int (nI i)), none, none, none, none]) ⟨rfl, rfl, rfl, rfl, rfl, rfl, trivial⟩ (hc M he (hfin 601 M (by omega) h0 hp hlt hM))
  | succ k ih =>
    intro x M hk h0 he hM hp
    have hx : x < 601 := by omega
    refine V.iload dX6_markShifts_113 rfl ?_
    refine V.iload dX6_markShifts_115 rfl ?_
    refine V.ic_gt (tgt := 141) dX6_markShifts_117 (by decide) (fun c117 => ?_) (fun c117 => ?_)
    · exact V.fg (ls' := [some (.ref 6), some (.int (nI a)), some (.int (nI e)), some (.int t), some (.int hb), some (.int (nI i)), none, none, none, none]) ⟨rfl, rfl, rfl, rfl, rfl, rfl, trivial⟩ (hc M he (hfin x M (by omega) h0 hp c117 hM))
    · refine V.aload_n dX6_markShifts_120 rfl (i := 0) rfl ?_
      refine V.getR dX6_markShifts_121 rfl flRX6_18 rfl ⟨by decide, by decide⟩ ?_
      refine V.iload dX6_markShifts_124 rfl ?_
      refine V.sipush dX6_markShifts_126 (v := 300) (by decide) ?_
      refine V.iadd dX6_markShifts_129 ?_
      refine V.top (x' := (nI x)) ((sh_idx x)) ?_
      refine V.dup2 dX6_markShifts_130 rfl rfl ?_
      refine V.ialdN dX6_markShifts_131 rfl ⟨by decide, by decide⟩ (by first | assumption | decide | omega) (by decide) ?_
      refine V.iload_n dX6_markShifts_132 rfl (i := 3) rfl ?_
      refine V.ior dX6_markShifts_133 ?_
      refine V.iastN dX6_markShifts_134 rfl ⟨by decide, by decide⟩ (by first | assumption | decide | omega) (by decide) ?_
      refine V.iinc dX6_markShifts_135 rfl (v := (sN (x + 1))) (sh_inc x) (by decide) (fun _ h => by cases h; exact Or.inl rfl) rfl ?_
      refine V.goto dX6_markShifts_138 (tgt := 113) (by decide) ?_
      exact ih (x + 1) _ (by omega) (by omega) (he.put (by decide)) (fun y hy => by by_cases q : y = x; subst q; rw [put_s, hM y hy, decide_eq_false (by omega), decide_eq_true (by omega), orC_f, orC_t]; rw [put_n (fun z => by omega), hM y hy]; congr 1; rw [Bool.eq_iff_iff, decide_eq_true_iff, decide_eq_true_iff]; omega) (Or.inr (by rw [show nI (x + 1) - 301 = nI x - 300 from sh_301 x]; exact Int32.not_lt.mp c117))
set_option maxHeartbeats 4000000 in
set_option maxRecDepth 100000 in
theorem l_mk1b {g : GG} {d : Nat} {Q : Option Value → Mem → Prop} {a e i : Nat} {t hb D br lo hi : Int32} {M0 : Mem} (hc : ∀ M', eqx [59] M0 M' → (∀ y, y < 601 → M' 59 y = orC (M0 59 y) (shI lo hi y) t) → V cS g d mX6_markShifts 141 [some (.ref 6), some (.int (nI a)), some (.int (nI e)), some (.int t), some (.int hb), some (.int (nI i)), none, none, none, none] [] M' Q) (hlo : lo = shLo D br) (hhi : hi = shHi D br) : V cS g d mX6_markShifts 113 [some (.ref 6), some (.int (nI a)), some (.int (nI e)), some (.int t), some (.int hb), some (.int (nI i)), some (.int D), some (.int lo), some (.int hi), some (.int lo)] [] M0 Q := by
  have h300 : hi ≤ 300 := hhi ▸ shHi_le D br
  have hm : (-300 : Int32) ≤ lo := hlo ▸ shLo_ge D br
  by_cases qq : lo ≤ hi
  · obtain ⟨x0, hx, e0⟩ := sh_ex hm (Int32.le_trans qq h300)
    refine V.lseq (ls' := [some (.ref 6), some (.int (nI a)), some (.int (nI e)), some (.int t), some (.int hb), some (.int (nI i)), some (.int D), some (.int lo), some (.int hi), some (.int (sN x0))]) (by unfold sN; rw [← e0]) ?_
    exact l_mk1 e0 h300 hx hc (601 - x0) x0 M0 (by omega) (Nat.le_refl _) eqx.rf (fun y hy => by rw [decide_eq_false (by omega), orC_f]) (Or.inl rfl)
  · refine V.fg (ls' := [some (.ref 6), some (.int (nI a)), some (.int (nI e)), some (.int t), some (.int hb), some (.int (nI i)), some (.int D), some (.int lo), some (.int hi), some (.int lo)]) ⟨rfl, rfl, rfl, rfl, rfl, rfl, rfl, rfl, rfl, rfl, trivial⟩ ?_
    refine V.iload dX6_markShifts_113 rfl ?_
    refine V.iload dX6_markShifts_115 rfl ?_
    refine V.ic_gt (tgt := 141) dX6_markShifts_117 (by decide) (fun c117 => ?_) (fun q => absurd ((Int32.not_le.mp qq)) q)
    exact V.fg (ls' := [some (.ref 6), some (.int (nI a)), some (.int (nI e)), some (.int t), some (.int hb), some (.int (nI i)), none, none, none, none]) ⟨rfl, rfl, rfl, rfl, rfl, rfl, trivial⟩ (hc M0 eqx.rf (fun y hy => by rw [show shI lo hi y = false from Bool.eq_false_iff.mpr (fun z => qq (Int32.le_iff_toInt_le.mpr (Int.le_trans (shI_iff.mp z).1 (shI_iff.mp z).2))), orC_f]))
set_option maxHeartbeats 4000000 in
set_option maxRecDepth 100000 in
theorem l_mk {g : GG} {d : Nat} {Q : Option Value → Mem → Prop} {M0 : Mem} {hp : Nat → Nat → Bool} {wy : Nat → Nat → Int32} {n ne : Nat} (hN : cnts M0 n ne) (hH : Hd M0 hp wy n ne) {a e : Nat} {t : Int32} (ha : a < n) (he10 : e < ne) (hae : hp a e = true) (hQ : ∀ M', eqx [59] M0 M' → (∀ y, y < 601 → M' 59 y = orC (M0 59 y) (anB (shB hp wy (M0 1 6) (fun b => M0 (30 + b) 4) a e y) n) t) → Q none M') : ∀ (k i : Nat) (M : Mem), i + k = n → eqx [59] M0 M → (∀ y, y < 601 → M 59 y = orC (M0 59 y) (anB (shB hp wy (M0 1 6) (fun b => M0 (30 + b) 4) a e y) i) t) → V cS g (d + 3) mX6_markShifts 23 [some (.ref 6), some (.int (nI a)), some (.int (nI e)), some (.int t), some (.int (bI (fun b => hp b e) n)), some (.int (nI i)), none, none, none, none] [] M Q := by
  intro k
  induction k with
  | zero =>
    intro i M hk he hM
    have hz : M 1 2 = nI n := by rw [he 1 (by decide)]; exact hN.1
    obtain rfl : i = n := by omega
    refine V.iload dX6_markShifts_23 rfl ?_
    refine V.aload_n dX6_markShifts_25 rfl (i := 0) rfl ?_
    refine V.getR dX6_markShifts_26 rfl flRX6_21 rfl ⟨by decide, by decide⟩ ?_
    refine V.getI dX6_markShifts_29 rfl flRX6_29 rfl ⟨by decide, by decide⟩ ?_
    refine V.top (x' := (nI i)) (hz) ?_
    refine V.ic_ge (tgt := 147) dX6_markShifts_32 (by decide) (fun c32 => ?_) (fun q => absurd ((Int32.le_refl _)) q)
    exact V.vret dX6_markShifts_147 rfl (hQ M he hM)
  | succ k ih =>
    intro i M hk he hM
    have hNM : cnts M n ne := hN.eq he (by decide)
    have h8 := hN.2.1
    have h10 := hN.2.2.2
    have hHM : Hd M hp wy n ne := hH.eq he h8 (by decide) (fun b hb => by simp; omega)
    have e1 : M 1 = M0 1 := he 1 (by decide)
    have e30 : ∀ x, x < 8 → M (30 + x) = M0 (30 + x) := fun x hx => he (30 + x) (by simp; omega)
    have ha8 : a < 8 := by omega
    have hi8 : i < 8 := by omega
    have hen : e < 10 := by omega
    have hcont : ¬ nI i = nI a → ¬ (bI (fun b => hp b e) n >>> (nI i &&& 31)) &&& 1 = 0 → ∀ M', eqx [59] M M' → (∀ y, y < 601 → M' 59 y = orC (M 59 y) (shI (shLo (M (30 + i) 4 + M (46 + i) e - (M (30 + a) 4 + M (46 + a) e)) (M 1 6)) (shHi (M (30 + i) 4 + M (46 + i) e - (M (30 + a) 4 + M (46 + a) e)) (M 1 6)) y) t) → V cS g (d + 3) mX6_markShifts 141 [some (.ref 6), some (.int (nI a)), some (.int (nI e)), some (.int t), some (.int (bI (fun b => hp b e) n)), some (.int (nI i)), none, none, none, none] [] M' Q := by
      intro c38 c48 M' he' hM'
      have hie : hp i e = true := (Classical.not_not.mp (mt (bI_bit (p := fun b => hp b e) (n := n) (k := i) (by omega) (by omega)).mpr c48)).2
      refine V.iinc dX6_markShifts_141 rfl (v := (nI (i + 1))) (nI_1 _) (by decide) (fun _ h => by cases h; exact Or.inl rfl) rfl ?_
      refine V.goto dX6_markShifts_144 (tgt := 23) (by decide) ?_
      exact ih (i + 1) M' (by omega) (he.tr he') (fun y hy => by rw [hM' y hy, hM y hy, orC_or, anB]; congr 2; unfold shB; rw [hae, hie, decide_eq_false (fun q => c38 (by rw [q])), hHM.2 i e (by omega) he10 hie, hHM.2 a e ha he10 hae, e1, e30 i hi8, e30 a ha8]; rfl)
    have hno : ∀ M' : Mem, eqx [59] M0 M' → (∀ y, y < 601 → M' 59 y = orC (M0 59 y) (anB (shB hp wy (M0 1 6) (fun b => M0 (30 + b) 4) a e y) i) t) → (∀ y, ¬ (shB hp wy (M0 1 6) (fun b => M0 (30 + b) 4) a e y) i = true) → V cS g (d + 3) mX6_markShifts 23 [some (.ref 6), some (.int (nI a)), some (.int (nI e)), some (.int t), some (.int (bI (fun b => hp b e) n)), some (.int (nI (i + 1))), none, none, none, none] [] M' Q := fun M' he' hM' hf => ih (i + 1) M' (by omega) he' (fun y hy => by rw [hM' y hy, anB, Bool.eq_false_iff.mpr (hf y), Bool.or_false])
    refine V.iload dX6_markShifts_23 rfl ?_
    refine V.aload_n dX6_markShifts_25 rfl (i := 0) rfl ?_
    refine V.getR dX6_markShifts_26 rfl flRX6_21 rfl ⟨by decide, by decide⟩ ?_
    refine V.getI dX6_markShifts_29 rfl flRX6_29 rfl ⟨by decide, by decide⟩ ?_
    refine V.top (x' := (nI n)) (hNM.1) ?_
    refine V.ic_ge (tgt := 147) dX6_markShifts_32 (by decide) (fun q => absurd q ((nI_ge (a := i) (b := n) (by omega) (by omega)))) (fun c32 => ?_)
    refine V.iload dX6_markShifts_35 rfl ?_
    refine V.iload_n dX6_markShifts_37 rfl (i := 1) rfl ?_
    refine V.ic_eq (tgt := 141) dX6_markShifts_38 (by decide) (fun c38 => ?_) (fun c38 => ?_)
    · refine V.iinc dX6_markShifts_141 rfl (v := (nI (i + 1))) (nI_1 _) (by decide) (fun _ h => by cases h; exact Or.inl rfl) rfl ?_
      refine V.goto dX6_markShifts_144 (tgt := 23) (by decide) ?_
      first | exact hno M he hM (fun y q => by unfold shB at q; rw [decide_eq_true ((nI_eq (by omega) (by omega)).mp c38)] at q; simp at q) | exact hno M he hM (fun y q => (bI_bit (by omega) (by omega)).mp c48 ⟨by omega, by unfold shB at q; simp only [Bool.and_eq_true] at q; exact q.2.2.1⟩)
    · refine V.iload dX6_markShifts_41 rfl ?_
      refine V.iload dX6_markShifts_43 rfl ?_
      refine V.ishr dX6_markShifts_45 ?_
      refine V.iconst dX6_markShifts_46 (v := 1) (by decide) ?_
      refine V.iand dX6_markShifts_47 ?_
      refine V.if_eq (tgt := 141) dX6_markShifts_48 (by decide) (fun c48 => ?_) (fun c48 => ?_)
      · refine V.iinc dX6_markShifts_141 rfl (v := (nI (i + 1))) (nI_1 _) (by decide) (fun _ h => by cases h; exact Or.inl rfl) rfl ?_
        refine V.goto dX6_markShifts_144 (tgt := 23) (by decide) ?_
        first | exact hno M he hM (fun y q => by unfold shB at q; rw [decide_eq_true ((nI_eq (by omega) (by omega)).mp c38)] at q; simp at q) | exact hno M he hM (fun y q => (bI_bit (by omega) (by omega)).mp c48 ⟨by omega, by unfold shB at q; simp only [Bool.and_eq_true] at q; exact q.2.2.1⟩)
      · refine V.aload_n dX6_markShifts_51 rfl (i := 0) rfl ?_
        refine V.getR dX6_markShifts_52 rfl flRX6_25 rfl ⟨by decide, by decide⟩ ?_
        refine V.iload dX6_markShifts_55 rfl ?_
        refine V.iload_n dX6_markShifts_57 rfl (i := 2) rfl ?_
        refine V.invv (z := mX1_secondOf) (As := [_, _]) dX6_markShifts_58 rfl mlRX6_95 okX1_secondOf npX1_secondOf rfl rfl rfl ⟨by decide, by decide⟩ (Nat.le_of_ble_eq_true rfl) rfl (Nat.le_of_ble_eq_true rfl) (c_secondOf  (by first | assumption | decide | omega) (by first | assumption | decide | omega) ?_)
        show V cS g (d + 3) mX6_markShifts 61 [some (.ref 6), some (.int (nI a)), some (.int (nI e)), some (.int t), some (.int (bI (fun b => hp b e) n)), some (.int (nI i)), none, none, none, none] [.int (M (30 + i) 4 + M (46 + i) e)] (M) Q
        refine V.aload_n dX6_markShifts_61 rfl (i := 0) rfl ?_
        refine V.getR dX6_markShifts_62 rfl flRX6_25 rfl ⟨by decide, by decide⟩ ?_
        refine V.iload_n dX6_markShifts_65 rfl (i := 1) rfl ?_
        refine V.iload_n dX6_markShifts_66 rfl (i := 2) rfl ?_
        refine V.invv (z := mX1_secondOf) (As := [_, _]) dX6_markShifts_67 rfl mlRX6_95 okX1_secondOf npX1_secondOf rfl rfl rfl ⟨by decide, by decide⟩ (Nat.le_of_ble_eq_true rfl) rfl (Nat.le_of_ble_eq_true rfl) (c_secondOf  (by first | assumption | decide | omega) (by first | assumption | decide | omega) ?_)
        show V cS g (d + 3) mX6_markShifts 70 [some (.ref 6), some (.int (nI a)), some (.int (nI e)), some (.int t), some (.int (bI (fun b => hp b e) n)), some (.int (nI i)), none, none, none, none] [.int ((M) (30 + a) 4 + (M) (46 + a) e), .int (M (30 + i) 4 + M (46 + i) e)] ((M)) Q
        refine V.isub dX6_markShifts_70 ?_
        refine V.istore dX6_markShifts_71 (i := 6) (by decide) (fun _ h => by cases h; exact Or.inl rfl) rfl ?_
        refine V.sipush dX6_markShifts_73 (v := (-300)) (by decide) ?_
        refine V.iload dX6_markShifts_76 rfl ?_
        refine V.aload_n dX6_markShifts_78 rfl (i := 0) rfl ?_
        refine V.getR dX6_markShifts_79 rfl flRX6_21 rfl ⟨by decide, by decide⟩ ?_
        refine V.getI dX6_markShifts_82 rfl flRX6_98 rfl ⟨by decide, by decide⟩ ?_
        refine V.isub dX6_markShifts_85 ?_
        refine V.mmax dX6_markShifts_86 rfl mlRX6_101 (Nat.le_of_ble_eq_true rfl) ?_
        refine V.istore dX6_markShifts_89 (i := 7) (by decide) (fun _ h => by cases h; exact Or.inl rfl) rfl ?_
        refine V.sipush dX6_markShifts_91 (v := 300) (by decide) ?_
        refine V.iload dX6_markShifts_94 rfl ?_
        refine V.aload_n dX6_markShifts_96 rfl (i := 0) rfl ?_
        refine V.getR dX6_markShifts_97 rfl flRX6_21 rfl ⟨by decide, by decide⟩ ?_
        refine V.getI dX6_markShifts_100 rfl flRX6_98 rfl ⟨by decide, by decide⟩ ?_
        refine V.iadd dX6_markShifts_103 ?_
        refine V.mmin dX6_markShifts_104 rfl mlRX6_106 (Nat.le_of_ble_eq_true rfl) ?_
        refine V.istore dX6_markShifts_107 (i := 8) (by decide) (fun _ h => by cases h; exact Or.inl rfl) rfl ?_
        refine V.iload dX6_markShifts_109 rfl ?_
        refine V.istore dX6_markShifts_111 (i := 9) (by decide) (fun _ h => by cases h; exact Or.inl rfl) rfl ?_
        exact l_mk1b (hcont c38 c48) rfl rfl


