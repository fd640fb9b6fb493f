/-! ===== alike: silence, holds ===== -/
section SI
variable {R : Nat → Int32} {S : Nat → Bool}
/-- the first one of the cheapest -/
def fm (R : Nat → Int32) (S : Nat → Bool) (k N b : Nat) : Prop := S b = true ∧ (∀ s, k ≤ s → s < N → S s = true → R b ≤ R s) ∧ ∀ s, k ≤ s → s < b → S s = true → R b < R s
theorem fm_one {N b c : Nat} (hb : fm R S 0 N b) (hc : fm R S 0 N c) (hbN : b < N) (hcN : c < N) : b = c := by
  rcases Nat.lt_trichotomy b c with q | q | q
  · exact absurd (hc.2.2 b (by omega) q hb.1) (Int32.not_lt.mpr (hb.2.1 c (by omega) hcN hc.1))
  · exact q
  · exact absurd (hb.2.2 c (by omega) q hc.1) (Int32.not_lt.mpr (hc.2.1 b (by omega) hbN hb.1))
theorem csD_fm {N : Nat} : ∀ k b, k ≤ N → b < N → fm R S k N b → csD R S k b < N ∧ fm R S 0 N (csD R S k b)
  | 0, b, _, hb, h => ⟨hb, h⟩
  | k + 1, b, hk, hb, h => by
    rw [csD]
    by_cases c : R k ≤ R b ∧ S k = true
    · rw [if_pos c]
      refine csD_fm k k (by omega) (by omega) ⟨c.2, fun s h1 h2 h3 => ?_, fun s h1 h2 _ => by omega⟩
      by_cases e : s = k
      · rw [e]; exact Int32.le_refl _
      · exact Int32.le_trans c.1 (h.2.1 s (by omega) h2 h3)
    · rw [if_neg c]
      refine csD_fm k b (by omega) hb ⟨h.1, fun s h1 h2 h3 => ?_, fun s h1 h2 h3 => ?_⟩
      · by_cases e : s = k
        · subst e; exact Int32.le_of_lt (Int32.not_le.mp (fun z => c ⟨z, h3⟩))
        · exact h.2.1 s (by omega) h2 h3
      · by_cases e : s = k
        · subst e; exact Int32.not_le.mp (fun z => c ⟨z, h3⟩)
        · exact h.2.2 s (by omega) h2 h3
theorem csU_fm : ∀ N, (csU R S N = none → ∀ s, s < N → S s = false) ∧ ∀ b, csU R S N = some b → b < N ∧ fm R S 0 N b
  | 0 => ⟨fun _ s hs => by omega, fun b h => by cases h⟩
  | N + 1 => by
    obtain ⟨i1, i2⟩ := csU_fm N
    rw [csU]
    by_cases c : S N = true ∧ csO R N (csU R S N) = true
    · rw [if_pos c]
      refine ⟨fun z => (by cases z), fun b e => ?_⟩
      cases e
      refine ⟨by omega, c.1, fun s h1 h2 h3 => ?_, fun s h1 h2 h3 => ?_⟩
      · by_cases e : s = N
        · rw [e]; exact Int32.le_refl _
        · cases q : csU R S N with
          | none => rw [i1 q s (by omega)] at h3; cases h3
          | some b =>
            rw [q] at c
            exact Int32.le_trans (Int32.le_of_lt (of_decide_eq_true c.2)) ((i2 b q).2.2.1 s h1 (by omega) h3)
      · cases q : csU R S N with
        | none => rw [i1 q s (by omega)] at h3; cases h3
        | some b =>
          rw [q] at c
          exact Int32.lt_of_lt_of_le (of_decide_eq_true c.2) ((i2 b q).2.2.1 s h1 (by omega) h3)
    · rw [if_neg c]
      refine ⟨fun z s hs => ?_, fun b e => ?_⟩
      · by_cases e : s = N
        · subst e
          rw [z] at c
          exact Bool.eq_false_iff.mpr (fun y => c ⟨y, rfl⟩)
        · exact i1 z s (by omega)
      · obtain ⟨j1, j2⟩ := i2 b e
        refine ⟨by omega, j2.1, fun s h1 h2 h3 => ?_, j2.2.2⟩
        by_cases x : s = N
        · subst x
          rw [e] at c
          exact Int32.not_lt.mp (fun y => c ⟨h3, decide_eq_true y⟩)
        · exact j2.2.1 s h1 (by omega) h3
theorem csD_U {N : Nat} (h0 : 0 < N) (hS : S (N - 1) = true) : csU R S N = some (csD R S N (N - 1)) := by
  have d := csD_fm (R := R) (S := S) (N := N) N (N - 1) (Nat.le_refl _) (by omega) ⟨hS, fun s h1 h2 _ => by omega, fun s h1 h2 _ => by omega⟩
  cases q : csU R S N with
  | none =>
    have := (csU_fm N).1 q (N - 1) (by omega)
    rw [this] at hS
    cases hS
  | some b =>
    have u := (csU_fm N).2 b q
    rw [fm_one u.2 d.2 u.1 d.1]
theorem csD_ext {R' : Nat → Int32} {S' : Nat → Bool} {N : Nat} (hR : ∀ s, s < N → R s = R' s) (hS : ∀ s, s < N → S s = S' s) : ∀ k b, k ≤ N → b < N → csD R S k b = csD R' S' k b
  | 0, b, _, _ => rfl
  | k + 1, b, hk, hb => by
    rw [csD, csD, hR k (by omega), hR b hb, hS k (by omega), csD_ext hR hS k k (by omega) (by omega), csD_ext hR hS k b (by omega) hb]
end SI
theorem all1 : ∀ n, n ≤ 8 → ∀ b, b < 8 → b < n → ¬ (nI (2 ^ n - 1) >>> (nI b &&& 31)) &&& 1 = 0 := by decide +kernel
theorem stB_all {E : Nat → Int32} {n : Nat} (h8 : n ≤ 8) : (!anB (stB E (nI (2 ^ n - 1))) n) = true := by
  rw [Bool.not_eq_true', Bool.eq_false_iff]
  intro z
  obtain ⟨k, hk, e⟩ := anB_iff.mp z
  unfold stB at e
  rw [decide_eq_false (all1 n h8 k (by omega) hk)] at e
  cases e
theorem stB_ext {E E' : Nat → Int32} {s : Int32} {b : Nat} (h : E b = E' b) : stB E s b = stB E' s b := by unfold stB; rw [h]
theorem k57 {M M' : Mem} (h : eqx [57] M M') : KpC M M' := KpC.of h (by decide)

set_option maxHeartbeats 4000000 in
set_option maxRecDepth 100000 in
theorem s_silence {g : GG} {d : Nat} {a w : Int32} : Same g (d + 5) (d + 67) mX9_silence mX10_silence [some (.ref 0), some (.int a), some (.int w), none] [some (.ref 83), some (.int a), some (.int w), none, none] := by
  rintro M1 M2 ⟨n, ne, t, wt, S0, S1, h⟩
  have h8 := h.hn.2.2
  have h10 := h.hne.2.2
  have p2 := p2p n
  refine c9_silence h.vb (fun hn => c10_silence h.vr (fun _ => h.er (by decide) (by decide)) (fun hp => absurd hp hn)) (fun hp Ma Mb ka kb => c10_silence h.vr (fun hn => absurd hp hn) (fun _ M2' k2 => ?_))
  have kab := (kc ka).tr (k57 kb)
  have rk : ∀ Mx, KpC M1 Mx → ∀ s, rkF Mx n s = rkR M2 n s := fun Mx kx s => by
    unfold rkF rkR
    refine sI_ext n (fun b hb => ?_)
    rw [kx _ (pc_b (by omega)).1, h.bl.at hb (k := 5) (by decide)]
  have ag : AG (hpH M1 a) (wyH M1) (fun b => Ma (30 + b) 4) (hpR S0 M2 a) (wyR M2) (offR M2) n ne := ⟨(h.ag a).1, fun b hb => by show Ma (30 + b) 4 = _; rw [(kc ka).c (30 + b) (pc_b (by omega)).1]; exact (h.ag a).2 b hb⟩
  have E : (csD (fun s => rkF Ma n (nI s)) (fun s => !anB (stB (fun x => bI (enP (hpH M1 a) (wyH M1) (Ma 1 6) (fun b => Ma (30 + b) 4) ne x) n) (nI s)) n) (2 ^ n) (2 ^ n - 1)) = (csD (fun s => rkR M2 n (nI s)) (fun s => !anB (stB (fun x => bI (enP (hpR S0 M2 a) (wyR M2) (M2 84 101) (offR M2) ne x) n) (nI s)) n) (2 ^ n) (2 ^ n - 1)) := by
    refine csD_ext (N := 2 ^ n) (fun s _ => rk Ma (kc ka) _) (fun s _ => ?_) _ _ (Nat.le_refl _) (by omega)
    refine congrArg Bool.not (anB_cong (fun b hb => ?_))
    refine stB_ext (bI_ext (fun x hx => ?_))
    unfold enP
    rw [(kc ka).c 1, h.wn.2.1.1, anB_cong (fun e he => ag.cl hb hx he)]
  refine ⟨_, rfl, congrArg (fun q => some (Value.int q)) ?_, ((h.keepC kab).keepR k2).e⟩
  rw [csD_U p2 (stB_all h8), E, rk Mb kab]
  rfl
theorem bsF_ext {W W' : Nat → Int32} : ∀ k, k ≤ 300 → (∀ y, 300 - k ≤ y → y ≤ 300 + k → W y = W' y) → bsF W k = bsF W' k ∧ 300 - k ≤ bsF W k ∧ bsF W k ≤ 300 + k
  | 0, _, _ => ⟨rfl, Nat.le_refl _, Nat.le_refl _⟩
  | k + 1, hk, h => by
    obtain ⟨i1, i2, i3⟩ := bsF_ext k (by omega) (fun y h1 h2 => h y (by omega) (by omega))
    have e : bsF W (k + 1) = bsF W' (k + 1) := by
      rw [bsF, bsF, ← i1, h (300 + (k + 1)) (by omega) (by omega), h (300 - (k + 1)) (by omega) (by omega), h (bsF W k) (by omega) (by omega)]
      by_cases c : W' (300 - (k + 1)) < W' (bsF W k)
      · rw [if_pos c, h (300 - (k + 1)) (by omega) (by omega)]
      · rw [if_neg c, h (bsF W k) (by omega) (by omega)]
    refine ⟨e, ?_⟩
    rw [bsF]
    repeat' split
    all_goals omega
theorem absI_le {x br : Int32} {b : Int} (hb : br.toInt = b) (h1 : -2147483648 < x.toInt) : absI x ≤ br ↔ -b ≤ x.toInt ∧ x.toInt ≤ b := by
  have z : (0 : Int32).toInt = 0 := by decide
  have h2 := x.toInt_lt
  unfold absI
  by_cases c : 0 ≤ x
  · have c' := i_le.mp c
    rw [if_pos c, i_le]
    omega
  · have c' : ¬ (0 : Int32).toInt ≤ x.toInt := fun q => c (i_le.mpr q)
    rw [if_neg c, i_le, i_sub (by omega) (by omega)]
    omega
/-- a shift falls within a breath -/
theorem shI_cl {oa ob wa wb br : Int32} {y : Nat} (hy : y ≤ 600) (hoa : rg (-900) 900 oa) (hob : rg (-900) 900 ob) (hwa : rg 0 99999 wa) (hwb : rg 0 99999 wb) (hbr : rg 0 30 br) : shI (shLo (ob + wb - (oa + wa)) br) (shHi (ob + wb - (oa + wa)) br) y = decide (absI (oa + sN y + wa - ob - wb) ≤ br) := by
  have a1 := rg_i hoa (l := -900) (h := 900) (by decide) (by decide)
  have a2 := rg_i hob (l := -900) (h := 900) (by decide) (by decide)
  have a3 := rg_i hwa (l := 0) (h := 99999) (by decide) (by decide)
  have a4 := rg_i hwb (l := 0) (h := 99999) (by decide) (by decide)
  have a5 := rg_i hbr (l := 0) (h := 30) (by decide) (by decide)
  have s : (sN y).toInt = (y : Int) - 300 := sh_toInt y (by omega)
  have e1 : (oa + sN y).toInt = oa.toInt + (sN y).toInt := i_add (by omega) (by omega)
  have e2 : (oa + sN y + wa).toInt = oa.toInt + (sN y).toInt + wa.toInt := by rw [i_add (by omega) (by omega), e1]
  have e3 : (oa + sN y + wa - ob).toInt = oa.toInt + (sN y).toInt + wa.toInt - ob.toInt := by rw [i_sub (by omega) (by omega), e2]
  have e4 : (oa + sN y + wa - ob - wb).toInt = oa.toInt + (sN y).toInt + wa.toInt - ob.toInt - wb.toInt := by rw [i_sub (by omega) (by omega), e3]
  have d1 : (ob + wb).toInt = ob.toInt + wb.toInt := i_add (by omega) (by omega)
  have d2 : (oa + wa).toInt = oa.toInt + wa.toInt := i_add (by omega) (by omega)
  have d3 : (ob + wb - (oa + wa)).toInt = ob.toInt + wb.toInt - (oa.toInt + wa.toInt) := by rw [i_sub (by omega) (by omega), d1, d2]
  have d4 : (ob + wb - (oa + wa) - br).toInt = ob.toInt + wb.toInt - (oa.toInt + wa.toInt) - br.toInt := by rw [i_sub (by omega) (by omega), d3]
  have d5 : (ob + wb - (oa + wa) + br).toInt = ob.toInt + wb.toInt - (oa.toInt + wa.toInt) + br.toInt := by rw [i_add (by omega) (by omega), d3]
  have m3 : (-300 : Int32).toInt = -300 := by decide
  have p3 : (300 : Int32).toInt = 300 := by decide
  refine Bool.eq_iff_iff.mpr ?_
  rw [shI_iff, decide_eq_true_iff, absI_le rfl (by omega), e4]
  show _ ≤ (sN y).toInt ∧ (sN y).toInt ≤ _ ↔ _
  unfold shLo shHi
  by_cases c1 : (-300) < (ob + wb - (oa + wa) - br)
  · rw [if_pos c1, d4]
    by_cases c2 : (ob + wb - (oa + wa) + br) < 300
    · rw [if_pos c2, d5]
      omega
    · have c2' : ¬ (ob + wb - (oa + wa) + br).toInt < (300 : Int32).toInt := fun q => c2 (i_lt.mpr q)
      rw [if_neg c2, p3]
      omega
  · have c1' : ¬ (-300 : Int32).toInt < (ob + wb - (oa + wa) - br).toInt := fun q => c1 (i_lt.mpr q)
    rw [if_neg c1, m3]
    by_cases c2 : (ob + wb - (oa + wa) + br) < 300
    · rw [if_pos c2, d5]
      omega
    · have c2' : ¬ (ob + wb - (oa + wa) + br).toInt < (300 : Int32).toInt := fun q => c2 (i_lt.mpr q)
      rw [if_neg c2, p3]
      omega
theorem cs_pos {hp : Nat → Nat → Bool} {wy : Nat → Nat → Int32} {br : Int32} {off : Nat → Int32} {n ne a : Nat} {sh : Int32} (h8 : n ≤ 8) (h10 : ne ≤ 10) : 0 < ccS hp wy br off n ne a sh ↔ ∃ b, b < n ∧ ¬ b = a ∧ anB (clP hp wy br a (off a + sh) b (off b)) ne = true := by
  have e : ccS hp wy br off n ne a sh = nI (sm (fun b => if b = a then 0 else cB (clP hp wy br a (off a + sh) b (off b)) ne) n) := by
    unfold ccS
    rw [← sI_sm]
    refine sI_ext n (fun b _ => ?_)
    by_cases c : b = a
    · rw [if_pos c, if_pos c]; rfl
    · rw [if_neg c, if_neg c]
  have le : sm (fun b => if b = a then 0 else cB (clP hp wy br a (off a + sh) b (off b)) ne) n ≤ n * 10 := sm_le n (fun i _ => by
    show (if i = a then 0 else _) ≤ 10
    by_cases c : i = a
    · rw [if_pos c]; omega
    · rw [if_neg c]; exact Nat.le_trans (cB_le _ _) h10)
  rw [e, show (0 : Int32) = nI 0 from rfl, nI_ltI (by decide) (by omega)]
  constructor
  · intro z
    refine Classical.byContradiction fun y => ?_
    have : sm (fun b => if b = a then 0 else cB (clP hp wy br a (off a + sh) b (off b)) ne) n = 0 := (sm_zero n).mpr (fun i hi => by
      show (if i = a then 0 else _) = 0
      by_cases c : i = a
      · rw [if_pos c]
      · rw [if_neg c]
        exact Nat.eq_zero_of_not_pos (fun q => y ⟨i, hi, c, (cB_anN ne).mp q⟩))
    omega
  · rintro ⟨b, hb, hba, hq⟩
    refine Nat.pos_of_ne_zero fun z => ?_
    have := (sm_zero n).mp z b hb
    rw [if_neg hba] at this
    have := (cB_anN ne).mpr hq
    omega
theorem kw {M M' : Mem} (h : eqx scrW M M') : KpC M M' := KpC.of h (by decide)

set_option maxHeartbeats 4000000 in
set_option maxRecDepth 100000 in
theorem s_holds {g : GG} {d : Nat} {a w v : Int32} : Same g (d + 6) (d + 67) mX9_holds mX10_holds [some (.ref 0), some (.int a), some (.int w), some (.int v), none] [some (.ref 83), some (.int a), some (.int w), some (.int v), none, none, none] := by
  rintro M1 M2 ⟨n, ne, t, wt, S0, S1, h⟩
  have h8 := h.hn.2.2
  have h10 := h.hne.2.2
  have ok : ((0 ≤ a ∧ a < M1 1 2 ∧ a < 8) ∧ (0 ≤ w ∧ w ≤ 23) ∧ 0 ≤ v ∧ v ≤ 1) ↔ ((0 ≤ a ∧ a < nI n) ∧ (0 ≤ w ∧ w ≤ 23) ∧ 0 ≤ v ∧ v ≤ 1) := and_congr_left' (okB h.hn.1 h8)
  obtain ⟨bd, hbd, ebd⟩ := rg_n 300 (by decide) h.wn.2.2.1.2
  have ag : ∀ j, AG (hpF M1 (fun b => strk (M1 (30 + b) 0) (M1 (30 + b) 1) (M1 (30 + b) 6) w) (wN j)) (wyF M1 (wN j)) (fun b => M1 (30 + b) 4) (hpR S0 (wdM M2 j) w) (wyR (wdM M2 j)) (offR M2) n ne := fun j => by
    have hx : wdM M2 j 84 100 = wN j := put_s
    have ho : ∀ i, i ≠ 100 → i ≠ 107 → wdM M2 j 84 i = M2 84 i := fun i hi _ => put_n (fun z => hi z.2)
    exact ⟨fun b hb e he => ⟨hp_al h hb he hx ho, wy_al h hb he hx ho⟩, fun b hb => h.bl.at hb (by decide)⟩
  refine c9_holds h.vb (h.wn.2.2.1.1.trans ebd) hbd (fun hn => c10_holds h.vr ebd hbd (fun _ => h.er (by decide) (by decide)) (fun hp => absurd (ok.mpr hp) hn)) (fun hp b hb ea M1' k1 hW1 => c10_holds h.vr ebd hbd (fun hn => absurd (ok.mp hp) hn) (fun _ b' hb' ea' M2' k2 hW2 => ?_))
  obtain rfl : b' = b := nI_inj2 (ea'.symm.trans ea) (by omega) (by omega)
  have key : ∀ y, y ≤ 600 → ∀ j, j < 11 → shW M1 n ne b' w y j = hW S0 M2 n ne w b' y j := fun y hy j hj => by
    have hwn : rg (-5) 5 (wN j) := by
      have : ∀ j, j < 11 → (-5 : Int32) ≤ wN j ∧ wN j ≤ 5 := by decide
      exact this j hj
    have wr : ∀ x, x < n → ∀ e, e < ne → rg 0 99999 (wyF M1 (wN j) x e) := fun x hx e he => wayF_rg (h.bl.2 x (by omega)).2.2.1 (h.ear.2 e (by omega)) hwn
    have SH : ∀ e, e < ne → ∀ x, x < n → shB (hpF M1 (fun b => strk (M1 (30 + b) 0) (M1 (30 + b) 1) (M1 (30 + b) 6) w) (wN j)) (wyF M1 (wN j)) (M1 1 6) (fun b => M1 (30 + b) 4) b' e y x = (!decide (x = b') && clP (hpR S0 (wdM M2 j) w) (wyR (wdM M2 j)) (M2 84 101) b' (offR M2 b' + sN y) x (offR M2 x) e) := fun e he x hx => by
      unfold shB clP
      rw [shI_cl hy (h.bl.2 b' (by omega)).2.2.2.2.1 (h.bl.2 x (by omega)).2.2.2.2.1 (wr b' hb' e he) (wr x hx e he) (by rw [h.wn.2.1.1]; exact h.wn.2.1.2), ((ag j).1 b' hb' e he).1, ((ag j).1 x hx e he).1, ((ag j).1 b' hb' e he).2, ((ag j).1 x hx e he).2, h.bl.at hb' (k := 4) (by decide), h.bl.at hx (k := 4) (by decide), h.wn.2.1.1]
      cases hpR S0 (wdM M2 j) w b' e <;> cases decide (x = b') <;> rfl
    refine Bool.eq_iff_iff.mpr ?_
    unfold shW hW
    rw [decide_eq_true_iff, cs_pos h8 h10, anB_iff]
    constructor
    · rintro ⟨e, he, q⟩
      obtain ⟨x, hx, q⟩ := anB_iff.mp q
      rw [SH e he x hx, Bool.and_eq_true, Bool.not_eq_true', decide_eq_false_iff_not] at q
      exact ⟨x, hx, q.1, anB_iff.mpr ⟨e, he, q.2⟩⟩
    · rintro ⟨x, hx, hxb, q⟩
      obtain ⟨e, he, q⟩ := anB_iff.mp q
      refine ⟨e, he, anB_iff.mpr ⟨x, hx, ?_⟩⟩
      rw [SH e he x hx, q, decide_eq_false hxb]
      rfl
  have WE : ∀ y, 300 - bd ≤ y → y ≤ 300 + bd → bcF (M1' 59 y) = M2' 96 y := fun y h1 h2 => by
    rw [hW1 y (by omega), bcF_bI' (by decide), hW2 y h1 h2, cB_cong (fun j hj => key y (by omega) j hj)]
  have B := bsF_ext (W := fun x => bcF (M1' 59 x)) (W' := M2' 96) bd hbd WE
  refine ⟨_, rfl, congrArg (fun q => some (Value.int q)) ?_, ((h.keepC (kw k1)).keepR k2).e⟩
  rw [← B.1, WE _ B.2.1 B.2.2]

