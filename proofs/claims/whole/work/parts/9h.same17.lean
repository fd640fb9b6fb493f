/-! ===== alike: slate, least, hang ===== -/
theorem ge_al {x y : Int32} (g : (x = -1000000 ∧ y = -1000000000) ∨ (x = y ∧ -99999 ≤ x.toInt ∧ x.toInt ≤ 100030)) : (!decide (x = -1000000)) = decide (-1000000000 < y) ∧ ((!decide (x = -1000000)) = true → x = y) := by
  rcases g with ⟨rfl, rfl⟩ | ⟨rfl, i2, i3⟩
  · exact ⟨by decide, fun z => absurd z (by decide)⟩
  · refine ⟨?_, fun _ => rfl⟩
    have c1 : ¬ x = -1000000 := fun z => by
      rw [z, show (-1000000 : Int32).toInt = -1000000 from by decide] at i2
      omega
    have c2 : (-1000000000 : Int32) < x := i_lt.mpr (by rw [show (-1000000000 : Int32).toInt = -1000000000 from by decide]; omega)
    rw [decide_eq_false c1, decide_eq_true c2]
    rfl
section SR
variable {M1 M2 : Mem} {n ne t wt : Nat} {S0 S1 : List Int32}
theorem Rel.al (h : Rel M1 M2 n ne t wt S0 S1) (w : Int32) {br : Int32} {off : Nat → Int32} (hbr : br = M1 1 6) (ho : ∀ x, x < n → off x = M1 (30 + x) 4) : AL (geC (fun a' b' => gpF (hpH M1 w) (wyH M1) (br) a' b' ne)) (fun a' b' => gpF (hpH M1 w) (wyH M1) (br) a' b' ne) off (geR (gR S0 M2 w ne)) (gR S0 M2 w ne) (offR M2) n := by
  refine ⟨fun x hx => (ho x hx).trans (h.bl.at hx (by decide)), fun a b ha hb => ?_⟩
  have g := gp_al (h.ag w) ha hb h.wn.2.1.2 h.wyb ne (Nat.le_refl _)
  have hb' := hbr.trans h.wn.2.1.1
  subst hb'
  exact ge_al g
theorem Rel.gb (h : Rel M1 M2 n ne t wt S0 S1) (w : Int32) {a b : Nat} (ha : a < n) (hb : b < n) (hg : geR (gR S0 M2 w ne) a b = true) : -99999 ≤ (gR S0 M2 w ne a b).toInt ∧ (gR S0 M2 w ne a b).toInt ≤ 100030 := by
  have g := gp_al (h.ag w) ha hb h.wn.2.1.2 h.wyb ne (Nat.le_refl _)
  unfold geR gR at *
  rcases g with ⟨i1, i2⟩ | ⟨i1, i2, i3⟩
  · rw [i2] at hg
    exact absurd hg (by decide)
  · rw [← i1]
    exact ⟨i2, i3⟩
theorem Rel.stE (h : Rel M1 M2 n ne t wt S0 S1) (w : Int32) {b : Nat} (hb : b < n) : strk (M1 (30 + b) 0) (M1 (30 + b) 1) (M1 (30 + b) 6) w = stR M2 w b := by
  unfold stR
  rw [h.bl.at hb (k := 0) (by decide), h.bl.at hb (k := 1) (by decide), h.bl.at hb (k := 6) (by decide)]
theorem Rel.odE (h : Rel M1 M2 n ne t wt S0 S1) (w : Int32) : odR (fun x => M1 (30 + x) 4) (fun b => strk (M1 (30 + b) 0) (M1 (30 + b) 1) (M1 (30 + b) 6) w) n = odR (offR M2) (stR M2 w) n :=
  odR_ext n (fun b hb => ⟨h.bl.at hb (by decide), h.stE w hb⟩)
theorem Rel.oN (h : Rel M1 M2 n ne t wt S0 S1) (w : Int32) : odN M1 w n = odK M2 w n := by
  funext k
  unfold odN odK
  rw [h.odE w]
theorem Rel.oM (h : Rel M1 M2 n ne t wt S0 S1) (w : Int32) : odM M1 w n = odL M2 w n := by
  unfold odM odL
  rw [h.odE w]
theorem odL_le {w : Int32} : odL M2 w n ≤ n := odR_len n
theorem odK_lt {w : Int32} : ∀ k, k < odL M2 w n → odK M2 w n k < n := fun k hk => by
  unfold odK
  unfold odL at hk
  rw [getD_el (show _ - 1 - k < _ by omega)]
  exact odR_lt (List.getElem_mem _)
theorem Rel.loE (h : Rel M1 M2 n ne t wt S0 S1) (w bd : Int32) {br : Int32} {off : Nat → Int32} (hbr : br = M1 1 6) (ho : ∀ x, x < n → off x = M1 (30 + x) 4) : (loT (geC (fun a' b' => gpF (hpH M1 w) (wyH M1) (br) a' b' ne)) (fun a' b' => gpF (hpH M1 w) (wyH M1) (br) a' b' ne) off (odN M1 w n) (bd) (odM M1 w n)) = (loT (geR (gR S0 M2 w ne)) (gR S0 M2 w ne) (offR M2) (odK M2 w n) (bd) (odL M2 w n)) := by
  rw [h.oN w, h.oM w]
  exact loT_al (h.al w hbr ho) odK_lt _ (Nat.le_refl _)
theorem Rel.hiE (h : Rel M1 M2 n ne t wt S0 S1) (w bd : Int32) {br : Int32} {off : Nat → Int32} (hbr : br = M1 1 6) (ho : ∀ x, x < n → off x = M1 (30 + x) 4) : (hiT (geC (fun a' b' => gpF (hpH M1 w) (wyH M1) (br) a' b' ne)) (fun a' b' => gpF (hpH M1 w) (wyH M1) (br) a' b' ne) off (odN M1 w n) (bd) (odM M1 w n) (odM M1 w n)) = (hiT (geR (gR S0 M2 w ne)) (gR S0 M2 w ne) (offR M2) (odK M2 w n) (bd) (odL M2 w n) (odL M2 w n)) := by
  rw [h.oN w, h.oM w]
  exact hiT_al (h.al w hbr ho) odK_lt _ (Nat.le_refl _)
theorem Rel.lbE (h : Rel M1 M2 n ne t wt S0 S1) (w : Int32) {T off : Nat → Int32} (ho : ∀ x, x < n → off x = M1 (30 + x) 4) : lbF T off (odN M1 w n) (odM M1 w n) = lbF T (offR M2) (odK M2 w n) (odL M2 w n) := by
  rw [h.oN w, h.oM w]
  exact lbF_al (fun x hx => (ho x hx).trans (h.bl.at hx (by decide))) odK_lt _ (Nat.le_refl _)
theorem Rel.ob (h : Rel M1 M2 n ne t wt S0 S1) (w : Int32) : ∀ k, k < odL M2 w n → -900 ≤ (offR M2 (odK M2 w n k)).toInt ∧ (offR M2 (odK M2 w n k)).toInt ≤ 900 := fun k hk => by
  have h8 := h.hn.2.2
  have hb := odK_lt k hk
  have := (h.bl.2 (odK M2 w n k) (by omega)).2.2.2.2.1
  rw [h.bl.at hb (k := 4) (by decide)] at this
  exact rg_i this (l := -900) (h := 900) (by decide) (by decide)
theorem Rel.gb2 (h : Rel M1 M2 n ne t wt S0 S1) (w : Int32) : ∀ i k, i < odL M2 w n → k < odL M2 w n → geR (gR S0 M2 w ne) (odK M2 w n i) (odK M2 w n k) = true → -99999 ≤ (gR S0 M2 w ne (odK M2 w n i) (odK M2 w n k)).toInt ∧ (gR S0 M2 w ne (odK M2 w n i) (odK M2 w n k)).toInt ≤ 100030 := fun i k hi hk hg => h.gb w (odK_lt i hi) (odK_lt k hk) hg
theorem Rel.slE (h : Rel M1 M2 n ne t wt S0 S1) (w : Int32) {Ma Mb : Mem} (ka : KpC M1 Ma) (kb : KpC Ma Mb) : M1 1 7 < lbF (loT (geC (fun a' b' => gpF (hpH M1 w) (wyH M1) (Ma 1 6) a' b' ne)) (fun a' b' => gpF (hpH M1 w) (wyH M1) (Ma 1 6) a' b' ne) (fun x => Ma (30 + x) 4) (odN M1 w n) (M1 1 7) (odM M1 w n)) (fun x => Mb (30 + x) 4) (odN M1 w n) (odM M1 w n) ↔ (gdF (loT (geR (gR S0 M2 w ne)) (gR S0 M2 w ne) (offR M2) (odK M2 w n) (M2 84 102) (odL M2 w n)) (offR M2) (odK M2 w n) (M2 84 102) (odL M2 w n)) = false := by
  have h8 := h.hn.2.2
  have oa : ∀ x, x < n → Ma (30 + x) 4 = M1 (30 + x) 4 := fun x hx => by rw [ka _ (pc_b (by omega)).1]
  have ob : ∀ x, x < n → Mb (30 + x) 4 = M1 (30 + x) 4 := fun x hx => by rw [kb _ (pc_b (by omega)).1]; exact oa x hx
  rw [h.loE w (M1 1 7) (br := Ma 1 6) (off := (fun x => Ma (30 + x) 4)) (by rw [ka 1 (by decide)]) oa, h.lbE w ob, h.wn.2.2.1.1]
  have bd := rg_i h.wn.2.2.1.2 (l := 0) (h := 300) (by decide) (by decide)
  have oL := odL_le (M2 := M2) (n := n) (w := w)
  exact lb_gd rfl bd.1 (by omega) (h.ob w) (h.gb2 w) (by omega)
end SR
theorem ks {M M' : Mem} (h : eqx (5 :: 55 :: scrH) M M') : KpC M M' := KpC.of h (by decide)
theorem k56 {M M' : Mem} (h : eqx [56] M M') : KpC M M' := KpC.of h (by decide)
theorem KpC.tr {M M' M'' : Mem} (h : KpC M M') (h' : KpC M' M'') : KpC M M'' := fun c hc => (h' c hc).trans (h c hc)

set_option maxHeartbeats 4000000 in
set_option maxRecDepth 100000 in
theorem s_slate {g : GG} {d : Nat} {a w v : Int32} : Same g (d + 6) (d + 67) mX9_slate mX10_slate [some (.ref 0), some (.int a), some (.int w), some (.int v)] [some (.ref 83), some (.int a), some (.int w), some (.int v), none] := by
  rintro M1 M2 ⟨n, ne, t, wt, S0, S1, h⟩
  have h8 := h.hn.2.2
  have ok : ((0 ≤ a ∧ a < M1 1 2 ∧ a < 8) ∧ (0 ≤ w ∧ w ≤ 23) ∧ 0 ≤ v ∧ v ≤ 1) ↔ ((0 ≤ a ∧ a < nI n) ∧ (0 ≤ w ∧ w ≤ 23) ∧ 0 ≤ v ∧ v ≤ 1) := and_congr_left' (okB h.hn.1 h8)
  have ib : ∀ {b b' : Nat}, b < n → b' < n → a = nI b → a = nI b' → b' = b := fun hb hb' e e' => nI_inj2 (e'.symm.trans e) (by omega) (by omega)
  have NS : ∀ {b b' : Nat}, b < n → b' < n → a = nI b → a = nI b' → strk (M1 (30 + b) 0) (M1 (30 + b) 1) (M1 (30 + b) 6) w = false → ¬ stR M2 w b' = true := fun hb hb' e e' z y => by
    obtain rfl := ib hb hb' e e'
    rw [h.stE w hb, y] at z
    cases z
  have NT : ∀ {b b' : Nat}, b < n → b' < n → a = nI b → a = nI b' → strk (M1 (30 + b) 0) (M1 (30 + b) 1) (M1 (30 + b) 6) w = true → ¬ stR M2 w b' = false := fun hb hb' e e' z y => by
    obtain rfl := ib hb hb' e e'
    rw [h.stE w hb, y] at z
    cases z
  have FT : ∀ {p : Bool}, p = false → ¬ p = true := fun e z => by rw [e] at z; cases z
  refine c9_slate h.vb (fun hn => c10_slate h.vr (fun _ => h.er (by decide) (by decide)) (fun hp => absurd (ok.mpr hp) hn) (fun hp => absurd (ok.mpr hp) hn) (fun hp => absurd (ok.mpr hp) hn))
    (fun hp b hb ea hs => c10_slate h.vr (fun hn => absurd (ok.mp hp) hn) (fun _ b' hb' ea' _ => h.er (by decide) (by decide)) (fun _ b' hb' ea' hs' => absurd hs' (NS hb hb' ea ea' hs)) (fun _ b' hb' ea' hs' => absurd hs' (NS hb hb' ea ea' hs)))
    (fun hp b hb ea hs Ma Mb ka kb hz => c10_slate h.vr (fun hn => absurd (ok.mp hp) hn) (fun _ b' hb' ea' hs' => absurd hs' (NT hb hb' ea ea' hs)) (fun _ b' hb' ea' hs' M2' k2 hz' => ((h.keepC ((ks ka).tr (k56 kb))).keepR k2).er (by decide) (by decide)) (fun _ b' hb' ea' hs' M2' k k2 hz' => absurd hz' (FT ((h.slE w (ks ka) (k56 kb)).mp hz))))
    (fun hp b hb ea hs hv Ma Mb ka kb hz hT => c10_slate h.vr (fun hn => absurd (ok.mp hp) hn) (fun _ b' hb' ea' hs' => absurd hs' (NT hb hb' ea ea' hs)) (fun _ b' hb' ea' hs' M2' k2 hz' => absurd ((h.slE w (ks ka) (k56 kb)).mpr hz') hz) (fun _ b' hb' ea' hs' M2' k k2 hz' hk hkb => ?_))
    (fun hp b hb ea hs hv Ma Mb ka kb Mc kc' hz hT => c10_slate h.vr (fun hn => absurd (ok.mp hp) hn) (fun _ b' hb' ea' hs' => absurd hs' (NT hb hb' ea ea' hs)) (fun _ b' hb' ea' hs' M2' k2 hz' => absurd ((h.slE w (ks ka) (k56 kb)).mpr hz') hz) (fun _ b' hb' ea' hs' M2' k k2 hz' hk hkb => ?_))
  · obtain rfl := ib hb hb' ea ea'
    have v0 : v = 0 := by
      obtain ⟨j, hj, e⟩ := nI_of2 (M := 1) (n := 1) (by decide) (Int32.not_lt.mpr hp.2.2.1) hp.2.2.2
      have : j = 0 ∨ j = 1 := by omega
      rcases this with rfl | rfl
      · exact e
      · exact absurd e hv
    refine ⟨_, rfl, congrArg (fun q => some (Value.int q)) ?_, ((h.keepC ((ks ka).tr (k56 kb))).keepR k2).e⟩
    have q := hT k (by rw [h.oM w]; exact hk)
    rw [h.oN w, hkb] at q
    rw [if_pos v0, q, ← h.oN w]
    rw [h.loE w (M1 1 7) (br := Ma 1 6) (off := (fun x => Ma (30 + x) 4)) (by rw [(ks ka) 1 (by decide)]) (fun x hx => by rw [(ks ka) _ (pc_b (by omega)).1]), h.wn.2.2.1.1, h.oN w]
  · obtain rfl := ib hb hb' ea ea'
    have kab := (ks ka).tr (k56 kb)
    refine ⟨_, rfl, congrArg (fun q => some (Value.int q)) ?_, ((h.keepC (kab.tr (k56 kc'))).keepR k2).e⟩
    have q := hT k (by rw [h.oM w]; exact hk)
    rw [h.oN w, hkb] at q
    rw [if_neg (by rw [hv]; decide), q, ← h.oN w]
    rw [h.hiE w (M1 1 7) (br := Mb 1 6) (off := (fun x => Mb (30 + x) 4)) (by rw [kab 1 (by decide)]) (fun x hx => by rw [kab _ (pc_b (by omega)).1]), h.wn.2.2.1.1, h.oN w]
set_option maxHeartbeats 4000000 in
set_option maxRecDepth 100000 in
theorem s_least {g : GG} {d : Nat} {a : Int32} : Same g (d + 6) (d + 67) mX9_least mX10_least [some (.ref 0), some (.int a), none] [some (.ref 83), some (.int a), none] := by
  rintro M1 M2 ⟨n, ne, t, wt, S0, S1, h⟩
  have h8 := h.hn.2.2
  have oL := odL_le (M2 := M2) (n := n) (w := a)
  obtain ⟨L, hL, eL, hp⟩ := least_i (h.ob a) (h.gb2 a) (show odL M2 a n ≤ 8 by omega)
  have lb : ∀ Ma Mb, eqx (5 :: 55 :: scrH) M1 Ma → eqx [56] Ma Mb → (lbF (loT (geC (fun a' b' => gpF (hpH M1 a) (wyH M1) (Ma 1 6) a' b' ne)) (fun a' b' => gpF (hpH M1 a) (wyH M1) (Ma 1 6) a' b' ne) (fun x => Ma (30 + x) 4) (odN M1 a n) (0) (odM M1 a n)) (fun x => Mb (30 + x) 4) (odN M1 a n) (odM M1 a n) + 1) / 2 = nI ((L + 1) / 2) := fun Ma Mb ka kb => by
    have kab := (ks ka).tr (k56 kb)
    rw [h.loE a 0 (br := Ma 1 6) (off := (fun x => Ma (30 + x) 4)) (by rw [(ks ka) 1 (by decide)]) (fun x hx => by rw [(ks ka) _ (pc_b (by omega)).1]), h.lbE a (fun x hx => by rw [kab _ (pc_b (by omega)).1]), eL, nI_1]
    exact pk_div (d := 2) (by omega) (by decide) (by decide)
  have fs1 : (L + 1) / 2 ≤ 2000 → fst (fun t => (gdF (loT (geR (gR S0 M2 a ne)) (gR S0 M2 a ne) (offR M2) (odK M2 a n) (nI t) (odL M2 a n)) (offR M2) (odK M2 a n) (nI t) (odL M2 a n))) 2001 = (L + 1) / 2 := fun z => fst_is (by omega) ((hp _ z).mpr (Nat.le_refl _)) (fun j hj => Bool.eq_false_iff.mpr (fun y => by have := (hp j (by omega)).mp y; omega))
  have fs2 : ¬ (L + 1) / 2 ≤ 2000 → fst (fun t => (gdF (loT (geR (gR S0 M2 a ne)) (gR S0 M2 a ne) (offR M2) (odK M2 a n) (nI t) (odL M2 a n)) (offR M2) (odK M2 a n) (nI t) (odL M2 a n))) 2001 = 2001 := fun z => fst_all (fun j hj => Bool.eq_false_iff.mpr (fun y => by have := (hp j (by omega)).mp y; omega))
  have c2 : (2000 : Int32) < nI ((L + 1) / 2) ↔ ¬ (L + 1) / 2 ≤ 2000 := by
    rw [show (2000 : Int32) = nI 2000 from rfl, nI_ltI (by omega) (by omega)]
    omega
  refine c9_least h.vb (fun hn => c10_least h.vr (fun _ => h.er (by decide) (by decide)) (fun hp => absurd hp hn) (fun hp => absurd hp hn)) (fun hq Ma Mb ka kb hz => c10_least h.vr (fun hn => absurd hq hn) (fun _ M2' k2 hz' => ((h.keepC ((ks ka).tr (k56 kb))).keepR k2).er (by decide) (by decide)) (fun _ M2' k2 hz' => ?_)) (fun hq Ma Mb ka kb hz => c10_least h.vr (fun hn => absurd hq hn) (fun _ M2' k2 hz' => ?_) (fun _ M2' k2 hz' => ?_))
  · rw [lb Ma Mb ka kb] at hz
    rw [fs2 (c2.mp hz)] at hz'
    exact absurd hz' (Nat.lt_irrefl _)
  · rw [lb Ma Mb ka kb] at hz
    have y := Classical.not_not.mp (fun z => hz (c2.mpr z))
    rw [fs1 y] at hz'
    omega
  · refine ⟨_, rfl, ?_, ((h.keepC ((ks ka).tr (k56 kb))).keepR k2).e⟩
    rw [lb Ma Mb ka kb] at hz ⊢
    rw [fs1 (Classical.not_not.mp (fun z => hz (c2.mpr z)))]
theorem Rel.zOff {M1 M2 : Mem} {n ne t wt : Nat} {S0 S1 : List Int32} {f1 f2 : Nat → Int32} (h : Rel M1 M2 n ne t wt S0 S1) (hf : ∀ b, b < n → f1 b = f2 b) (hr : ∀ b, b < 8 → rg (-900) 900 (f1 b)) : Rel (zo M1 f1) (zoR M2 f2) n ne t wt S0 S1 := by
  refine h.cur (fun c hc hq => zo_o (by omega)) (fun c hc => zoR_o hc) ?_
  obtain ⟨a0, a1, a2, a3, a4, a5, a6, a7, a8⟩ := h.1
  have g1 : ∀ c j, (¬ (30 ≤ c ∧ c < 38)) → zo M1 f1 c j = M1 c j := fun c j hc => by rw [zo_o hc]
  have gv : ∀ j, j ≠ 1000 → zo M1 f1 1 j = M1 1 j := fun j _ => g1 1 j (by decide)
  have g2 : ∀ j, (¬ (108 ≤ j ∧ j < 164)) → zoR M2 f2 84 j = M2 84 j := fun j hj => zoR_n (fun q => hj ⟨q.1, q.2.1⟩)
  have b1 : ∀ b k, b < 8 → zo M1 f1 (30 + b) k = if k = 4 then f1 b else M1 (30 + b) k := fun b k hb => by
    by_cases c : k = 4
    · rw [if_pos c, c]; exact zo_b hb
    · rw [if_neg c]; exact zo_n c
  have b2 : ∀ b k, b < 8 → k < 7 → zoR M2 f2 84 (108 + 7 * b + k) = if k = 4 then f2 b else M2 84 (108 + 7 * b + k) := fun b k hb hk => by
    by_cases c : k = 4
    · rw [if_pos c, c]; exact zoR_b hb
    · rw [if_neg c]; exact zoR_n (by omega)
  have h8 := a0.1.2.2
  refine ⟨a0.eq (gv 2 (by decide)) (gv 4 (by decide)) (g2 _ (by omega)) (g2 _ (by omega)), a1.eq (gv 5 (by decide)) (gv 6 (by decide)) (gv 7 (by decide)) (gv 12 (by decide)) (g2 _ (by omega)) (g2 _ (by omega)) (g2 _ (by omega)) (g2 _ (by omega)), a2.eq (gv 9 (by decide)) (fun i _ => g1 13 i (by decide)) (g2 _ (by omega)) (fun i _ => g2 _ (by omega)), a3.eq (gv 14 (by decide)) (fun i _ => g1 16 i (by decide)) (g2 _ (by omega)) (fun i _ => g2 _ (by omega)), a4.eq (fun i _ => g1 10 i (by decide)) (fun i _ => g2 _ (by omega)), ⟨fun b hb k hk => ?_, fun b hb => ?_⟩, a6.eq a0.2.2.2 (fun i _ => g1 12 i (by decide)) (fun i _ => g2 _ (by omega)), a7.eq (g1 14 _ (by decide)) (fun i _ => g1 68 i (by decide)) (g2 _ (by omega)) (fun i _ => g2 _ (by omega)), a8.eq (g1 15 _ (by decide)) (fun i _ => g1 71 i (by decide)) (g2 _ (by omega)) (fun i _ => g2 _ (by omega))⟩
  · rw [b1 b k (by omega), b2 b k (by omega) hk]
    by_cases c : k = 4
    · rw [if_pos c, if_pos c]; exact hf b hb
    · rw [if_neg c, if_neg c]; exact a5.1 b hb k hk
  · have q := a5.2 b hb
    unfold BD
    rw [b1 b 0 hb, b1 b 1 hb, b1 b 2 hb, b1 b 3 hb, b1 b 4 hb, b1 b 5 hb, b1 b 6 hb]
    exact ⟨q.1, q.2.1, q.2.2.1, q.2.2.2.1, hr b hb, q.2.2.2.2.2.1, q.2.2.2.2.2.2⟩

set_option maxHeartbeats 4000000 in
set_option maxRecDepth 100000 in
theorem s_hang {g : GG} {d : Nat} {a : Int32} : Same g (d + 6) (d + 67) mX9_hang mX10_hang [some (.ref 0), some (.int a)] [some (.ref 83), some (.int a), none, none, none] := by
  rintro M1 M2 ⟨n, ne, t, wt, S0, S1, h⟩
  have h8 := h.hn.2.2
  have FT : ∀ {p : Bool}, p = false → ¬ p = true := fun e z => by rw [e] at z; cases z
  refine c9_hang h.vb (fun hn => c10_hang h.vr (fun _ => h.er (by decide) (by decide)) (fun hp => absurd hp hn) (fun hp => absurd hp hn)) (fun hq Ma Mb ka kb hz => c10_hang h.vr (fun hn => absurd hq hn) (fun _ M2' k2 hz' => ((h.keepC ((ks ka).tr (k56 kb))).keepR k2).er (by decide) (by decide)) (fun _ M2' k2 hz' => absurd hz' (FT ((h.slE a (ks ka) (k56 kb)).mp hz)))) (fun hq Ma Mb ka kb hz => c10_hang h.vr (fun hn => absurd hq hn) (fun _ M2' k2 hz' => absurd ((h.slE a (ks ka) (k56 kb)).mpr hz') hz) (fun _ M2' k2 hz' => ?_))
  have kab := (ks ka).tr (k56 kb)
  have ob : ∀ x, x < n → Mb (30 + x) 4 = offR M2 x := fun x hx => by rw [kab _ (pc_b (by omega)).1]; exact h.bl.at hx (by decide)
  rw [h.loE a (M1 1 7) (br := Ma 1 6) (off := (fun x => Ma (30 + x) 4)) (by rw [(ks ka) 1 (by decide)]) (fun x hx => by rw [(ks ka) _ (pc_b (by omega)).1]), h.wn.2.2.1.1, h.oN a, h.oM a, tkC_al (off' := offR M2) ob odK_lt _ (Nat.le_refl _)]
  refine ⟨_, rfl, rfl, (Rel.zOff ((h.keepC kab).keepR k2) (fun b hb => ?_) (foT_rg (fun x hx => ?_) _)).e⟩
  · exact foT_al ob _ b hb
  · show rg (-900) 900 (Mb (30 + x) 4)
    rw [kab _ (pc_b hx).1]
    exact (h.bl.2 x hx).2.2.2.2.1

