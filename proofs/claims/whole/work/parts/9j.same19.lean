/-! ===== alike: chance, hangs, place ===== -/
theorem i32_sw2 (a b c d : Int32) : c + d - (a + b) = -(a + b - c - d) := by
  simp only [Int32.sub_eq_add_neg, Int32.neg_add, Int32.neg_neg]
  ac_rfl
theorem cB_at {q : Nat → Bool} {lo : Nat} (h : ∀ k, k < lo → q k = false) : ∀ m, cB q (lo + m) = cB (fun j => q (lo + j)) m
  | 0 => cB_zero.mpr h
  | m + 1 => by rw [← Nat.add_assoc, cB_s, cB_s, cB_at h m]
theorem cB_win {p : Nat → Bool} {lo hi N : Nat} (h1 : lo ≤ hi) (h2 : hi < N) : cB (fun s => (decide (lo ≤ s) && decide (s ≤ hi)) && p s) N = cB (fun j => p (lo + j)) (hi + 1 - lo) := by
  rw [cB_more (n := hi + 1) (fun k hk => by rw [decide_eq_false (show ¬ k ≤ hi by omega), Bool.and_false, Bool.false_and]) N (by omega)]
  have := cB_at (q := fun s => (decide (lo ≤ s) && decide (s ≤ hi)) && p s) (lo := lo) (fun k hk => by
    show ((decide (lo ≤ k) && decide (k ≤ hi)) && p k) = false
    rw [decide_eq_false (show ¬ lo ≤ k by omega), Bool.false_and, Bool.false_and]) (hi + 1 - lo)
  rw [show lo + (hi + 1 - lo) = hi + 1 by omega] at this
  rw [this]
  refine cB_cong (fun j hj => ?_)
  show ((decide (lo ≤ lo + j) && decide (lo + j ≤ hi)) && p (lo + j)) = p (lo + j)
  rw [decide_eq_true (show lo ≤ lo + j by omega), decide_eq_true (show lo + j ≤ hi by omega)]
  rfl
theorem cB_true : ∀ k, cB (fun _ => true) k = k
  | 0 => rfl
  | k + 1 => by rw [cB_s, cB_true k]; rfl
theorem nrS_win {f mm s : Nat} (hf : f < 100) (hm : mm ≤ 23) (hs : s < 100) : nrS (nI f) (nI mm) s = (decide (f - mm ≤ s) && decide (s ≤ min 99 (f + mm))) := by
  have e : (nI s - nI f).toInt = (s : Int) - f := pk_sub_toInt (by omega) (by omega)
  have em : (nI mm).toInt = (mm : Int) := nI_toInt (by omega)
  refine Bool.eq_iff_iff.mpr ?_
  unfold nrS
  rw [decide_eq_true_iff, absI_le em (by omega), e, Bool.and_eq_true, decide_eq_true_iff, decide_eq_true_iff, Nat.min_def]
  by_cases c : 99 ≤ f + mm
  · rw [if_pos c]; omega
  · rw [if_neg c]; omega
theorem cc_z {hp : Nat → Nat → Bool} {wy : Nat → Nat → Int32} {br : Int32} {off : Nat → Int32} {n ne a : Nat} (h8 : n ≤ 8) (h10 : ne ≤ 10) : ccF hp wy br off n ne a = 0 ↔ ¬ 0 < ccF hp wy br off n ne a := by
  rw [cc_sm]
  have le : sm (fun b => if b = a then 0 else cB (cl2 hp wy br off a b) ne) n ≤ n * 10 := sm_le n (fun i _ => by
    show (if i = a then 0 else _) ≤ 10
    by_cases c : i = a
    · rw [if_pos c]; omega
    · rw [if_neg c]; exact Nat.le_trans (cB_le _ _) h10)
  generalize sm (fun b => if b = a then 0 else cB (cl2 hp wy br off a b) ne) n = T at le
  rw [show (0 : Int32) = nI 0 from rfl, nI_eq (by omega) (by omega), nI_ltI (by omega) (by omega)]
  omega
section CH
variable {M1 M2 : Mem} {n ne t wt : Nat} {S0 S1 : List Int32}
theorem Rel.chE (h : Rel M1 M2 n ne t wt S0 S1) {w : Int32} {Ma : Mem} (ka : KpC M1 Ma) {b s : Nat} (hb : b < n) (hs : s < 100) : chP S0 M2 w n ne b s = (stR M2 w b && anB (cfP Ma (hpH M1 w) (wyH M1) n b (nI s)) ne) := by
  have h8 := h.hn.2.2
  have h10 := h.hne.2.2
  have h' := h.keepC ka
  have rs : rg 0 99 (nI s) := ⟨nI_pos' (by omega), nI_le (b := 99) (by omega) (by omega)⟩
  have e1 : ∀ e, e < ne → hpR S0 (spM M2 b (nI s)) w b e = (stR M2 w b && decide (0 < strS Ma (Ma (30 + b) 0) (Ma (30 + b) 3) (nI s) (Ma 12 e) (Ma 1 5))) := fun e he => by
    unfold hpR
    rw [show stR (spM M2 b (nI s)) w b = stR M2 w b from by unfold stR; rw [sp_n (by omega), sp_n (by omega), sp_n (by omega)], sp_n (i := 108 + 7 * b + 0) (by omega), sp_n (i := 108 + 7 * b + 3) (by omega), show spM M2 b (nI s) 84 (108 + 7 * b + 2) = nI s from put_s, sp_n (i := 171 + e) (by omega), sp_n (i := 100) (by omega), ← str_al (M1 := Ma) (h'.l0.eq rfl (fun _ _ => rfl) (sp_n (by omega)) (fun i _ => sp_n (by omega))) (h'.hl.eq (fun _ _ => rfl) (fun i _ => sp_n (by omega))) rs (by rw [← h'.ear.1 e he]; exact h'.ear.2 e (by omega)), h'.bl.at hb (k := 0) (by decide), h'.bl.at hb (k := 3) (by decide), h'.ear.1 e he, h'.wn.1.1]
  have e2 : ∀ e, e < ne → wyR (spM M2 b (nI s)) b e = wayF (nI s) (Ma 12 e) (Ma 1 5) := fun e he => by
    unfold wyR
    rw [show spM M2 b (nI s) 84 (108 + 7 * b + 2) = nI s from put_s, sp_n (i := 171 + e) (by omega), sp_n (i := 100) (by omega), h'.ear.1 e he, h'.wn.1.1]
  have P : ∀ x, x < n → ¬ x = b → ∀ e, e < ne → clP (hpC S0 M2 w b (nI s)) (wyC M2 b (nI s)) (M2 84 101) b (offR M2 b + 0) x (offR M2 x) e = (stR M2 w b && (decide (0 < strS Ma (Ma (30 + b) 0) (Ma (30 + b) 3) (nI s) (Ma 12 e) (Ma 1 5)) && nrP (hpH M1 w) (wyH M1) (Ma 1 6) (fun x => Ma (30 + x) 4) e (Ma (30 + b) 4 + wayF (nI s) (Ma 12 e) (Ma 1 5)) (nI b) x)) := fun x hx hxb e he => by
    unfold clP hpC wyC nrP
    rw [if_pos rfl, if_neg hxb, if_pos rfl, if_neg hxb, Int32.add_zero, e1 e he, e2 e he, decide_eq_false (show ¬ nI x = nI b from fun z => hxb (nI_inj2 z (by omega) (by omega))), ((h.ag w).1 x hx e he).1, ((h.ag w).1 x hx e he).2, i32_sw2 (Ma (30 + b) 4) (wayF (nI s) (Ma 12 e) (Ma 1 5)) (Ma (30 + x) 4) (wyR M2 x e), absI_neg, h'.bl.at hb (k := 4) (by decide), h'.bl.at hx (k := 4) (by decide), h'.wn.2.1.1, Bool.and_assoc]
    rfl
  refine Bool.eq_iff_iff.mpr ?_
  unfold chP
  rw [decide_eq_true_iff, ← ccS_0, cs_pos h8 h10, Bool.and_eq_true, anB_iff]
  constructor
  · rintro ⟨x, hx, hxb, q⟩
    obtain ⟨e, he, q⟩ := anB_iff.mp q
    rw [P x hx hxb e he, Bool.and_eq_true, Bool.and_eq_true] at q
    refine ⟨q.1, e, he, ?_⟩
    unfold cfP
    rw [q.2.1, Bool.and_true]
    exact anB_iff.mpr ⟨x, hx, q.2.2⟩
  · rintro ⟨q0, e, he, q⟩
    unfold cfP at q
    rw [Bool.and_eq_true] at q
    obtain ⟨x, hx, y⟩ := anB_iff.mp q.1
    have hxb : ¬ x = b := fun z => by
      subst z
      unfold nrP at y
      rw [decide_eq_true rfl] at y
      cases y
    refine ⟨x, hx, hxb, anB_iff.mpr ⟨e, he, ?_⟩⟩
    rw [P x hx hxb e he, q0, q.2, y]
    rfl
theorem Rel.okE (h : Rel M1 M2 n ne t wt S0 S1) {w s : Int32} {Ma : Mem} (ka : KpC M1 Ma) (rs : rg 0 99 s) (l : Nat) : okN S0 M2 w n ne s l = !anB (fun e => bdP Ma (hpH M1 w) (wyH M1) n s e && hpL Ma (nI l) s e) ne := by
  have h8 := h.hn.2.2
  have h10 := h.hne.2.2
  have h' := h.keepC ka
  have e1 : ∀ e, e < ne → hpR S0 (laM M2 n s (nI l)) w n e = hpL Ma (nI l) s e := fun e he => by
    unfold hpR hpL
    rw [show stR (laM M2 n s (nI l)) w n = true from by
      unfold stR strk
      rw [la_6, la_0, if_neg (by decide), if_neg (by decide), if_neg (by decide), if_neg (by decide), if_neg (by decide)]
      rfl, la_0, la_3, la_2, la_n (i := 171 + e) (by omega), la_n (i := 100) (by omega), ← str_al (M1 := Ma) (h'.l0.eq rfl (fun _ _ => rfl) (la_n (by omega)) (fun i _ => la_n (by omega))) (h'.hl.eq (fun _ _ => rfl) (fun i _ => la_n (by omega))) rs (by rw [← h'.ear.1 e he]; exact h'.ear.2 e (by omega)), h'.ear.1 e he, h'.wn.1.1]
    rfl
  have e2 : ∀ e, e < ne → wyR (laM M2 n s (nI l)) n e = wayF s (Ma 12 e) (Ma 1 5) := fun e he => by
    unfold wyR
    rw [la_2, la_n (i := 171 + e) (by omega), la_n (i := 100) (by omega), h'.ear.1 e he, h'.wn.1.1]
  have m1 : ∀ x, x < 8 → ¬ nI x = -1 := by decide
  have P : ∀ x, x < n → ∀ e, e < ne → clP (hpN S0 M2 w n s (nI l)) (wyN M2 n s (nI l)) (M2 84 101) n (offR (laM M2 n s (nI l)) n + 0) x (offR (laM M2 n s (nI l)) x) e = (hpL Ma (nI l) s e && nrP (hpH M1 w) (wyH M1) (Ma 1 6) (fun x => Ma (30 + x) 4) e (wayF s (Ma 12 e) (Ma 1 5)) (-1) x) := fun x hx e he => by
    have hxn : ¬ x = n := by omega
    have o1 : offR (laM M2 n s (nI l)) n = 0 := la_4
    have o2 : offR (laM M2 n s (nI l)) x = Ma (30 + x) 4 := (la_n (by omega)).trans (h'.bl.at hx (k := 4) (by decide)).symm
    rw [o1, o2]
    unfold clP hpN wyN nrP
    rw [if_pos rfl, if_neg hxn, if_pos rfl, if_neg hxn, Int32.add_zero, e1 e he, e2 e he, decide_eq_false (m1 x (by omega)), ((h.ag w).1 x hx e he).1, ((h.ag w).1 x hx e he).2, show Ma (30 + x) 4 + wyR M2 x e - wayF s (Ma 12 e) (Ma 1 5) = -(0 + wayF s (Ma 12 e) (Ma 1 5) - Ma (30 + x) 4 - wyR M2 x e) from by rw [← i32_sw2, Int32.zero_add], absI_neg, h'.wn.2.1.1]
    rfl
  unfold okN
  refine Bool.eq_iff_iff.mpr ?_
  rw [decide_eq_true_iff, cc_z h8 h10, ← ccS_0, cs_pos h8 h10, Bool.not_eq_true', ← Bool.not_eq_true, anB_iff]
  refine not_congr ⟨?_, ?_⟩
  · rintro ⟨x, hx, _, q⟩
    obtain ⟨e, he, q⟩ := anB_iff.mp q
    rw [P x hx e he, Bool.and_eq_true] at q
    refine ⟨e, he, ?_⟩
    unfold bdP
    rw [q.1, Bool.and_true]
    exact anB_iff.mpr ⟨x, hx, q.2⟩
  · rintro ⟨e, he, q⟩
    unfold bdP at q
    rw [Bool.and_eq_true] at q
    obtain ⟨x, hx, y⟩ := anB_iff.mp q.1
    refine ⟨x, hx, by omega, anB_iff.mpr ⟨e, he, ?_⟩⟩
    rw [P x hx e he, q.2, y]
    rfl
theorem Rel.keepN {M2' : Mem} (h : Rel M1 M2 n ne t wt S0 S1) (k : KpN n M2 M2') : Rel M1 M2' n ne t wt S0 S1 := by
  have h8 := h.hn.2.2
  refine ⟨?_, h.2.1.keepR k.2.2.1 (k.1 86 (by decide)), fun i a b => by rw [k.1 87 (by decide)]; exact h.2.2.1 i a b, h.2.2.2.1.keepR (k.1 98 (by decide)) (k.1 99 (by decide)) (k.1 100 (by decide)), h.2.2.2.2.keepR k.2.2.2 (k.1 97 (by decide))⟩
  obtain ⟨a0, a1, a2, a3, a4, a5, a6, a7, a8⟩ := h.1
  have g1 : ∀ c j, True → M1 c j = M1 c j := fun _ _ _ => rfl
  have gv : ∀ j, True → M1 1 j = M1 1 j := fun _ _ => rfl
  have g2 : ∀ j, (j < 108 + 7 * n ∨ 108 + 7 * n + 7 ≤ j) → M2' 84 j = M2 84 j := k.2.1
  exact ⟨a0.eq (gv 2 (by decide)) (gv 4 (by decide)) (g2 _ (by omega)) (g2 _ (by omega)), a1.eq (gv 5 (by decide)) (gv 6 (by decide)) (gv 7 (by decide)) (gv 12 (by decide)) (g2 _ (by omega)) (g2 _ (by omega)) (g2 _ (by omega)) (g2 _ (by omega)), a2.eq (gv 9 (by decide)) (fun i _ => g1 13 i (by decide)) (g2 _ (by omega)) (fun i _ => g2 _ (by omega)), a3.eq (gv 14 (by decide)) (fun i _ => g1 16 i (by decide)) (g2 _ (by omega)) (fun i _ => g2 _ (by omega)), a4.eq (fun i _ => g1 10 i (by decide)) (fun i _ => g2 _ (by omega)), ⟨fun b hb k hk => by rw [g2 _ (by omega)]; exact a5.1 b hb k hk, a5.2⟩, a6.eq a0.2.2.2 (fun i _ => g1 12 i (by decide)) (fun i _ => g2 _ (by omega)), a7.eq (g1 14 _ (by decide)) (fun i _ => g1 68 i (by decide)) (g2 _ (by omega)) (fun i _ => g2 _ (by omega)), a8.eq (g1 15 _ (by decide)) (fun i _ => g1 71 i (by decide)) (g2 _ (by omega)) (fun i _ => g2 _ (by omega))⟩
end CH

set_option maxHeartbeats 4000000 in
set_option maxRecDepth 100000 in
theorem s_chance {g : GG} {d : Nat} {a w v : Int32} : Same g (d + 5) (d + 67) mX9_chance mX10_chance [some (.ref 0), some (.int a), some (.int w), some (.int v), none, none, none, none, none, none] [some (.ref 83), some (.int a), some (.int w), some (.int v), none, none, none, none] := by
  rintro M1 M2 ⟨n, ne, t, wt, S0, S1, h⟩
  have h8 := h.hn.2.2
  have h10 := h.hne.2.2
  have ok : ((0 ≤ a ∧ a < M1 1 2 ∧ a < 8) ∧ (0 ≤ w ∧ w ≤ 23) ∧ 0 ≤ v ∧ v ≤ 1) ↔ ((0 ≤ a ∧ a < nI n) ∧ (0 ≤ w ∧ w ≤ 23) ∧ 0 ≤ v ∧ v ≤ 1) := and_congr_left' (okB h.hn.1 h8)
  have ib : ∀ {b b' : Nat}, b < n → b' < n → a = nI b → a = nI b' → b' = b := fun hb hb' e e' => nI_inj2 (e'.symm.trans e) (by omega) (by omega)
  have FT : ∀ {p : Bool}, p = false → ¬ p = true := fun e z => by rw [e] at z; cases z
  have hm2 : ∀ b, b < n → 0 ≤ M2 84 (108 + 7 * b + 1) := fun b hb => by rw [← h.bl.at hb (k := 1) (by decide)]; exact (h.bl.2 b (by omega)).2.1.1
  have kd : ∀ {b b' : Nat}, b < n → b' < n → a = nI b → a = nI b' → isOfB (M1 (30 + b) 0) 3 = isOfB (M2 84 (108 + 7 * b' + 0)) 3 := fun hb hb' e e' => by
    obtain rfl := ib hb hb' e e'
    rw [h.bl.at hb (k := 0) (by decide)]
  refine c9_chance h.vb (fun b hb => (h.bl.2 b hb).1) (fun b hb => (h.bl.2 b hb).2.1) (fun hn => c10_chance h.vr hm2 (fun _ => h.er (by decide) (by decide)) (fun hp => absurd (ok.mpr hp) hn) (fun hp => absurd (ok.mpr hp) hn))
    (fun hp b hb ea hz => c10_chance h.vr hm2 (fun hn => absurd (ok.mp hp) hn) (fun _ b' hb' ea' hz' => h.er (by decide) (by decide)) (fun _ b' hb' ea' hz' => absurd ((kd hb hb' ea ea').trans hz') (FT hz)))
    (fun hp b f mm hb ea hf hmm ef em hz Ma Mb ka kb => c10_chance h.vr hm2 (fun hn => absurd (ok.mp hp) hn) (fun _ b' hb' ea' hz' => absurd hz (FT ((kd hb hb' ea ea').trans hz'))) (fun _ b' hb' ea' hz' M2' k2 => ?_))
  obtain rfl := ib hb hb' ea ea'
  have lohi : f - mm ≤ min 99 (f + mm) := by omega
  have hi99 : min 99 (f + mm) < 100 := by omega
  have c1 : cB (nrS (M2 84 (108 + 7 * b' + 2)) (M2 84 (108 + 7 * b' + 1))) 100 = min 99 (f + mm) - (f - mm) + 1 := by
    rw [← h.bl.at hb (k := 2) (by decide), ← h.bl.at hb (k := 1) (by decide), ef, em, cB_cong (q := fun s => (decide (f - mm ≤ s) && decide (s ≤ min 99 (f + mm))) && (fun _ => true) s) (fun s hs => by rw [nrS_win hf hmm hs, Bool.and_true]), cB_win lohi hi99, cB_true]
    omega
  have c2 : cB (fun s => nrS (M2 84 (108 + 7 * b' + 2)) (M2 84 (108 + 7 * b' + 1)) s && chP S0 M2 w n ne b' s) 100 = (if strk (M1 (30 + b') 0) (M1 (30 + b') 1) (M1 (30 + b') 6) w = true then (cB (fun j => anB (cfP Ma (hpH M1 w) (wyH M1) n b' (nI ((f - mm) + j))) ne) ((min 99 (f + mm)) + 1 - (f - mm))) else 0) := by
    rw [h.stE w hb, ← h.bl.at hb (k := 2) (by decide), ← h.bl.at hb (k := 1) (by decide), ef, em, cB_cong (q := fun s => (decide (f - mm ≤ s) && decide (s ≤ min 99 (f + mm))) && chP S0 M2 w n ne b' s) (fun s hs => by rw [nrS_win hf hmm hs]), cB_win lohi hi99]
    by_cases c : stR M2 w b' = true
    · rw [if_pos c]
      refine cB_cong (fun j hj => ?_)
      rw [h.chE (kc ka) hb (by omega), c, Bool.true_and]
    · rw [if_neg c]
      refine cB_zero.mpr (fun j hj => ?_)
      rw [h.chE (kc ka) hb (by omega), Bool.eq_false_iff.mpr c, Bool.false_and]
  refine ⟨_, rfl, congrArg (fun q => some (Value.int q)) ?_, ((h.keepC (kc kb)).keepR k2).e⟩
  rw [c1, c2, Nat.gcd_comm]
set_option maxHeartbeats 4000000 in
set_option maxRecDepth 100000 in
theorem s_hangs {g : GG} {d : Nat} {a w : Int32} : Same g (d + 5) (d + 67) mX9_hangs mX10_hangs [some (.ref 0), some (.int a), some (.int w), none] [some (.ref 83), some (.int a), some (.int w), none] := by
  rintro M1 M2 ⟨n, ne, t, wt, S0, S1, h⟩
  have LE : ∀ Ma, eqx scrH M1 Ma → rg 0 99 a → ldF (fun l => !anB (fun e => bdP Ma (hpH M1 w) (wyH M1) n a e && hpL Ma (nI l) a e) ne) 100 = ldF (okN S0 M2 w n ne a) 100 := fun Ma ka ra => ldF_cong (fun l _ => (h.okE (kc ka) ra l).symm)
  have kk : ∀ {Ma Mb}, eqx scrH M1 Ma → eqx [58, 69, 70] Ma Mb → KpC M1 Mb := fun ka kb => (kc ka).tr (KpC.of kb (by decide))
  refine c9_hangs h.vb (fun hn => c10_hangs h.vr (fun _ => h.er (by decide) (by decide)) (fun hp => absurd hp hn) (fun hp => absurd hp hn))
    (fun hp Ma Mb ka kb hz => c10_hangs h.vr (fun hn => absurd hp hn) (fun _ M2' k2 hz' => ((h.keepC (kk ka kb)).keepN k2).er (by decide) (by decide)) (fun _ M2' k2 hz' => absurd (LE Ma ka hp.1 ▸ hz) hz'))
    (fun hp Ma Mb ka kb hz => c10_hangs h.vr (fun hn => absurd hp hn) (fun _ M2' k2 hz' => absurd (LE Ma ka hp.1 ▸ hz') hz) (fun _ M2' k2 hz' => ⟨_, rfl, by rw [LE Ma ka hp.1], ((h.keepC (kk ka kb)).keepN k2).e⟩))
set_option maxHeartbeats 4000000 in
set_option maxRecDepth 100000 in
theorem s_place {g : GG} {d : Nat} {a w : Int32} : Same g (d + 5) (d + 67) mX9_place mX10_place [some (.ref 0), some (.int a), some (.int w), none, none, none, none] [some (.ref 83), some (.int a), some (.int w), none, none, none, none] := by
  rintro M1 M2 ⟨n, ne, t, wt, S0, S1, h⟩
  have LE : ∀ Ma, eqx scrH M1 Ma → plF (fun j => ldA Ma (hpH M1 a) (wyH M1) n ne (nI (5 * j))) 20 = plF (fun j => ldF (okN S0 M2 a n ne (nI (5 * j))) 100) 20 := fun Ma ka => plF_cong (fun j hj => ldF_cong (fun l _ => (h.okE (kc ka) ⟨nI_pos' (by omega), nI_le (b := 99) (by omega) (by omega)⟩ l).symm))
  have kk : ∀ {Ma Mb}, eqx scrH M1 Ma → eqx [58, 69, 70] Ma Mb → KpC M1 Mb := fun ka kb => (kc ka).tr (KpC.of kb (by decide))
  refine c9_place h.vb (fun hn => c10_place h.vr (fun _ => h.er (by decide) (by decide)) (fun hp => absurd hp hn) (fun hp => absurd hp hn))
    (fun hp Ma Mb ka kb hz => c10_place h.vr (fun hn => absurd hp hn) (fun _ M2' k2 hz' => ((h.keepC (kk ka kb)).keepN k2).er (by decide) (by decide)) (fun _ M2' k2 hz' => ?_))
    (fun hp Ma Mb ka kb hz => c10_place h.vr (fun hn => absurd hp hn) (fun _ M2' k2 hz' => ?_) (fun _ M2' k2 hz' => ?_))
  · rw [LE Ma ka] at hz
    exact absurd hz hz'
  · rw [LE Ma ka] at hz
    exact absurd hz' hz
  · rw [LE Ma ka]
    exact ⟨_, rfl, rfl, ((h.keepC (kk ka kb)).keepN k2).e⟩

