/-! ===== alike: what is heard ===== -/
theorem map_range {S : List Int32} {g : Nat → Int32} (h : ∀ i, i < S.length → g i = S.getD i 0) : (List.range S.length).map g = S := by
  refine List.ext_getElem (by simp) (fun i h1 h2 => ?_)
  rw [List.getElem_map, List.getElem_range, h i h2, List.getD_eq_getElem?_getD, List.getElem?_eq_getElem h2]
  rfl
theorem RLw.c {M : Mem} {f : Nat → Int32} {S : List Int32} (h : RLw M 14 68 f 0 S) (a b c d e : Int32) : lawC M a b c d e = vrun S a b c d e := by
  unfold lawC vrun
  rw [h.2.1, nI_clamp (by have := h.2.2.1; omega), map_range h.2.2.2]
theorem RLw.g {M : Mem} {f : Nat → Int32} {S : List Int32} (h : RLw M 15 71 f 1 S) (a b c d e : Int32) : lawG M a b c d e = vrun S a b c d e := by
  unfold lawG vrun
  rw [h.2.1, nI_clamp (by have := h.2.2.1; omega), map_range h.2.2.2]
theorem RLw.sz {M : Mem} {l s us : Nat} {f : Nat → Int32} {S : List Int32} (h : RLw M l s f us S) : sz50 (M l 1) := ⟨S.length, h.2.2.1, h.2.1⟩
theorem hidS_ext {g g' : Nat → Int32} {f t : Int32} (h : ∀ i, i ≤ 100 → g i = g' i) (hf : rg 0 99 f) (ht : rg 0 99 t) : hidS g f t = hidS g' f t := by
  obtain ⟨x, hx, rfl⟩ := rg_99 hf
  obtain ⟨y, hy, rfl⟩ := rg_99 ht
  unfold hidS hidF
  rw [nI_clamp (by omega), nI_clamp (by omega)]
  by_cases c : x < y
  · rw [if_pos c, if_pos c]
    by_cases c2 : x + 1 < y
    · rw [if_pos c2, if_pos c2, h y (by omega), h (x + 1) (by omega)]
    · rw [if_neg c2, if_neg c2]
  · rw [if_neg c, if_neg c]
    by_cases c2 : y + 1 < x
    · rw [if_pos c2, if_pos c2, h x (by omega), h (y + 1) (by omega)]
    · rw [if_neg c2, if_neg c2]
/-- strength is alike -/
theorem str_al {M1 M2 : Mem} {S : List Int32} {k l f t w : Int32} (hL : RLw M1 14 68 (M2 84) 0 S) (hH : RHl M1 10 (M2 84)) (hf : rg 0 99 f) (ht : rg 0 99 t) : strS M1 k l f t w = strT S (hbR M2) k l f t w := by
  unfold strS strT
  rw [hL.c, hidS_ext (fun i hi => hH i hi) hf ht]
  rfl
section RB
variable {M1 M2 : Mem} {n ne t w : Nat} {S0 S1 : List Int32}
theorem Rel.vb (h : Rel M1 M2 n ne t w S0 S1) : VB M1 n ne := ⟨h.hn.1, h.hn.2.2, h.hne.1, h.hne.2.2, h.l0.sz, fun b hb => (h.bl.2 b hb).2.2.1, h.ear.2⟩
theorem Rel.vr (h : Rel M1 M2 n ne t w S0 S1) : VR S0 M2 n ne := by
  have h8 := h.hn.2.2
  have h10 := h.hne.2.2
  refine ⟨h.hn.2.1, h8, h.hne.2.1, h10, h.wn.1.2, h.l0.1, fun b hb => ⟨?_, ?_⟩, fun e he => ?_⟩
  · rw [← h.bl.at hb (k := 2) (by decide)]; exact (h.bl.2 b (by omega)).2.2.1
  · rw [← h.bl.at hb (k := 6) (by decide)]; exact (h.bl.2 b (by omega)).2.2.2.2.2.2
  · rw [← h.ear.1 e he]; exact h.ear.2 e (by omega)
/-- two hearings agree -/
def AG (hp : Nat → Nat → Bool) (wy : Nat → Nat → Int32) (off : Nat → Int32) (hp' : Nat → Nat → Bool) (wy' : Nat → Nat → Int32) (off' : Nat → Int32) (n ne : Nat) : Prop := (∀ b, b < n → ∀ e, e < ne → hp b e = hp' b e ∧ wy b e = wy' b e) ∧ ∀ b, b < n → off b = off' b
theorem hp_al {hour x : Int32} {b e : Nat} {M2' : Mem} (h : Rel M1 M2 n ne t w S0 S1) (hb : b < n) (he : e < ne) (hx : M2' 84 100 = x) (ho : ∀ j, j ≠ 100 → j ≠ 107 → M2' 84 j = M2 84 j) : hpF M1 (fun b => strk (M1 (30 + b) 0) (M1 (30 + b) 1) (M1 (30 + b) 6) hour) x b e = hpR S0 M2' hour b e := by
  have h8 := h.hn.2.2
  have h10 := h.hne.2.2
  have hbl : ∀ k, k < 7 → M1 (30 + b) k = M2' 84 (108 + 7 * b + k) := fun k hk => by rw [ho _ (by omega) (by omega)]; exact h.bl.at hb hk
  have hea : M1 12 e = M2' 84 (171 + e) := by rw [ho _ (by omega) (by omega)]; exact h.ear.1 e he
  unfold hpF hpR stR
  show (strk (M1 (30 + b) 0) (M1 (30 + b) 1) (M1 (30 + b) 6) hour && decide (0 < strS M1 (M1 (30 + b) 0) (M1 (30 + b) 3) (M1 (30 + b) 2) (M1 12 e) x)) = _
  rw [str_al (M2 := M2') (h.l0.eq rfl (fun _ _ => rfl) (ho _ (by decide) (by decide)) (fun i _ => ho _ (by omega) (by omega))) (h.hl.eq (fun _ _ => rfl) (fun i _ => ho _ (by omega) (by omega))) (h.bl.2 b (by omega)).2.2.1 (h.ear.2 e (by omega)), hbl 0 (by decide), hbl 1 (by decide), hbl 6 (by decide), hbl 3 (by decide), hbl 2 (by decide), hea, hx]
theorem wy_al {x : Int32} {b e : Nat} {M2' : Mem} (h : Rel M1 M2 n ne t w S0 S1) (hb : b < n) (he : e < ne) (hx : M2' 84 100 = x) (ho : ∀ j, j ≠ 100 → j ≠ 107 → M2' 84 j = M2 84 j) : wyF M1 x b e = wyR M2' b e := by
  have h8 := h.hn.2.2
  have h10 := h.hne.2.2
  unfold wyF wyR
  rw [hx, ho _ (by omega) (by omega), ho _ (by omega) (by omega), ← h.ear.1 e he, ← h.bl.at hb (k := 2) (by decide)]
theorem Rel.ag (h : Rel M1 M2 n ne t w S0 S1) (hour : Int32) : AG (hpH M1 hour) (wyH M1) (fun b => M1 (30 + b) 4) (hpR S0 M2 hour) (wyR M2) (offR M2) n ne :=
  ⟨fun b hb e he => ⟨hp_al h hb he h.wn.1.1.symm (fun _ _ _ => rfl), wy_al h hb he h.wn.1.1.symm (fun _ _ _ => rfl)⟩, fun b hb => h.bl.at hb (by decide)⟩
end RB
section RD
variable {hp hp' : Nat → Nat → Bool} {wy wy' : Nat → Nat → Int32} {off off' : Nat → Int32} {n ne : Nat} {br : Int32}
theorem AG.cl (h : AG hp wy off hp' wy' off' n ne) {a b e : Nat} (ha : a < n) (hb : b < n) (he : e < ne) : cl2 hp wy br off a b e = cl2 hp' wy' br off' a b e := by
  unfold cl2 clP
  rw [(h.1 a ha e he).1, (h.1 a ha e he).2, (h.1 b hb e he).1, (h.1 b hb e he).2, h.2 a ha, h.2 b hb]
theorem AG.cc (h : AG hp wy off hp' wy' off' n ne) {a : Nat} (ha : a < n) : ccF hp wy br off n ne a = ccF hp' wy' br off' n ne a := by
  unfold ccF
  refine sI_ext n (fun b hb => ?_)
  by_cases c : b = a
  · rw [if_pos c, if_pos c]
  · rw [if_neg c, if_neg c, cB_cong (fun e he => h.cl ha hb he)]
theorem fst_ext {p p' : Nat → Bool} : ∀ n, (∀ i, i < n → p i = p' i) → fst p n = fst p' n
  | 0, _ => rfl
  | n + 1, h => by rw [fst, fst, fst_ext n (fun i hi => h i (by omega)), h n (by omega)]
theorem fcR_ext {cl cl' : Nat → Nat → Nat → Bool} {a : Nat} (h : ∀ b, b < n → ∀ e, e < ne → cl a b e = cl' a b e) : ∀ k b, b + k ≤ n → fcR cl ne a k b = fcR cl' ne a k b
  | 0, _, _ => rfl
  | k + 1, b, hb => by rw [fcR, fcR, fst_ext ne (fun e he => h b (by omega) e he), fcR_ext h k (b + 1) (by omega)]
theorem fcA_ext {cl cl' : Nat → Nat → Nat → Bool} (h : ∀ a, a < n → ∀ b, b < n → ∀ e, e < ne → cl a b e = cl' a b e) : ∀ k a, a + k ≤ n → fcA cl n ne k a = fcA cl' n ne k a
  | 0, _, _ => rfl
  | k + 1, a, ha => by rw [fcA, fcA, fcR_ext (n := n) (h a (by omega)) _ _ (by omega), fcA_ext h k (a + 1) (by omega)]
theorem AG.fc (h : AG hp wy off hp' wy' off' n ne) : fcF (cl2 hp wy br off) n ne = fcF (cl2 hp' wy' br off') n ne := fcA_ext (fun a ha b hb e he => h.cl ha hb he) n 0 (by omega)
theorem nB_ext {p p' : Nat → Bool} : ∀ n, (∀ i, i < n → p i = p' i) → nB p n = nB p' n
  | 0, _ => rfl
  | n + 1, h => by rw [nB, nB, nB_ext n (fun i hi => h i (by omega)), h n (by omega)]
theorem bI_ext {p p' : Nat → Bool} {n : Nat} (h : ∀ i, i < n → p i = p' i) : bI p n = bI p' n := by unfold bI; rw [nB_ext n h]
end RD
theorem kc {M M' : Mem} (h : eqx scrH M M') : KpC M M' := KpC.of h (by decide)
theorem kc1 {M M' : Mem} (h : eqx [69, 70] M M') : KpC M M' := KpC.of h (by decide)
theorem kc2 {M M' : Mem} (h : eqx [72, 73] M M') : KpC M M' := KpC.of h (by decide)
theorem KpC.c {M M' : Mem} (k : KpC M M') (c : Nat) (h : c ∈ pcL := by decide) : M' c = M c := k c h
theorem KpH.xx {M M' : Mem} (h : KpH M M') : KpX M M' := ⟨fun c hc => h.1 c (by omega) (by omega) (by omega) (by omega), h.2 3 (by omega), h.2 22 (by omega)⟩

set_option maxHeartbeats 4000000 in
set_option maxRecDepth 100000 in
theorem s_law {g : GG} {d : Nat} {u a b c e : Int32} : Same g (d + 3) (d + 62) mX9_law mX10_law [some (.ref 0), some (.int u), some (.int a), some (.int b), some (.int c), some (.int e)] [some (.ref 83), some (.int u), some (.int a), some (.int b), some (.int c), some (.int e)] := by
  rintro M1 M2 ⟨n, ne, t, wt, S0, S1, h⟩
  refine c9_law h.l0.sz h.l1.sz (fun hn => c10_law h.l0.1 h.l1.1 (fun _ => h.er (by decide) (by decide)) (fun hu => absurd (by subst hu; decide) hn) (fun hu => absurd (by subst hu; decide) hn)) (fun hp hu M1' k1 => c10_law h.l0.1 h.l1.1 (fun hn => absurd hp hn) (fun _ M2' k2 => ?_) (fun hu1 => absurd (hu.symm.trans hu1) (by decide))) (fun hp hu M1' k1 => c10_law h.l0.1 h.l1.1 (fun hn => absurd hp hn) (fun hu0 => absurd hu0 hu) (fun _ M2' k2 => ?_))
  · exact ⟨_, rfl, by rw [h.l0.c], ((h.keepC (kc1 k1)).keepR k2.x).e⟩
  · exact ⟨_, rfl, by rw [h.l1.g], ((h.keepC (kc2 k1)).keepR k2.x).e⟩
set_option maxHeartbeats 4000000 in
set_option maxRecDepth 100000 in
theorem s_heard {g : GG} {d : Nat} {a v : Int32} : Same g (d + 5) (d + 64) mX9_heard mX10_heard [some (.ref 0), some (.int a), some (.int v)] [some (.ref 83), some (.int a), some (.int v), none, none] := by
  rintro M1 M2 ⟨n, ne, t, wt, S0, S1, h⟩
  have h10 := h.hne.2.2
  have ok : ((0 ≤ a ∧ a < M1 1 4 ∧ a < 10) ∧ 0 ≤ v ∧ v ≤ 23) ↔ ((0 ≤ a ∧ a < nI ne) ∧ 0 ≤ v ∧ v ≤ 23) := and_congr_left' (okE h.hne.1 h10)
  refine c9_heard h.vb (fun hn => c10_heard h.vr (fun _ => h.er (by decide) (by decide)) (fun hp => absurd (ok.mpr hp) hn)) (fun hp e he ha M1' k1 => c10_heard h.vr (fun hn => absurd (ok.mp hp) hn) (fun _ e' he' ha' M2' k2 => ?_))
  obtain rfl : e' = e := nI_inj2 (ha'.symm.trans ha) (by omega) (by omega)
  exact ⟨_, rfl, congrArg (fun q => some (Value.int q)) (bI_ext (fun b hb => ((h.ag v).1 b hb e' he').1)).symm, ((h.keepC (kc k1)).keepR k2.x).e⟩
set_option maxHeartbeats 4000000 in
set_option maxRecDepth 100000 in
theorem s_clashes {g : GG} {d : Nat} {a v : Int32} : Same g (d + 5) (d + 67) mX9_clashes mX10_clashes [some (.ref 0), some (.int a), some (.int v)] [some (.ref 83), some (.int a), some (.int v), none] := by
  rintro M1 M2 ⟨n, ne, t, wt, S0, S1, h⟩
  refine c9_clashes h.vb (fun hn => c10_clashes h.vr (fun _ => h.er (by decide) (by decide)) (fun hp => absurd hp hn)) (fun hp M1' k1 => c10_clashes h.vr (fun hn => absurd hp hn) (fun _ M2' k2 => ?_))
  have e1 : M1' 1 6 = M2 84 101 := by rw [(kc k1).c 1]; exact h.wn.2.1.1
  have ag : AG (hpH M1 a) (wyH M1) (fun b => M1' (30 + b) 4) (hpR S0 M2 a) (wyR M2) (offR M2) n ne := ⟨(h.ag a).1, fun b hb => by show M1' (30 + b) 4 = _; rw [(kc k1).c (30 + b) (pc_b (by have := h.hn.2.2; omega)).1]; exact (h.ag a).2 b hb⟩
  refine ⟨_, rfl, congrArg (fun q => some (Value.int q)) ?_, ((h.keepC (kc k1)).keepR k2.xx).e⟩
  rw [e1, ag.fc, sI_ext n (fun a' ha' => ag.cc ha')]
  rfl
set_option maxHeartbeats 4000000 in
set_option maxRecDepth 100000 in
theorem s_clash {g : GG} {d : Nat} {a v : Int32} : Same g (d + 5) (d + 67) mX9_clash mX10_clash [some (.ref 0), some (.int a), some (.int v)] [some (.ref 83), some (.int a), some (.int v)] := by
  rintro M1 M2 ⟨n, ne, t, wt, S0, S1, h⟩
  have h8 := h.hn.2.2
  have ok : ((0 ≤ a ∧ a < M1 1 2 ∧ a < 8) ∧ 0 ≤ v ∧ v ≤ 23) ↔ ((0 ≤ a ∧ a < nI n) ∧ 0 ≤ v ∧ v ≤ 23) := and_congr_left' (okB h.hn.1 h8)
  refine c9_clash h.vb (fun hn => c10_clash h.vr (fun _ => h.er (by decide) (by decide)) (fun hp => absurd (ok.mpr hp) hn)) (fun hp b hb ha M1' k1 => c10_clash h.vr (fun hn => absurd (ok.mp hp) hn) (fun _ b' hb' ha' M2' k2 => ?_))
  obtain rfl : b' = b := nI_inj2 (ha'.symm.trans ha) (by omega) (by omega)
  have e1 : M1' 1 6 = M2 84 101 := by rw [(kc k1).c 1]; exact h.wn.2.1.1
  have ag : AG (hpH M1 v) (wyH M1) (fun b => M1' (30 + b) 4) (hpR S0 M2 v) (wyR M2) (offR M2) n ne := ⟨(h.ag v).1, fun b hb => by show M1' (30 + b) 4 = _; rw [(kc k1).c (30 + b) (pc_b (by omega)).1]; exact (h.ag v).2 b hb⟩
  refine ⟨_, rfl, congrArg (fun q => some (Value.int q)) ?_, ((h.keepC (kc k1)).keepR k2.xx).e⟩
  rw [e1, ag.cc hb']

