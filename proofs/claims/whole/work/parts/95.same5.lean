/-! ===== alike: images, voices, feed ===== -/
theorem VRel.mv {M M' : Mem} {v hl er tp wt l0 s0 l1 s1 bl v' hl' er' tp' wt' l0' s0' l1' s1' bl' n ne t w : Nat} {f f' : Nat → Int32} {S0 S1 : List Int32} (h : VRel M v hl er tp wt l0 s0 l1 s1 bl f n ne t w S0 S1) (hv : ∀ j, j ∈ [2, 4, 5, 6, 7, 9, 12, 14] → M' v' j = M v j) (h1 : ∀ x, x < 101 → M' hl' x = M hl x) (h2 : ∀ x, x < 10 → M' er' x = M er x) (h3 : ∀ x, x < 50 → M' tp' x = M tp x) (h4 : ∀ x, x < 20 → M' wt' x = M wt x) (h5 : M' l0' 1 = M l0 1) (h6 : ∀ x, x < 50 → M' s0' x = M s0 x) (h7 : M' l1' 1 = M l1 1) (h8 : ∀ x, x < 50 → M' s1' x = M s1 x) (h9 : ∀ x, x < 8 → ∀ j, j < 7 → M' (bl' + x) j = M (bl + x) j) (hf : ∀ j, j < 360 → f' j = f j) : VRel M' v' hl' er' tp' wt' l0' s0' l1' s1' bl' f' n ne t w S0 S1 := by
  obtain ⟨a, b, c, d, e, i, j, k, l⟩ := h
  refine ⟨a.eq (hv 2 (by decide)) (hv 4 (by decide)) (hf _ (by decide)) (hf _ (by decide)), b.eq (hv 5 (by decide)) (hv 6 (by decide)) (hv 7 (by decide)) (hv 12 (by decide)) (hf _ (by decide)) (hf _ (by decide)) (hf _ (by decide)) (hf _ (by decide)), c.eq (hv 9 (by decide)) h3 (hf _ (by decide)) (fun _ _ => hf _ (by omega)), d.eq (hv 14 (by decide)) h4 (hf _ (by decide)) (fun _ _ => hf _ (by omega)), e.eq (fun i hi => h1 i (by omega)) (fun _ _ => hf _ (by omega)), i.eq a.1.2.2 h9 (fun _ _ _ _ => hf _ (by omega)), j.eq a.2.2.2 h2 (fun _ _ => hf _ (by omega)), k.eq h5 h6 (hf _ (by decide)) (fun _ _ => hf _ (by omega)), l.eq h7 h8 (hf _ (by decide)) (fun _ _ => hf _ (by omega))⟩

set_option maxHeartbeats 4000000 in
set_option maxRecDepth 100000 in
theorem s_image {g : GG} {d : Nat} : Same g (d + 3) (d + 1) mX9_image mX10_image [some (.ref 0)] [some (.ref 83)] := by
  rintro M1 M2 ⟨n, ne, t, wt, S0, S1, h⟩
  refine c9_image (fun M1' k1 => c10_image ?_)
  have kC : ∀ c, c ∉ [2, 18, 20, 21, 22, 23, 24, 74, 77, 38, 39, 40, 41, 42, 43, 44, 45] → M1' c = M1 c := k1.1
  have e0 : M1' 0 9 = M2 83 3 := by rw [kC 0 (by decide)]; exact h.2.1.1
  have g1 : ∀ c, c ≠ 0 → put M1' 0 9 (M1' 0 9 + 1) c = M1' c := fun c hc => put_cell hc
  have g2 : ∀ c, c ≠ 83 → c ≠ 86 → put (cpM M2 84 86 360) 83 3 (M2 83 3 + 1) c = M2 c := fun c h1 h2 => by rw [put_cell h1]; unfold cpM; rw [um_n h2]
  refine ⟨M2 83 3 + 1, by rw [e0], rfl, n, ne, t, wt, S0, S1, ?_, ⟨by rw [put_s, put_s, e0], fun _ => ⟨n, ne, t, wt, S0, S1, ?_⟩⟩, ?_, ?_, ?_⟩
  · unfold RVl
    rw [g2 84 (by decide) (by decide)]
    exact VRel.eqM h.1 ((g1 1 (by decide)).trans (kC 1 (by decide))) ((g1 10 (by decide)).trans (kC 10 (by decide))) ((g1 12 (by decide)).trans (kC 12 (by decide))) ((g1 13 (by decide)).trans (kC 13 (by decide))) ((g1 16 (by decide)).trans (kC 16 (by decide))) ((g1 14 (by decide)).trans (kC 14 (by decide))) ((g1 68 (by decide)).trans (kC 68 (by decide))) ((g1 15 (by decide)).trans (kC 15 (by decide))) ((g1 71 (by decide)).trans (kC 71 (by decide))) (fun b hb => (g1 _ (by omega)).trans (kC _ (by simp; omega)))
  · obtain ⟨_, z1, z2, z3, z4, z5, z6, z7, z8, z9, z10⟩ := k1
    refine VRel.mv h.1 (fun j hj => by rw [g1 2 (by decide)]; exact z1 j hj) (fun x hx => by rw [g1 18 (by decide)]; exact z2 x hx) (fun x hx => by rw [g1 20 (by decide)]; exact z3 x hx) (fun x hx => by rw [g1 21 (by decide)]; exact z4 x hx) (fun x hx => by rw [g1 24 (by decide)]; exact z5 x hx) (by rw [g1 22 (by decide)]; exact z6) (fun x hx => by rw [g1 74 (by decide)]; exact z7 x hx) (by rw [g1 23 (by decide)]; exact z8) (fun x hx => by rw [g1 77 (by decide)]; exact z9 x hx) (fun x hx j hj => by rw [g1 _ (by omega)]; exact z10 x hx j hj) (fun j hj => ?_)
    rw [put_cell (by decide)]
    unfold cpM
    rw [um_s, if_pos hj]
  · intro i hi1 hi5
    rw [g1 9 (by decide), g2 87 (by decide) (by decide), kC 9 (by decide)]
    exact h.2.2.1 i hi1 hi5
  · exact (h.2.2.2.1.keepC (M1' := put M1' 0 9 (M1' 0 9 + 1)) ((g1 62 (by decide)).trans (kC 62 (by decide))) ((g1 63 (by decide)).trans (kC 63 (by decide))) (fun s hs => (g1 _ (by omega)).trans (kC _ (by simp; omega)))).keepR (g2 98 (by decide) (by decide)) (g2 99 (by decide) (by decide)) (g2 100 (by decide) (by decide))
  · exact (h.2.2.2.2.keepC (M1' := put M1' 0 9 (M1' 0 9 + 1)) (by rw [g1 7 (by decide), kC 7 (by decide)]) ((g1 60 (by decide)).trans (kC 60 (by decide)))).keepR (by rw [put_n (fun z => absurd z.2 (by decide))]; unfold cpM; rw [um_n (by decide)]) (g2 97 (by decide) (by decide))
set_option maxHeartbeats 4000000 in
set_option maxRecDepth 100000 in
theorem s_restore {g : GG} {d : Nat} : Same g (d + 3) (d + 1) mX9_restore mX10_restore [some (.ref 0)] [some (.ref 83)] := by
  rintro M1 M2 ⟨n, ne, t, wt, S0, S1, h⟩
  refine c9_restore (fun hz => c10_restore (fun _ => h.er (by decide) (by decide)) (fun hn => absurd (h.2.1.1.symm.trans hz) hn)) (fun hz M1' k1 => c10_restore (fun hn => absurd (h.2.1.1.trans hn) hz) (fun hn => ?_))
  obtain ⟨n2, ne2, t2, w2, T0, T1, hV⟩ := h.2.1.2 hn
  have kC : ∀ c, c ∉ [1, 10, 12, 13, 14, 15, 16, 68, 71, 30, 31, 32, 33, 34, 35, 36, 37] → M1' c = M1 c := k1.1
  obtain ⟨_, z1, z2, z3, z4, z5, z6, z7, z8, z9, z10⟩ := k1
  have e84 : ∀ j, j < 360 → cpM M2 86 84 360 84 j = M2 86 j := fun j hj => by unfold cpM; rw [um_s, if_pos hj]
  refine ⟨nI n2, ?_, ?_, (h.cur (M1' := M1') (M2' := cpM M2 86 84 360) (n' := n2) (ne' := ne2) (t' := t2) (w' := w2) (S0' := T0) (S1' := T1) (k1_of kC (by decide)) (fun c hc => by unfold cpM; rw [um_n hc]) ?_).e⟩
  · rw [z1 2 (by decide), hV.1.1.1]
  · rw [e84 103 (by decide), hV.1.1.2.1]
  · exact VRel.mv hV z1 z2 z3 z4 z5 z6 z7 z8 z9 z10 e84
theorem kind_ex {x : Int32} (h : rg 0 6 x) : ∃ k, k < 7 ∧ x = nI k := nI_ex (n := 7) (by omega) h.1 (Int32.lt_of_le_of_lt h.2 (by decide))
theorem lt4w {w : Int32} : w < 4 ↔ w ≤ 3 := by
  rw [Int32.lt_iff_toInt_lt, Int32.le_iff_toInt_le, show (4 : Int32).toInt = 4 from by decide, show (3 : Int32).toInt = 3 from by decide]
  omega
theorem wr_71 : ∀ (l : List Nat) (M : Mem) (t : Nat), M 7 1 = nI t → wr M t l 7 1 = nI (t + l.length)
  | [], _, _, h => h
  | b :: l, M, t, h => by
    show wr _ (t + 1) l 7 1 = _
    rw [wr_71 l _ _ put_s, List.length_cons, Nat.add_assoc t 1, Nat.add_comm 1]
theorem wr_tr : ∀ (l : List Nat) (M1 M2 : Mem) (t : Nat), (∀ i, i < t → M1 60 i = M2 97 i) → ∀ i, i < t + l.length → wr M1 t l 60 i = wrR M2 t l 97 i
  | [], _, _, _, h, i, hi => h i hi
  | b :: l, M1, M2, t, h, i, hi => by
    show wr _ (t + 1) l 60 i = wrR _ (t + 1) l 97 i
    refine wr_tr l _ _ (t + 1) (fun j hj => ?_) i (by rw [List.length_cons] at hi; omega)
    rw [put_cell (c := 60) (by decide), put_cell (c := 97) (by decide)]
    by_cases e : j = t
    · subst e; rw [put_s, put_s]
    · rw [put_n (fun z => e z.2), put_n (fun z => e z.2)]
      exact h j (by omega)

set_option maxHeartbeats 4000000 in
set_option maxRecDepth 100000 in
theorem s_voice {g : GG} {d : Nat} {a v x : Int32} : Same g (d + 27) (d + 60) mX9_voice mX10_voice [some (.ref 0), some (.int a), some (.int v), some (.int x)] [some (.ref 83), some (.int a), some (.int v), some (.int x), none] := by
  rintro M1 M2 ⟨n, ne, t, wt, S0, S1, h⟩
  have h8 := h.hn.2.2
  have ok : ((0 ≤ a ∧ a < M1 1 2 ∧ a < 8) ∧ 0 ≤ v ∧ v < 4) ↔ ((0 ≤ a ∧ a < nI n) ∧ 0 ≤ v ∧ v ≤ 3) := and_congr (okB h.hn.1 h8) (and_congr_right fun _ => lt4w)
  have hK : ∀ b, b < n → ∃ k, k < 7 ∧ M2 84 (108 + 7 * b + 0) = nI k := fun b hb => by rw [← h.bl.at hb (k := 0) (by decide)]; exact kind_ex (h.bl.2 b (by omega)).1
  refine c9_voice (fun hn => c10_voice h.hn.2.1 h8 hK (fun _ => h.er (by decide) (by decide)) (fun hp => absurd (ok.mpr hp) hn)) (fun b hb => kind_ex (h.bl.2 b hb).1) (fun hp b e k hb he hk ha hv hkk => c10_voice h.hn.2.1 h8 hK (fun hn => absurd (ok.mp hp) hn) (fun _ b' k' e' hb' hk' he' ha' hv' hkk' => ?_))
  obtain rfl : b' = b := nI_inj2 (ha'.symm.trans ha) (by omega) (by omega)
  obtain rfl : e' = e := nI_inj2 (hv'.symm.trans hv) (by omega) (by omega)
  obtain rfl : k' = k := by
    rw [← h.bl.at hb' (k := 0) (by decide)] at hkk'
    exact nI_inj2 (hkk'.symm.trans hkk) (by omega) (by omega)
  have hlen := (vok_12 k' hk' e' he').2
  refine ⟨_, rfl, by rw [← h.bl.at hb' (k := 1) (by decide)], n, ne, t, wt, S0, S1, ?_⟩
  have g1 : ∀ c, c ≠ 7 → c ≠ 60 → wr (put (put (put (put M1 7 1 0) 7 2 (nI k')) 7 3 (nI b')) 7 4 (M1 (30 + b') 1)) 0 (vL k' 12 (bdN k' e')) c = M1 c := fun c h7 h60 => by rw [wr_c h7 h60, put_cell h7, put_cell h7, put_cell h7, put_cell h7]
  have g2 : ∀ c, c ≠ 83 → c ≠ 97 → wrR (put (put M2 83 22 0) 83 23 (nI b')) 0 (vL k' 12 (bdN k' e')) c = M2 c := fun c h7 h60 => by rw [wrR_c h7 h60, put_cell h7, put_cell h7]
  refine ⟨?_, ?_, ?_, ?_, ?_⟩
  · unfold RVl
    rw [g2 84 (by decide) (by decide)]
    exact VRel.eqM h.1 (g1 1 (by decide) (by decide)) (g1 10 (by decide) (by decide)) (g1 12 (by decide) (by decide)) (g1 13 (by decide) (by decide)) (g1 16 (by decide) (by decide)) (g1 14 (by decide) (by decide)) (g1 68 (by decide) (by decide)) (g1 15 (by decide) (by decide)) (g1 71 (by decide) (by decide)) (fun b hb => g1 _ (by omega) (by omega))
  · refine (h.2.1.keepR ?_ (g2 86 (by decide) (by decide))).keepC (by rw [g1 0 (by decide) (by decide)]) (fun c hc _ _ _ => ?_)
    · rw [wrR_83 (by decide), put_n (fun z => absurd z.2 (by decide)), put_n (fun z => absurd z.2 (by decide))]
    · by_cases e7 : c = 7
      · exact Or.inr (Or.inl (by omega))
      · by_cases e60 : c = 60
        · exact Or.inr (Or.inr (Or.inr (Or.inl e60)))
        · exact Or.inl (g1 c e7 e60)
  · intro i hi1 hi5
    rw [g1 9 (by decide) (by decide), g2 87 (by decide) (by decide)]
    exact h.2.2.1 i hi1 hi5
  · exact (h.2.2.2.1.keepC (g1 62 (by decide) (by decide)) (g1 63 (by decide) (by decide)) (fun s hs => g1 _ (by omega) (by omega))).keepR (g2 98 (by decide) (by decide)) (g2 99 (by decide) (by decide)) (g2 100 (by decide) (by decide))
  · refine ⟨(vL k' 12 (bdN k' e')).length, hlen, ?_, ?_, fun i hi => ?_⟩
    · rw [wr_71 _ _ 0 (by rw [put_n (fun z => absurd z.2 (by decide)), put_n (fun z => absurd z.2 (by decide)), put_n (fun z => absurd z.2 (by decide)), put_s]; rfl), Nat.zero_add]
    · rw [wrR_b _ _ 0 (by rw [put_n (fun z => absurd z.2 (by decide)), put_s]; rfl), Nat.zero_add]
    · exact wr_tr _ _ _ 0 (fun j hj => absurd hj (Nat.not_lt_zero _)) i (by omega)

