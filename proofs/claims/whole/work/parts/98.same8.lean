/-! ===== alike: text, sheet, put, move ===== -/
theorem Rel.tape0 {M1 M2 : Mem} {n ne t wt : Nat} {S0 S1 : List Int32} (h : Rel M1 M2 n ne t wt S0 S1) : Rel (put M1 1 9 0) (put M2 84 106 0) n ne 0 wt S0 S1 := by
  refine h.cur (fun c hc hq => put_cell (by omega)) (fun c hc => put_cell hc) ?_
  obtain ⟨a0, a1, a2, a3, a4, a5, a6, a7, a8⟩ := h.1
  have g1 : ∀ c j, c ≠ 1 → put M1 1 9 0 c j = M1 c j := fun c j hc => by rw [put_cell hc]
  have gv : ∀ j, j ≠ 9 → put M1 1 9 0 1 j = M1 1 j := fun j hj => put_n (fun z => hj z.2)
  have g2 : ∀ j, j ≠ 106 → put M2 84 106 0 84 j = M2 84 j := fun j hj => put_n (fun z => hj z.2)
  exact ⟨a0.eq (gv 2 (by decide)) (gv 4 (by decide)) (g2 _ (by omega)) (g2 _ (by omega)), a1.eq (gv 5 (by decide)) (gv 6 (by decide)) (gv 7 (by decide)) (gv 12 (by decide)) (g2 _ (by omega)) (g2 _ (by omega)) (g2 _ (by omega)) (g2 _ (by omega)), ⟨put_s, put_s, by omega, fun i hi => absurd hi (Nat.not_lt_zero _)⟩, a3.eq (gv 14 (by decide)) (fun i _ => g1 16 i (by decide)) (g2 _ (by omega)) (fun i _ => g2 _ (by omega)), a4.eq (fun i _ => g1 10 i (by decide)) (fun i _ => g2 _ (by omega)), a5.eq a0.1.2.2 (fun b hb k _ => g1 _ k (by omega)) (fun b _ k _ => g2 _ (by omega)), a6.eq a0.2.2.2 (fun i _ => g1 12 i (by decide)) (fun i _ => g2 _ (by omega)), a7.eq (g1 14 _ (by decide)) (fun i _ => g1 68 i (by decide)) (g2 _ (by omega)) (fun i _ => g2 _ (by omega)), a8.eq (g1 15 _ (by decide)) (fun i _ => g1 71 i (by decide)) (g2 _ (by omega)) (fun i _ => g2 _ (by omega))⟩

set_option maxHeartbeats 4000000 in
set_option maxRecDepth 100000 in
theorem s_text {g : GG} {d : Nat} {a : Int32} : Same g (d + 62) (d + 61) mX9_text mX10_text [some (.ref 0), some (.int a), none] [some (.ref 83), some (.int a), none, none, none] := by
  rintro M1 M2 ⟨n, ne, t, wt, S0, S1, h⟩
  have h50 := h.tp.2.2.1
  have hnx : nx (M1 13) t = nx (fun i => M2 84 (303 + i)) t := nx_ext (fun i hi => (h.tp.2.2.2 i hi).1)
  have inj : ∀ {s s' : Nat}, s < 2 → s' < 2 → a = nI s → a = nI s' → s' = s := fun h1 h2 e1 e2 => nI_inj2 (e2.symm.trans e1) (by omega) (by omega)
  have rgN : ∀ s, s < 2 → a = nI s → (0 ≤ a ∧ a ≤ 1) := fun s h1 e => by subst e; exact ⟨nI_pos' (by omega), nI_le (b := 1) (by omega) (by omega)⟩
  have h0 := h.tape0
  refine c9_text h.tp.1 h50 (fun i hi => (h.tp.2.2.2 i hi).2) (fun hn => c10_text h.tp.2.1 h50 (fun _ => h.er (by decide) (by decide)) (fun us hu e => absurd (rgN us hu e) hn) (fun us hu e => absurd (rgN us hu e) hn)) (fun us hu e M1' k1 o1 b hr hb hk1 kc0 => c10_text h.tp.2.1 h50 (fun hn => absurd (rgN us hu e) hn) (fun us' hu' e' M2' k1' o1' b' hr' hb' kr => ?_) (fun us' hu' e' M2' o1' hr' kr => ?_)) (fun e M1' k1 o1 hr hb kc0 hl hs => c10_text h.tp.2.1 h50 (fun hn => absurd (rgN 0 (by decide) e) hn) (fun us' hu' e' M2' k1' o1' b' hr' hb' kr => ?_) (fun us' hu' e' M2' o1' hr' kr => ?_)) (fun e M1' k1 o1 hr hb kc0 hl hs => c10_text h.tp.2.1 h50 (fun hn => absurd (rgN 1 (by decide) e) hn) (fun us' hu' e' M2' k1' o1' b' hr' hb' kr => ?_) (fun us' hu' e' M2' o1' hr' kr => ?_))
  · obtain rfl := inj hu hu' e e'
    rw [hnx, hr'] at hr
    obtain ⟨rfl, rfl, rfl⟩ : b' = b ∧ k1' = k1 ∧ o1' = o1 := by simpa using hr
    exact ⟨_, rfl, rfl, ((h0.keepC (KpC.of kc0 (by decide))).keepR kr.x).e⟩
  · obtain rfl := inj hu hu' e e'
    rw [hnx, hr'] at hr
    obtain ⟨rfl, rfl, rfl⟩ : true = b ∧ t = k1 ∧ o1' = o1 := by simpa using hr
    exact absurd ⟨rfl, rfl⟩ hb
  · obtain rfl := inj (show 0 < 2 by decide) hu' e e'
    rw [hnx, hr'] at hr
    obtain ⟨rfl, rfl, rfl⟩ : b' = true ∧ k1' = k1 ∧ o1' = o1 := by simpa using hr
    exact absurd ⟨rfl, hb⟩ hb'
  · obtain rfl := inj (show 0 < 2 by decide) hu' e e'
    rw [hnx, hr'] at hr
    obtain ⟨rfl, rfl⟩ : t = k1 ∧ o1' = o1 := by simpa using hr
    have hlen := rdT_len hr'
    have ht1 : 1 ≤ t := (rd_inv 500 0 0 0 [] (true, t, o1') (by decide) (by omega) hr').2.2.2 (by decide) rfl
    have k84 : M2' 84 = put M2 84 106 0 84 := kr.1 84 (by decide) (by decide)
    have h1 := h0.keepR kr.x
    have g2 : ∀ j, (j ≠ 181 + 0 ∧ ¬ (203 + 50 * 0 ≤ j ∧ j < 203 + 50 * 0 + t)) → (txM (put M2' 84 (181 + 0) (nI t)) 0 t) 84 j = M2' 84 j := fun j hj => by
      unfold txM
      rw [um_s, if_neg hj.2, put_n (fun z => hj.1 z.2)]
    have g1 : ∀ c j, (c ≠ 3 ∧ c ≠ 26 ∧ c ≠ 27 ∧ c ≠ 80 ∧ c ≠ 14 ∧ c ≠ 68) → M1' c j = put M1 1 9 0 c j := fun c j hc => by rw [kc0 c (by simp; omega)]
    have gv : ∀ j, j ≠ 1000 → M1' 1 j = put M1 1 9 0 1 j := fun j _ => g1 1 j (by decide)
    refine ⟨_, rfl, rfl, (show Rel M1' (txM (put M2' 84 (181 + 0) (nI t)) 0 t) n ne 0 wt o1' S1 from h1.cur (k1_of kc0 (by decide)) (fun c hc => by unfold txM; rw [um_n hc, put_cell hc]) ?_).e⟩
    obtain ⟨a0, a1, a2, a3, a4, a5, a6, a7, a8⟩ := h1.1
    refine ⟨a0.eq (gv 2 (by decide)) (gv 4 (by decide)) (g2 _ (by omega)) (g2 _ (by omega)), a1.eq (gv 5 (by decide)) (gv 6 (by decide)) (gv 7 (by decide)) (gv 12 (by decide)) (g2 _ (by omega)) (g2 _ (by omega)) (g2 _ (by omega)) (g2 _ (by omega)), a2.eq (gv 9 (by decide)) (fun i _ => g1 13 i (by decide)) (g2 _ (by omega)) (fun i _ => g2 _ (by omega)), a3.eq (gv 14 (by decide)) (fun i _ => g1 16 i (by decide)) (g2 _ (by omega)) (fun i _ => g2 _ (by omega)), a4.eq (fun i _ => g1 10 i (by decide)) (fun i _ => g2 _ (by omega)), a5.eq a0.1.2.2 (fun b hb k _ => g1 _ k (by omega)) (fun b _ k _ => g2 _ (by omega)), a6.eq a0.2.2.2 (fun i _ => g1 12 i (by decide)) (fun i _ => g2 _ (by omega)), ⟨Or.inr ⟨t, ht1, h50, ?_, ?_⟩, hl, Nat.le_trans hlen.2 h50, hs⟩, a8.eq (g1 15 _ (by decide)) (fun i _ => g1 71 i (by decide)) (g2 _ (by omega)) (fun i _ => g2 _ (by omega))⟩
    · show (txM (put M2' 84 (181 + 0) (nI t)) 0 t) 84 (181 + 0) = nI t
      unfold txM
      rw [um_s, if_neg (fun z => by omega), put_s]
    · show rdT (nx (fun i => (txM (put M2' 84 (181 + 0) (nI t)) 0 t) 84 (203 + 50 * 0 + i)) t) 0 = (true, t, o1')
      rw [← hr']
      refine congrArg (fun q => rdT q 0) (nx_ext (fun i hi => ?_))
      unfold txM
      rw [um_s, if_pos ⟨by omega, by omega⟩, put_n (fun z => by omega), k84, put_n (fun z => by omega)]
      exact congrArg _ (by omega)
  · obtain rfl := inj (show 1 < 2 by decide) hu' e e'
    rw [hnx, hr'] at hr
    obtain ⟨rfl, rfl, rfl⟩ : b' = true ∧ k1' = k1 ∧ o1' = o1 := by simpa using hr
    exact absurd ⟨rfl, hb⟩ hb'
  · obtain rfl := inj (show 1 < 2 by decide) hu' e e'
    rw [hnx, hr'] at hr
    obtain ⟨rfl, rfl⟩ : t = k1 ∧ o1' = o1 := by simpa using hr
    have hlen := rdT_len hr'
    have ht1 : 1 ≤ t := (rd_inv 500 0 0 0 [] (true, t, o1') (by decide) (by omega) hr').2.2.2 (by decide) rfl
    have k84 : M2' 84 = put M2 84 106 0 84 := kr.1 84 (by decide) (by decide)
    have h1 := h0.keepR kr.x
    have g2 : ∀ j, (j ≠ 181 + 1 ∧ ¬ (203 + 50 * 1 ≤ j ∧ j < 203 + 50 * 1 + t)) → (txM (put M2' 84 (181 + 1) (nI t)) 1 t) 84 j = M2' 84 j := fun j hj => by
      unfold txM
      rw [um_s, if_neg hj.2, put_n (fun z => hj.1 z.2)]
    have g1 : ∀ c j, (c ≠ 3 ∧ c ≠ 26 ∧ c ≠ 27 ∧ c ≠ 80 ∧ c ≠ 15 ∧ c ≠ 71) → M1' c j = put M1 1 9 0 c j := fun c j hc => by rw [kc0 c (by simp; omega)]
    have gv : ∀ j, j ≠ 1000 → M1' 1 j = put M1 1 9 0 1 j := fun j _ => g1 1 j (by decide)
    refine ⟨_, rfl, rfl, (show Rel M1' (txM (put M2' 84 (181 + 1) (nI t)) 1 t) n ne 0 wt S0 o1' from h1.cur (k1_of kc0 (by decide)) (fun c hc => by unfold txM; rw [um_n hc, put_cell hc]) ?_).e⟩
    obtain ⟨a0, a1, a2, a3, a4, a5, a6, a7, a8⟩ := h1.1
    refine ⟨a0.eq (gv 2 (by decide)) (gv 4 (by decide)) (g2 _ (by omega)) (g2 _ (by omega)), a1.eq (gv 5 (by decide)) (gv 6 (by decide)) (gv 7 (by decide)) (gv 12 (by decide)) (g2 _ (by omega)) (g2 _ (by omega)) (g2 _ (by omega)) (g2 _ (by omega)), a2.eq (gv 9 (by decide)) (fun i _ => g1 13 i (by decide)) (g2 _ (by omega)) (fun i _ => g2 _ (by omega)), a3.eq (gv 14 (by decide)) (fun i _ => g1 16 i (by decide)) (g2 _ (by omega)) (fun i _ => g2 _ (by omega)), a4.eq (fun i _ => g1 10 i (by decide)) (fun i _ => g2 _ (by omega)), a5.eq a0.1.2.2 (fun b hb k _ => g1 _ k (by omega)) (fun b _ k _ => g2 _ (by omega)), a6.eq a0.2.2.2 (fun i _ => g1 12 i (by decide)) (fun i _ => g2 _ (by omega)), a7.eq (g1 14 _ (by decide)) (fun i _ => g1 68 i (by decide)) (g2 _ (by omega)) (fun i _ => g2 _ (by omega)), ⟨Or.inr ⟨t, ht1, h50, ?_, ?_⟩, hl, Nat.le_trans hlen.2 h50, hs⟩⟩
    · show (txM (put M2' 84 (181 + 1) (nI t)) 1 t) 84 (181 + 1) = nI t
      unfold txM
      rw [um_s, if_neg (fun z => by omega), put_s]
    · show rdT (nx (fun i => (txM (put M2' 84 (181 + 1) (nI t)) 1 t) 84 (203 + 50 * 1 + i)) t) 1 = (true, t, o1')
      rw [← hr']
      refine congrArg (fun q => rdT q 1) (nx_ext (fun i hi => ?_))
      unfold txM
      rw [um_s, if_pos ⟨by omega, by omega⟩, put_n (fun z => by omega), k84, put_n (fun z => by omega)]
      exact congrArg _ (by omega)
theorem shv_r (x : Int32) : shv x x := ⟨rfl, fun _ => rfl⟩
theorem spt_no {x : Int32} (h : ¬ (0 ≤ x.toInt ∧ x.toInt ≤ 99)) : spt x = false := Bool.eq_false_iff.mpr (fun z => h (by
  have := spt_iff.mp z
  have h1 := Int32.le_iff_toInt_le.mp this.1
  have h2 := Int32.le_iff_toInt_le.mp this.2
  rw [show (0 : Int32).toInt = 0 from by decide] at h1
  rw [show (99 : Int32).toInt = 99 from by decide] at h2
  exact ⟨h1, h2⟩))
theorem shv_of {x y : Int32} (h : (x.toInt = y.toInt) ∨ (¬ (0 ≤ x.toInt ∧ x.toInt ≤ 99) ∧ ¬ (0 ≤ y.toInt ∧ y.toInt ≤ 99))) : shv x y := by
  rcases h with h | h
  · obtain rfl := Int32.toInt_inj.mp h; exact shv_r x
  · exact ⟨by rw [spt_no h.1, spt_no h.2], fun z => absurd z (by rw [spt_no h.1]; decide)⟩
theorem and_nat (x : Int32) (m : Nat) (M : Int32) (hM : M.toBitVec = BitVec.ofNat 32 (2 ^ m - 1)) (hm : m ≤ 16) : (x &&& M).toInt = ((x.toBitVec.toNat % 2 ^ m : Nat) : Int) := by
  have e : (x &&& M).toBitVec.toNat = x.toBitVec.toNat % 2 ^ m := by
    rw [Int32.toBitVec_and, BitVec.toNat_and, hM, BitVec.toNat_ofNat, Nat.mod_eq_of_lt (by have : 2 ^ m ≤ 2 ^ 16 := Nat.pow_le_pow_right (by decide) hm; omega), Nat.and_two_pow_sub_one_eq_mod]
  have hlt : x.toBitVec.toNat % 2 ^ m < 65536 := by
    have h1 : x.toBitVec.toNat % 2 ^ m < 2 ^ m := Nat.mod_lt _ (Nat.two_pow_pos m)
    have h2 : 2 ^ m ≤ 2 ^ 16 := Nat.pow_le_pow_right (by decide) hm
    omega
  show (x &&& M).toBitVec.toInt = _
  rw [BitVec.toInt_eq_toNat_of_lt (by rw [e]; omega), e]
theorem toI_nat (x : Int32) : x.toInt = if 2 * x.toBitVec.toNat < 2 ^ 32 then (x.toBitVec.toNat : Int) else (x.toBitVec.toNat : Int) - (2 ^ 32 : Nat) := BitVec.toInt_eq_toNat_cond x.toBitVec
theorem shv_8 (v : Int32) : shv (v &&& 255) (Int32.toInt8 v).toInt32 := by
  have e1 := and_nat v 8 255 (by decide) (by decide)
  have e2 : (Int32.toInt8 v).toInt32.toInt = v.toInt.bmod 256 := by rw [Int8.toInt_toInt32, Int32.toInt_toInt8]
  have e3 := toI_nat v
  have h4 := v.toBitVec.isLt
  refine shv_of ?_
  rw [e1, e2, e3, Int.bmod_def]
  split <;> split <;> omega
theorem shv_16 (v : Int32) : shv (v &&& 65535) (Int32.toInt16 v).toInt32 := by
  have e1 := and_nat v 16 65535 (by decide) (by decide)
  have e2 : (Int32.toInt16 v).toInt32.toInt = v.toInt.bmod 65536 := by rw [Int16.toInt_toInt32, Int32.toInt_toInt16]
  have e3 := toI_nat v
  have h4 := v.toBitVec.isLt
  refine shv_of ?_
  rw [e1, e2, e3, Int.bmod_def]
  split <;> split <;> omega
/-- the sheets alone change -/
theorem Rel.sh {M1 M1' M2 M2' : Mem} {n ne t w : Nat} {S0 S1 : List Int32} (h : Rel M1 M2 n ne t w S0 S1) (k1 : ∀ c, ¬ (62 ≤ c ∧ c < 68) → M1' c = M1 c) (k2 : ∀ c, c ≠ 98 → c ≠ 99 → c ≠ 100 → c ≠ 101 → M2' c = M2 c) (hS : RSh M1' M2') : Rel M1' M2' n ne t w S0 S1 := by
  refine ⟨?_, (h.2.1.keepR (by rw [k2 83 (by decide) (by decide) (by decide) (by decide)]) (k2 86 (by decide) (by decide) (by decide) (by decide))).keepC (by rw [k1 0 (by decide)]) (fun c _ _ _ _ => ?_), fun i a b => by rw [k1 9 (by decide), k2 87 (by decide) (by decide) (by decide) (by decide)]; exact h.2.2.1 i a b, hS, (h.2.2.2.2.keepR (by rw [k2 83 (by decide) (by decide) (by decide) (by decide)]) (k2 97 (by decide) (by decide) (by decide) (by decide))).keepC (by rw [k1 7 (by decide)]) (k1 60 (by decide))⟩
  · unfold RVl
    rw [k2 84 (by decide) (by decide) (by decide) (by decide)]
    exact VRel.eqM h.1 (k1 1 (by decide)) (k1 10 (by decide)) (k1 12 (by decide)) (k1 13 (by decide)) (k1 16 (by decide)) (k1 14 (by decide)) (k1 68 (by decide)) (k1 15 (by decide)) (k1 71 (by decide)) (fun b hb => k1 _ (by omega))
  · by_cases q : 62 ≤ c ∧ c < 68
    · exact Or.inr (Or.inr (Or.inr (Or.inr (by omega))))
    · exact Or.inl (k1 c q)

set_option maxHeartbeats 4000000 in
set_option maxRecDepth 100000 in
theorem s_sheet {g : GG} {d : Nat} {a b c : Int32} : Same g (d + 2) (d + 2) mX9_sheet mX10_sheet [some (.ref 0), some (.int a), some (.int b), some (.int c)] [some (.ref 83), some (.int a), some (.int b), some (.int c), none] := by
  rintro M1 M2 ⟨n, ne, t, wt, S0, S1, h⟩
  have sh := h.2.2.2.1
  have inj : ∀ {s s' : Nat}, s < 4 → s' < 4 → a = nI s → a = nI s' → s' = s := fun h1 h2 e1 e2 => nI_inj2 (e2.symm.trans e1) (by omega) (by omega)
  have fin : ∀ (s : Nat) (b c : Int32), s < 4 → (b = 0 ∨ b = 8 ∨ b = 16 ∨ b = 32) → (∃ z, z ≤ 40 ∧ c = nI z) → Rel (um (put (put M1 62 s b) 63 s c) (64 + s) (fun i => if i < 40 then 0 else M1 (64 + s) i)) (um (put (put M2 98 s b) 99 s c) 100 (fun i => if 40 * s ≤ i ∧ i < 40 * s + 40 then 0 else M2 100 i)) n ne t wt S0 S1 := by
    intro s b c hs hb hc
    refine h.sh (fun x hx => by rw [um_n (by omega), put_cell (by omega), put_cell (by omega)]) (fun x h1 h2 h3 h4 => by rw [um_n h3, put_cell h2, put_cell h1]) (fun s' hs' => ?_)
    have e62 : um (put (put M1 62 s b) 63 s c) (64 + s) (fun i => if i < 40 then 0 else M1 (64 + s) i) 62 s' = if s' = s then b else M1 62 s' := by
      rw [um_n (by omega), put_cell (by decide)]
      by_cases q : s' = s
      · rw [if_pos q, q, put_s]
      · rw [if_neg q, put_n (fun z => q z.2)]
    have e63 : um (put (put M1 62 s b) 63 s c) (64 + s) (fun i => if i < 40 then 0 else M1 (64 + s) i) 63 s' = if s' = s then c else M1 63 s' := by
      rw [um_n (by omega)]
      by_cases q : s' = s
      · rw [if_pos q, q, put_s]
      · rw [if_neg q, put_n (fun z => q z.2), put_cell (by decide)]
    have e98 : um (put (put M2 98 s b) 99 s c) 100 (fun i => if 40 * s ≤ i ∧ i < 40 * s + 40 then 0 else M2 100 i) 98 s' = if s' = s then b else M2 98 s' := by
      rw [um_n (by decide), put_cell (by decide)]
      by_cases q : s' = s
      · rw [if_pos q, q, put_s]
      · rw [if_neg q, put_n (fun z => q z.2)]
    have e99 : um (put (put M2 98 s b) 99 s c) 100 (fun i => if 40 * s ≤ i ∧ i < 40 * s + 40 then 0 else M2 100 i) 99 s' = if s' = s then c else M2 99 s' := by
      rw [um_n (by decide)]
      by_cases q : s' = s
      · rw [if_pos q, q, put_s]
      · rw [if_neg q, put_n (fun z => q z.2), put_cell (by decide)]
    rw [e62, e63, e98, e99, um_s]
    by_cases q : s' = s
    · subst q
      rw [if_pos rfl, if_pos rfl, if_pos rfl, if_pos rfl, um_s]
      exact ⟨rfl, rfl, hc, hb, fun i hi => by rw [if_pos hi, if_pos (by omega)]; exact shv_r 0⟩
    · rw [if_neg q, if_neg q, if_neg q, if_neg q, um_n (by omega), put_cell (by omega), put_cell (by omega)]
      refine ⟨(sh s' hs').1, (sh s' hs').2.1, (sh s' hs').2.2.1, (sh s' hs').2.2.2.1, fun i hi => ?_⟩
      rw [if_neg (by omega)]
      exact (sh s' hs').2.2.2.2 i hi
  refine c9_sheet (fun hn => c10_sheet (fun _ => h.er (by decide) (by decide)) (fun hp => absurd hp hn) (fun hp => absurd hp hn) (fun hp => absurd hp hn) (fun hp => absurd hp hn)) (fun hp s hs e h0 => c10_sheet (fun hn => absurd hp hn) (fun _ s' hs' e' _ => ?_) (fun _ z => absurd h0 z) (fun _ z => absurd h0 z) (fun _ z => absurd h0 z)) (fun hp h0 hc => c10_sheet (fun hn => absurd hp hn) (fun _ s' hs' e' z => absurd z h0) (fun _ _ _ => h.er (by decide) (by decide)) (fun _ _ z => absurd hc z) (fun _ _ z => absurd hc z)) (fun hp h0 hc hl => c10_sheet (fun hn => absurd hp hn) (fun _ s' hs' e' z => absurd z h0) (fun _ _ z => absurd z hc) (fun _ _ _ _ => h.er (by decide) (by decide)) (fun _ _ _ z => absurd z hl)) (fun hp h0 hc hl s hs e => c10_sheet (fun hn => absurd hp hn) (fun _ s' hs' e' z => absurd z h0) (fun _ _ z => absurd z hc) (fun _ _ _ z => absurd hl z) (fun _ _ _ _ s' hs' e' => ?_))
  · obtain rfl := inj hs hs' e e'
    subst h0
    exact ⟨_, rfl, rfl, (fin s' 0 0 hs' (Or.inl rfl) ⟨0, by omega, rfl⟩).e⟩
  · obtain rfl := inj hs hs' e e'
    obtain ⟨z, hz, hz2⟩ := nI_ex (n := 41) (by omega) (Int32.not_lt.mp hc) (Int32.lt_of_le_of_lt hl (by decide))
    exact ⟨_, rfl, rfl, (fin s' b c hs' hp.2 ⟨z, by omega, hz2⟩).e⟩
set_option maxHeartbeats 4000000 in
set_option maxRecDepth 100000 in
theorem s_put {g : GG} {d : Nat} {a i v : Int32} : Same g (d + 2) (d + 2) mX9_put mX10_put [some (.ref 0), some (.int a), some (.int i), some (.int v)] [some (.ref 83), some (.int a), some (.int i), some (.int v)] := by
  rintro M1 M2 ⟨n, ne, t, wt, S0, S1, h⟩
  have sh := h.2.2.2.1
  have inj : ∀ {s s' : Nat}, s < 4 → s' < 4 → a = nI s → a = nI s' → s' = s := fun h1 h2 e1 e2 => nI_inj2 (e2.symm.trans e1) (by omega) (by omega)
  have rgN : ∀ s, s < 4 → a = nI s → (0 ≤ a ∧ a ≤ 3) := fun s h1 e => by subst e; exact ⟨nI_pos' (by omega), nI_le (b := 3) (by omega) (by omega)⟩
  have hsz1 : ∀ s, s < 4 → M1 63 s ≤ 40 := fun s hs => by
    obtain ⟨z, hz, hz2⟩ := (sh s hs).2.2.1
    rw [(sh s hs).2.1, hz2]
    exact nI_le (b := 40) hz (by omega)
  have hsz2 : ∀ s, s < 4 → ∃ z, z ≤ 40 ∧ M2 99 s = nI z := fun s hs => (sh s hs).2.2.1
  have ok : ∀ s, s < 4 → (((0 : Int32) ≤ 1 ∧ 0 ≤ i ∧ i ≤ M1 63 s ∧ 1 ≤ M1 63 s - i) ↔ (0 ≤ i ∧ i < M2 99 s)) := fun s hs => by
    obtain ⟨z, hz, hz2⟩ := (sh s hs).2.2.1
    rw [(sh s hs).2.1, hz2]
    constructor
    · intro q
      obtain ⟨x, hx, rfl⟩ := nI_ex (n := z + 1) (by omega) q.2.1 (Int32.lt_of_le_of_lt q.2.2.1 (nI_lt (by omega) (by omega)))
      have q4 := q.2.2.2
      rw [pk_sub (by omega)] at q4
      have := (nI_leI (a := 1) (by omega) (by omega)).mp q4
      exact ⟨q.2.1, nI_lt (by omega) (by omega)⟩
    · intro q
      obtain ⟨x, hx, rfl⟩ := nI_ex (n := z) (by omega) q.1 q.2
      exact ⟨by decide, q.1, nI_le (by omega) (by omega), by rw [pk_sub (by omega)]; exact nI_le (a := 1) (by omega) (by omega)⟩
  refine c9_put hsz1 (fun hn => c10_put hsz2 (fun _ => h.er (by decide) (by decide)) (fun s hs e _ => absurd (rgN s hs e) hn) (fun s hs e _ _ => absurd (rgN s hs e) hn) (fun s j hs hj e _ _ _ => absurd (rgN s hs e) hn)) (fun s hs e h0 => c10_put hsz2 (fun hn => absurd (rgN s hs e) hn) (fun _ _ _ _ => h.er (by decide) (by decide)) (fun s' hs' e' h0' => absurd (by rw [← (sh s' hs').1, inj hs hs' e e']; exact h0) h0') (fun s' j hs' hj e' _ h0' => absurd (by rw [← (sh s' hs').1, inj hs hs' e e']; exact h0) h0')) (fun s hs e h0 hst => c10_put hsz2 (fun hn => absurd (rgN s hs e) hn) (fun s' hs' e' h0' => absurd (by rw [← inj hs hs' e e', (sh s' hs').1]; exact h0') h0) (fun _ _ _ _ _ => h.er (by decide) (by decide)) (fun s' j hs' hj e' _ _ hst' => absurd ((ok s hs).mpr (by rw [← inj hs hs' e e']; exact hst')) hst)) (fun s j hs hj e ei h0 hst => c10_put hsz2 (fun hn => absurd (rgN s hs e) hn) (fun s' hs' e' h0' => absurd (by rw [← inj hs hs' e e', (sh s' hs').1]; exact h0') h0) (fun s' hs' e' _ hst' => absurd (by rw [inj hs hs' e e']; exact (ok s hs).mp hst) hst') (fun s' j' hs' hj' e' ei' h0' hst' => ?_))
  obtain rfl := inj hs hs' e e'
  obtain rfl : j' = j := nI_inj2 (ei'.symm.trans ei) (by omega) (by omega)
  have hval : shv (if M1 62 s' = 32 then v else v &&& ((1 <<< (M1 62 s' &&& 31)) - 1)) (if M2 98 s' = 8 then (Int32.toInt8 v).toInt32 else if M2 98 s' = 16 then (Int32.toInt16 v).toInt32 else v) := by
    rw [(sh s' hs').1]
    rcases (sh s' hs').2.2.2.1 with q | q | q | q
    · exact absurd q h0'
    · rw [q]; exact shv_8 v
    · rw [q]; exact shv_16 v
    · rw [q]; exact shv_r v
  refine ⟨_, rfl, rfl, (h.sh (fun x hx => put_cell (by omega)) (fun x h1 h2 h3 h4 => put_cell h3) (fun s hs => ?_)).e⟩
  rw [put_cell (c := 62) (by omega), put_cell (c := 63) (by omega), put_cell (c := 98) (by decide), put_cell (c := 99) (by decide)]
  refine ⟨(sh s hs).1, (sh s hs).2.1, (sh s hs).2.2.1, (sh s hs).2.2.2.1, fun x hx => ?_⟩
  by_cases q : s = s' ∧ x = j'
  · obtain ⟨rfl, rfl⟩ := q; rw [put_s, put_s]; exact hval
  · rw [put_n (fun z => q ⟨by omega, z.2⟩), put_n (fun z => q (by omega))]
    exact (sh s hs).2.2.2.2 x hx

