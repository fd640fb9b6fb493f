/-! ===== public methods: winds, chance ===== -/
/-- is nothing heard to clash, in a wind -/
def cmW (M : Mem) (hour : Int32) (n ne : Nat) (j : Nat) : Bool := decide (fcF (cl2 (hpF M (fun b => strk (M (30 + b) 0) (M (30 + b) 1) (M (30 + b) 6) hour) (wN j)) (wyF M (wN j)) (M 1 6) (fun b => M (30 + b) 4)) n ne < 0)
theorem cl2_cong {hp hp' : Nat → Nat → Bool} {wy wy' : Nat → Nat → Int32} {br br' : Int32} {off off' : Nat → Int32} {a b e : Nat} (h1 : hp a e = hp' a e) (h2 : hp b e = hp' b e) (h3 : wy a e = wy' a e) (h4 : wy b e = wy' b e) (h5 : br = br') (h6 : off a = off' a) (h7 : off b = off' b) : cl2 hp wy br off a b e = cl2 hp' wy' br' off' a b e := by
  unfold cl2 clP
  rw [h1, h2, h3, h4, h5, h6, h7]
theorem fcR_cong {c c' : Nat → Nat → Nat → Bool} {n ne a : Nat} (ha : a < n) (h : ∀ a b e, a < n → b < n → e < ne → c a b e = c' a b e) : ∀ (k b : Nat), b + k ≤ n → fcR c ne a k b = fcR c' ne a k b
  | 0, _, _ => rfl
  | k + 1, b, hk => by
    unfold fcR
    rw [fst_cong (fun e he => h a b e ha (by omega) he), fcR_cong ha h k (b + 1) (by omega)]
theorem fcA_cong {c c' : Nat → Nat → Nat → Bool} {n ne : Nat} (h : ∀ a b e, a < n → b < n → e < ne → c a b e = c' a b e) : ∀ (k a : Nat), a + k ≤ n → fcA c n ne k a = fcA c' n ne k a
  | 0, _, _ => rfl
  | k + 1, a, hk => by
    unfold fcA
    rw [fcR_cong (by omega) h (n - (a + 1)) (a + 1) (by omega), fcA_cong h k (a + 1) (by omega)]
theorem fcF_cong {c c' : Nat → Nat → Nat → Bool} {n ne : Nat} (h : ∀ a b e, a < n → b < n → e < ne → c a b e = c' a b e) : fcF c n ne = fcF c' n ne := fcA_cong h n 0 (by omega)

set_option maxHeartbeats 4000000 in
set_option maxRecDepth 100000 in
theorem l_winds {g : GG} {d : Nat} {Q : Option Value → Mem → Prop} {M0 : Mem} {n ne : Nat} (hV : VB M0 n ne) {hour : Int32} (hQ : ∀ M', eqx scrH M0 M' → Q (some (.int (bI (cmW M0 hour n ne) 11))) M') : ∀ (k j : Nat) (M : Mem), j + k = 11 → eqx scrH M0 M → V cS g (d + 5) mX9_winds 19 [some (.ref 0), some (.int hour), some (.int (bI (cmW M0 hour n ne) j)), some (.int (wN j))] [] M Q := by
  intro k
  induction k with
  | zero =>
    intro j M hk he
    obtain rfl : j = 11 := by omega
    refine V.iload_n dX9_winds_19 rfl (i := 3) rfl ?_
    refine V.iconst dX9_winds_20 (v := 5) (by decide) ?_
    refine V.ic_gt (tgt := 57) dX9_winds_21 (by decide) (fun c21 => ?_) (fun q => absurd ((by decide)) q)
    refine V.iload_n dX9_winds_57 rfl (i := 2) rfl ?_
    exact V.ret dX9_winds_58 rfl (hQ M he)
  | succ k ih =>
    intro j M hk he
    have h8 := hV.2.1
    have hVM : VB M n ne := hV.eq he (by decide) (by decide) (by decide) (fun b hb => by simp; omega)
    have hstr : strS M = strS M0 := strS_eq (he 14 (by decide)) (he 68 (by decide)) (he 10 (by decide))
    have e1 : M 1 = M0 1 := he 1 (by decide)
    have e12 : M 12 = M0 12 := he 12 (by decide)
    have e30 : ∀ x, x < 8 → M (30 + x) = M0 (30 + x) := fun x hx => he (30 + x) (by simp; omega)
    have hcl : ∀ M1, eqx scrH M M1 → fcF (cl2 (hpF M (fun b => strk (M (30 + b) 0) (M (30 + b) 1) (M (30 + b) 6) hour) (wN j)) (wyF M (wN j)) (M1 1 6) (fun b => M1 (30 + b) 4)) n ne = fcF (cl2 (hpF M0 (fun b => strk (M0 (30 + b) 0) (M0 (30 + b) 1) (M0 (30 + b) 6) hour) (wN j)) (wyF M0 (wN j)) (M0 1 6) (fun b => M0 (30 + b) 4)) n ne := fun M1 h1 => by
      refine fcF_cong (fun a b e ha hb _ => ?_)
      have a8 : a < 8 := by omega
      have b8 : b < 8 := by omega
      refine cl2_cong ?_ ?_ ?_ ?_ ?_ ?_ ?_
      · unfold hpF; simp only [hstr, e12, e30 a a8]
      · unfold hpF; simp only [hstr, e12, e30 b b8]
      · unfold wyF; simp only [e12, e30 a a8]
      · unfold wyF; simp only [e12, e30 b b8]
      · rw [h1 1 (by decide), e1]
      · simp only [h1 (30 + a) (sH30 a8), e30 a a8]
      · simp only [h1 (30 + b) (sH30 b8), e30 b b8]
    refine V.iload_n dX9_winds_19 rfl (i := 3) rfl ?_
    refine V.iconst dX9_winds_20 (v := 5) (by decide) ?_
    refine V.ic_gt (tgt := 57) dX9_winds_21 (by decide) (fun q => absurd q ((fun z => absurd ((wN_gt j (by omega)).mp z) (by omega)))) (fun c21 => ?_)
    refine V.aload_n dX9_winds_24 rfl (i := 0) rfl ?_
    refine V.getR dX9_winds_25 rfl flRX9_31 rfl ⟨by decide, by decide⟩ ?_
    refine V.iload_n dX9_winds_28 rfl (i := 1) rfl ?_
    refine V.iload_n dX9_winds_29 rfl (i := 3) rfl ?_
    refine V.invv (z := mX1_listen) (As := [_, _]) dX9_winds_30 rfl mlRX9_195 okX1_listen npX1_listen rfl rfl rfl ⟨by decide, by decide⟩ (Nat.le_of_ble_eq_true rfl) rfl (Nat.le_of_ble_eq_true rfl) (c_listen hVM (fun M1 hM1 hH1 => ?_))
    show V cS g (d + 5) mX9_winds 33 [some (.ref 0), some (.int hour), some (.int (bI (cmW M0 hour n ne) j)), some (.int (wN j))] [] M1 Q
    refine V.aload_n dX9_winds_33 rfl (i := 0) rfl ?_
    refine V.getR dX9_winds_34 rfl flRX9_31 rfl ⟨by decide, by decide⟩ ?_
    refine V.invv (z := mX1_firstClash) (As := []) dX9_winds_37 rfl mlRX9_232 okX1_firstClash npX1_firstClash rfl rfl rfl ⟨by decide, by decide⟩ (Nat.le_of_ble_eq_true rfl) rfl (Nat.le_of_ble_eq_true rfl) (c_fc (hVM.eq hM1 (by decide) (by decide) (by decide) (fun b hb => by simp; omega)).cn hH1 ?_)
    show V cS g (d + 5) mX9_winds 40 [some (.ref 0), some (.int hour), some (.int (bI (cmW M0 hour n ne) j)), some (.int (wN j))] [.int (fcF (cl2 (hpF M (fun b => strk (M (30 + b) 0) (M (30 + b) 1) (M (30 + b) 6) hour) (wN j)) (wyF M (wN j)) (M1 1 6) (fun b => M1 (30 + b) 4)) n ne)] M1 Q
    refine V.top (x' := (fcF (cl2 (hpF M0 (fun b => strk (M0 (30 + b) 0) (M0 (30 + b) 1) (M0 (30 + b) 6) hour) (wN j)) (wyF M0 (wN j)) (M0 1 6) (fun b => M0 (30 + b) 4)) n ne)) ((hcl M1 hM1)) ?_
    refine V.if_ge (tgt := 51) dX9_winds_40 (by decide) (fun c40 => ?_) (fun c40 => ?_)
    · refine V.lseq (ls' := [some (.ref 0), some (.int hour), some (.int (bI (cmW M0 hour n ne) (j + 1))), some (.int (wN j))]) (by first | (rw [bI_f (p := cmW M0 hour n ne) (by unfold cmW; exact fun q => absurd (of_decide_eq_true q) (Int32.not_lt.mpr c40))]; try rfl) | (rw [bI_t (p := cmW M0 hour n ne) (by omega) (by unfold cmW; exact decide_eq_true (Int32.not_le.mp c40))]; try rfl)) ?_
      refine V.iinc dX9_winds_51 rfl (v := (wN (j + 1))) (wN_inc j) (by decide) (fun _ h => by cases h; exact Or.inl rfl) rfl ?_
      refine V.goto dX9_winds_54 (tgt := 19) (by decide) ?_
      exact ih (j + 1) M1 (by omega) (he.tr hM1)
    · refine V.iload_n dX9_winds_43 rfl (i := 2) rfl ?_
      refine V.iconst dX9_winds_44 (v := 1) (by decide) ?_
      refine V.iload_n dX9_winds_45 rfl (i := 3) rfl ?_
      refine V.iconst dX9_winds_46 (v := 5) (by decide) ?_
      refine V.iadd dX9_winds_47 ?_
      refine V.top (x' := (nI j)) ((wN_5 j)) ?_
      refine V.ishl dX9_winds_48 ?_
      refine V.ior dX9_winds_49 ?_
      refine V.istore_n dX9_winds_50 rfl (i := 2) (by decide) (fun _ h => by cases h; exact Or.inl rfl) rfl ?_
      refine V.lseq (ls' := [some (.ref 0), some (.int hour), some (.int (bI (cmW M0 hour n ne) (j + 1))), some (.int (wN j))]) (by first | (rw [bI_f (p := cmW M0 hour n ne) (by unfold cmW; exact fun q => absurd (of_decide_eq_true q) (Int32.not_lt.mpr c40))]; try rfl) | (rw [bI_t (p := cmW M0 hour n ne) (by omega) (by unfold cmW; exact decide_eq_true (Int32.not_le.mp c40))]; try rfl)) ?_
      refine V.iinc dX9_winds_51 rfl (v := (wN (j + 1))) (wN_inc j) (by decide) (fun _ h => by cases h; exact Or.inl rfl) rfl ?_
      refine V.goto dX9_winds_54 (tgt := 19) (by decide) ?_
      exact ih (j + 1) M1 (by omega) (he.tr hM1)
set_option maxHeartbeats 4000000 in
set_option maxRecDepth 100000 in
theorem c9_winds {g : GG} {d : Nat} {M : Mem} {Q : Option Value → Mem → Prop} {a : Int32} {n ne : Nat} (hV : VB M n ne) (hbad : ¬ (0 ≤ a ∧ a ≤ 23) → Q (some (.int (-1000000001))) (put M 9 1 (M 9 1 + 1))) (hok : (0 ≤ a ∧ a ≤ 23) → ∀ M', eqx scrH M M' → Q (some (.int (bI (cmW M a n ne) 11))) M') : V cS g (d + 5) mX9_winds 0 [some (.ref 0), some (.int a), none, none] [] M Q := by
  by_cases h : 0 ≤ a ∧ a ≤ 23
  · skip
    refine V.iload_n dX9_winds_0 rfl (i := 1) rfl ?_
    refine V.invs (z := mX9_isHour) (As := [_]) dX9_winds_1 rfl mlRX9_138 okX9_isHour npX9_isHour rfl (Nat.le_of_ble_eq_true rfl) rfl (Nat.le_of_ble_eq_true rfl) (c_isHour   ?_)
    show V cS g (d + 5) mX9_winds 4 [some (.ref 0), some (.int a), none, none] [.int (b2i (0 ≤ a ∧ a ≤ 23))] (M) Q
    refine V.if_ne (tgt := 14) dX9_winds_4 (by decide) (fun c4 => ?_) (fun q => absurd q ((fun z => b2i_0.mp z h)))
    refine V.iconst dX9_winds_14 (v := 0) (by decide) ?_
    refine V.istore_n dX9_winds_15 rfl (i := 2) (by decide) (fun _ h => by cases h; exact Or.inl rfl) rfl ?_
    refine V.bipush dX9_winds_16 (v := (-5)) (by decide) ?_
    refine V.istore_n dX9_winds_18 rfl (i := 3) (by decide) (fun _ h => by cases h; exact Or.inl rfl) rfl ?_
    exact l_winds hV (hok h) 11 0 M (by omega) eqx.rf
  · skip
    refine V.iload_n dX9_winds_0 rfl (i := 1) rfl ?_
    refine V.invs (z := mX9_isHour) (As := [_]) dX9_winds_1 rfl mlRX9_138 okX9_isHour npX9_isHour rfl (Nat.le_of_ble_eq_true rfl) rfl (Nat.le_of_ble_eq_true rfl) (c_isHour   ?_)
    show V cS g (d + 5) mX9_winds 4 [some (.ref 0), some (.int a), none, none] [.int (b2i (0 ≤ a ∧ a ≤ 23))] (M) Q
    refine V.if_ne (tgt := 14) dX9_winds_4 (by decide) (fun c4 => ?_) (fun c4 => ?_)
    · exact absurd (Classical.byContradiction fun z => c4 (b2i_f z)) h
    · refine V.aload_n dX9_winds_7 rfl (i := 0) rfl ?_
      refine V.ldc dX9_winds_8 rfl ctRX9_81 ?_
      refine V.invv (z := mX9_error) (As := [_]) dX9_winds_10 rfl mlRX9_82 okX9_error npX9_error rfl rfl rfl ⟨by decide, by decide⟩ (Nat.le_of_ble_eq_true rfl) rfl (Nat.le_of_ble_eq_true rfl) (c_err1   ?_)
      show V cS g (d + 5) mX9_winds 13 [some (.ref 0), some (.int a), none, none] [.int (-1000000001 : Int32)] (put (M) 9 1 ((M) 9 1 + 1)) Q
      exact V.ret dX9_winds_13 rfl (hbad h)
theorem mxs {f m : Nat} (hf : f < 1000) (hm : m < 1000) : (if (0 : Int32) < nI f - nI m then nI f - nI m else 0) = nI (f - m) := by
  by_cases h : m ≤ f
  · rw [pk_sub h]
    by_cases h0 : f - m = 0
    · rw [h0, if_neg (by decide)]; rfl
    · exact if_pos (nI_lt (a := 0) (by omega) (by omega))
  · rw [if_neg (Int32.not_lt.mpr (Int32.le_of_lt (pk_sneg (by omega) (by omega)))), show f - m = 0 by omega]; rfl
theorem mns {x : Nat} (hx : x < 1000) : (if nI x < (99 : Int32) then nI x else 99) = nI (min 99 x) := by
  by_cases h : x < 99
  · rw [if_pos (show nI x < (99 : Int32) from nI_lt (b := 99) h (by omega)), show min 99 x = x by omega]
  · rw [if_neg (show ¬ nI x < (99 : Int32) from nI_nlt (a := x) (b := 99) (by omega) (by omega)), show min 99 x = 99 by omega]; rfl

set_option maxHeartbeats 4000000 in
set_option maxRecDepth 100000 in
theorem c9_chance {g : GG} {d : Nat} {M : Mem} {Q : Option Value → Mem → Prop} {a w v : Int32} {n ne : Nat} (hV : VB M n ne) (hk : ∀ b, b < 8 → 0 ≤ M (30 + b) 0 ∧ M (30 + b) 0 ≤ 6) (hm : ∀ b, b < 8 → rg 0 23 (M (30 + b) 1)) (hbad : ¬ ((0 ≤ a ∧ a < M 1 2 ∧ a < 8) ∧ (0 ≤ w ∧ w ≤ 23) ∧ 0 ≤ v ∧ v ≤ 1) → Q (some (.int (-1000000001))) (put M 9 1 (M 9 1 + 1))) (hkind : ((0 ≤ a ∧ a < M 1 2 ∧ a < 8) ∧ (0 ≤ w ∧ w ≤ 23) ∧ 0 ≤ v ∧ v ≤ 1) → ∀ b, b < n → a = nI b → isOfB (M (30 + b) 0) 3 = false → Q (some (.int (-1000000005))) (put M 9 5 (M 9 5 + 1))) (hok : ((0 ≤ a ∧ a < M 1 2 ∧ a < 8) ∧ (0 ≤ w ∧ w ≤ 23) ∧ 0 ≤ v ∧ v ≤ 1) → ∀ b f mm, b < n → a = nI b → f < 100 → mm ≤ 23 → M (30 + b) 2 = nI f → M (30 + b) 1 = nI mm → isOfB (M (30 + b) 0) 3 = true → ∀ M1 M', eqx scrH M M1 → eqx scrH M M' → Q (some (.int (if v = 0 then nI ((if strk (M (30 + b) 0) (M (30 + b) 1) (M (30 + b) 6) w = true then (cB (fun j => anB (cfP M1 (hpH M w) (wyH M) n b (nI ((f - mm) + j))) ne) ((min 99 (f + mm)) + 1 - (f - mm))) else 0) / Nat.gcd ((min 99 (f + mm)) - (f - mm) + 1) (if strk (M (30 + b) 0) (M (30 + b) 1) (M (30 + b) 6) w = true then (cB (fun j => anB (cfP M1 (hpH M w) (wyH M) n b (nI ((f - mm) + j))) ne) ((min 99 (f + mm)) + 1 - (f - mm))) else 0)) else nI (((min 99 (f + mm)) - (f - mm) + 1) / Nat.gcd ((min 99 (f + mm)) - (f - mm) + 1) (if strk (M (30 + b) 0) (M (30 + b) 1) (M (30 + b) 6) w = true then (cB (fun j => anB (cfP M1 (hpH M w) (wyH M) n b (nI ((f - mm) + j))) ne) ((min 99 (f + mm)) + 1 - (f - mm))) else 0))))) M') : V cS g (d + 5) mX9_chance 0 [some (.ref 0), some (.int a), some (.int w), some (.int v), none, none, none, none, none, none] [] M Q := by
  have h8 := hV.2.1
  by_cases h : ((0 ≤ a ∧ a < M 1 2 ∧ a < 8) ∧ (0 ≤ w ∧ w ≤ 23) ∧ 0 ≤ v ∧ v ≤ 1)
  · have h12 := h.1.2.1
    rw [hV.1] at h12
    obtain ⟨b, hb, rfl⟩ := nI_ex (n := n) (by omega) h.1.1 h12
    have hb8 : b < 8 := by omega
    obtain ⟨f, hf, hf2⟩ := rg_99 (hV.2.2.2.2.2.1 b hb8)
    obtain ⟨mm, hm1, hm2⟩ := rg_n 23 (by omega) (hm b hb8)
    by_cases hco : isOfB (M (30 + b) 0) 3 = true
    · by_cases hst : strk (M (30 + b) 0) (M (30 + b) 1) (M (30 + b) 6) w = true
      · have hbn : ∀ x : Nat, (if strk (M (30 + b) 0) (M (30 + b) 1) (M (30 + b) 6) w = true then x else 0) = x := fun x => if_pos hst
        refine V.aload_n dX9_chance_0 rfl (i := 0) rfl ?_
        refine V.iload_n dX9_chance_1 rfl (i := 1) rfl ?_
        refine V.invv (z := mX9_isBell) (As := [_]) dX9_chance_2 rfl mlRX9_118 okX9_isBell npX9_isBell rfl rfl rfl ⟨by decide, by decide⟩ (Nat.le_of_ble_eq_true rfl) rfl (Nat.le_of_ble_eq_true rfl) (c_isBell   ?_)
        show V cS g (d + 5) mX9_chance 5 [some (.ref 0), some (.int (nI b)), some (.int w), some (.int v), none, none, none, none, none, none] [.int (b2i (0 ≤ (nI b) ∧ (nI b) < M 1 2 ∧ (nI b) < 8))] (M) Q
        refine V.if_eq (tgt := 22) dX9_chance_5 (by decide) (fun q => absurd q ((fun z => b2i_0.mp z h.1))) (fun c5 => ?_)
        refine V.iload_n dX9_chance_8 rfl (i := 2) rfl ?_
        refine V.invs (z := mX9_isHour) (As := [_]) dX9_chance_9 rfl mlRX9_138 okX9_isHour npX9_isHour rfl (Nat.le_of_ble_eq_true rfl) rfl (Nat.le_of_ble_eq_true rfl) (c_isHour   ?_)
        show V cS g (d + 5) mX9_chance 12 [some (.ref 0), some (.int (nI b)), some (.int w), some (.int v), none, none, none, none, none, none] [.int (b2i (0 ≤ w ∧ w ≤ 23))] ((M)) Q
        refine V.if_eq (tgt := 22) dX9_chance_12 (by decide) (fun q => absurd q ((fun z => b2i_0.mp z h.2.1))) (fun c12 => ?_)
        refine V.iload_n dX9_chance_15 rfl (i := 3) rfl ?_
        refine V.invs (z := mX9_isEither) (As := [_]) dX9_chance_16 rfl mlRX9_225 okX9_isEither npX9_isEither rfl (Nat.le_of_ble_eq_true rfl) rfl (Nat.le_of_ble_eq_true rfl) (c_isEither   ?_)
        show V cS g (d + 5) mX9_chance 19 [some (.ref 0), some (.int (nI b)), some (.int w), some (.int v), none, none, none, none, none, none] [.int (b2i (0 ≤ v ∧ v ≤ 1))] (((M))) Q
        refine V.if_ne (tgt := 29) dX9_chance_19 (by decide) (fun c19 => ?_) (fun q => absurd q ((fun z => b2i_0.mp z h.2.2)))
        refine V.aload_n dX9_chance_29 rfl (i := 0) rfl ?_
        refine V.getR dX9_chance_30 rfl flRX9_12 rfl ⟨by decide, by decide⟩ ?_
        refine V.getR dX9_chance_33 rfl flRX9_108 rfl ⟨by decide, by decide⟩ ?_
        refine V.iload_n dX9_chance_36 rfl (i := 1) rfl ?_
        refine V.aaldBN dX9_chance_37 rfl ⟨by decide, by decide⟩ (by first | assumption | decide | omega) (by decide) ?_
        refine V.astore dX9_chance_38 (i := 4) (by decide) (fun _ h => by cases h; exact Or.inl rfl) rfl ?_
        refine V.aload dX9_chance_40 rfl ?_
        refine V.iconst dX9_chance_42 (v := 3) (by decide) ?_
        refine V.invv (z := mX0_isOf) (As := [_]) dX9_chance_43 rfl mlRX9_131 okX0_isOf npX0_isOf rfl (layO30 (by first | assumption | decide | omega)) rfl (inB30 (by first | assumption | decide | omega)) (Nat.le_of_ble_eq_true rfl) rfl (Nat.le_of_ble_eq_true rfl) (c_isOf hb8 (hk b hb8) (by decide) ?_)
        show V cS g (d + 5) mX9_chance 46 [some (.ref 0), some (.int (nI b)), some (.int w), some (.int v), some (.ref (30 + b)), none, none, none, none, none] [.int (b2i (isOfB (M (30 + b) 0) 3 = true))] M Q
        refine V.if_ne (tgt := 56) dX9_chance_46 (by decide) (fun c46 => ?_) (fun q => absurd q ((fun z => b2i_0.mp z hco)))
        refine V.iconst dX9_chance_56 (v := 0) (by decide) ?_
        refine V.aload dX9_chance_57 rfl ?_
        refine V.getI dX9_chance_59 rfl flRX9_170 (fkB30 (by first | assumption | decide | omega) (by decide)) (inB30 (by first | assumption | decide | omega)) ?_
        refine V.top (x' := (nI f)) (hf2) ?_
        refine V.aload dX9_chance_62 rfl ?_
        refine V.getI dX9_chance_64 rfl flRX9_282 (fkB30 (by first | assumption | decide | omega) (by decide)) (inB30 (by first | assumption | decide | omega)) ?_
        refine V.top (x' := (nI mm)) (hm2) ?_
        refine V.isub dX9_chance_67 ?_
        refine V.mmax dX9_chance_68 rfl mlRX9_285 (Nat.le_of_ble_eq_true rfl) ?_
        refine V.top (x' := (nI (f - mm))) ((mxs (by omega) (by omega))) ?_
        refine V.istore dX9_chance_71 (i := 5) (by decide) (fun _ h => by cases h; exact Or.inl rfl) rfl ?_
        refine V.bipush dX9_chance_73 (v := 99) (by decide) ?_
        refine V.aload dX9_chance_75 rfl ?_
        refine V.getI dX9_chance_77 rfl flRX9_170 (fkB30 (by first | assumption | decide | omega) (by decide)) (inB30 (by first | assumption | decide | omega)) ?_
        refine V.top (x' := (nI f)) (hf2) ?_
        refine V.aload dX9_chance_80 rfl ?_
        refine V.getI dX9_chance_82 rfl flRX9_282 (fkB30 (by first | assumption | decide | omega) (by decide)) (inB30 (by first | assumption | decide | omega)) ?_
        refine V.top (x' := (nI mm)) (hm2) ?_
        refine V.iadd dX9_chance_85 ?_
        refine V.top (x' := (nI (f + mm))) (nI_add f mm) ?_
        refine V.mmin dX9_chance_86 rfl mlRX9_288 (Nat.le_of_ble_eq_true rfl) ?_
        refine V.top (x' := (nI (min 99 (f + mm)))) ((mns (by omega))) ?_
        refine V.istore dX9_chance_89 (i := 6) (by decide) (fun _ h => by cases h; exact Or.inl rfl) rfl ?_
        refine V.aload_n dX9_chance_91 rfl (i := 0) rfl ?_
        refine V.getR dX9_chance_92 rfl flRX9_31 rfl ⟨by decide, by decide⟩ ?_
        refine V.iload_n dX9_chance_95 rfl (i := 2) rfl ?_
        refine V.aload_n dX9_chance_96 rfl (i := 0) rfl ?_
        refine V.getR dX9_chance_97 rfl flRX9_12 rfl ⟨by decide, by decide⟩ ?_
        refine V.getI dX9_chance_100 rfl flRX9_94 rfl ⟨by decide, by decide⟩ ?_
        refine V.invv (z := mX1_listen) (As := [_, _]) dX9_chance_103 rfl mlRX9_195 okX1_listen npX1_listen rfl rfl rfl ⟨by decide, by decide⟩ (Nat.le_of_ble_eq_true rfl) rfl (Nat.le_of_ble_eq_true rfl) (c_listen hV (fun M1 hM1 hH1 => ?_))
        show V cS g (d + 5) mX9_chance 106 [some (.ref 0), some (.int (nI b)), some (.int w), some (.int v), some (.ref (30 + b)), some (.int (nI (f - mm))), some (.int (nI (min 99 (f + mm)))), none, none, none] [] M1 Q
        have hcb := cB_le (fun j => anB (cfP M1 (hpH M w) (wyH M) n b (nI ((f - mm) + j))) ne) ((min 99 (f + mm)) + 1 - (f - mm))
        refine V.aload dX9_chance_106 rfl ?_
        refine V.iload_n dX9_chance_108 rfl (i := 2) rfl ?_
        refine V.invv (z := mX0_ringsAt) (As := [_]) dX9_chance_109 rfl mlRX9_141 okX0_ringsAt npX0_ringsAt rfl (layO30 (by first | assumption | decide | omega)) rfl (inB30 (by first | assumption | decide | omega)) (Nat.le_of_ble_eq_true rfl) rfl (Nat.le_of_ble_eq_true rfl) (c_ringsAt  (by first | assumption | decide | omega) ?_)
        show V cS g (d + 5) mX9_chance 112 [some (.ref 0), some (.int (nI b)), some (.int w), some (.int v), some (.ref (30 + b)), some (.int (nI (f - mm))), some (.int (nI (min 99 (f + mm)))), none, none, none] [.int (b2i (strk (M1 (30 + b) 0) (M1 (30 + b) 1) (M1 (30 + b) 6) w = true))] (M1) Q
        refine V.top (x' := (b2i (strk (M (30 + b) 0) (M (30 + b) 1) (M (30 + b) 6) w = true))) ((by rw [hM1 (30 + b) (sH30 hb8)])) ?_
        refine V.if_eq (tgt := 130) dX9_chance_112 (by decide) (fun q => absurd q ((fun z => b2i_0.mp z hst))) (fun c112 => ?_)
        refine V.aload_n dX9_chance_115 rfl (i := 0) rfl ?_
        refine V.getR dX9_chance_116 rfl flRX9_47 rfl ⟨by decide, by decide⟩ ?_
        refine V.iload_n dX9_chance_119 rfl (i := 1) rfl ?_
        refine V.iload dX9_chance_120 rfl ?_
        refine V.iload dX9_chance_122 rfl ?_
        refine V.invv (z := mX6_clashingSpots) (As := [_, _, _]) dX9_chance_124 rfl mlRX9_291 okX6_clashingSpots npX6_clashingSpots rfl rfl rfl ⟨by decide, by decide⟩ (Nat.le_of_ble_eq_true rfl) rfl (Nat.le_of_ble_eq_true rfl) (c_cks (hV.eq hM1 (by decide) (by decide) (by decide) (fun b hb => by simp; omega)) hH1 hb (f := (f - mm)) (l := (min 99 (f + mm))) (by omega) (by omega) (fun M2 hM2 => ?_))
        show V cS g (d + 5) mX9_chance 127 [some (.ref 0), some (.int (nI b)), some (.int w), some (.int v), some (.ref (30 + b)), some (.int (nI (f - mm))), some (.int (nI (min 99 (f + mm)))), none, none, none] [.int (nI (cB (fun j => anB (cfP M1 (hpH M w) (wyH M) n b (nI ((f - mm) + j))) ne) ((min 99 (f + mm)) + 1 - (f - mm))))] M2 Q
        refine V.goto dX9_chance_127 (tgt := 131) (by decide) ?_
        refine V.istore dX9_chance_131 (i := 7) (by decide) (fun _ h => by cases h; exact Or.inl rfl) rfl ?_
        refine V.iload dX9_chance_133 rfl ?_
        refine V.iload dX9_chance_135 rfl ?_
        refine V.isub dX9_chance_137 ?_
        refine V.iconst dX9_chance_138 (v := 1) (by decide) ?_
        refine V.iadd dX9_chance_139 ?_
        refine V.top (x' := (nI ((min 99 (f + mm)) - (f - mm) + 1))) ((by rw [pk_sub (by omega), nI_1])) ?_
        refine V.istore dX9_chance_140 (i := 8) (by decide) (fun _ h => by cases h; exact Or.inl rfl) rfl ?_
        refine V.iload dX9_chance_142 rfl ?_
        refine V.iload dX9_chance_144 rfl ?_
        refine V.invs (z := mX9_commonDivisor) (As := [_, _]) dX9_chance_146 rfl mlRX9_294 okX9_commonDivisor npX9_commonDivisor rfl (Nat.le_of_ble_eq_true rfl) rfl (Nat.le_of_ble_eq_true rfl) (c_commonDivisor (a := ((min 99 (f + mm)) - (f - mm) + 1)) (b := (cB (fun j => anB (cfP M1 (hpH M w) (wyH M) n b (nI ((f - mm) + j))) ne) ((min 99 (f + mm)) + 1 - (f - mm)))) (by omega) (by omega) ?_)
        show V cS g (d + 5) mX9_chance 149 [some (.ref 0), some (.int (nI b)), some (.int w), some (.int v), some (.ref (30 + b)), some (.int (nI (f - mm))), some (.int (nI (min 99 (f + mm)))), some (.int (nI (cB (fun j => anB (cfP M1 (hpH M w) (wyH M) n b (nI ((f - mm) + j))) ne) ((min 99 (f + mm)) + 1 - (f - mm))))), some (.int (nI ((min 99 (f + mm)) - (f - mm) + 1))), none] [.int (nI (Nat.gcd ((min 99 (f + mm)) - (f - mm) + 1) (cB (fun j => anB (cfP M1 (hpH M w) (wyH M) n b (nI ((f - mm) + j))) ne) ((min 99 (f + mm)) + 1 - (f - mm)))))] M2 Q
        refine V.istore dX9_chance_149 (i := 9) (by decide) (fun _ h => by cases h; exact Or.inl rfl) rfl ?_
        refine V.iload dX9_chance_151 rfl ?_
        refine V.if_ne (tgt := 158) dX9_chance_153 (by decide) (fun c153 => ?_) (fun q => absurd q ((nI_ne0 (Nat.gcd_pos_of_pos_left _ (by omega)) (Nat.lt_of_le_of_lt (Nat.gcd_le_left _ (by omega)) (by omega)))))
        refine V.iload_n dX9_chance_158 rfl (i := 3) rfl ?_
        refine V.if_ne (tgt := 170) dX9_chance_159 (by decide) (fun c159 => ?_) (fun c159 => ?_)
        · refine V.iload dX9_chance_170 rfl ?_
          refine V.iload dX9_chance_172 rfl ?_
          refine V.idiv dX9_chance_174 (nI_ne0 (Nat.gcd_pos_of_pos_left _ (by omega)) (Nat.lt_of_le_of_lt (Nat.gcd_le_left _ (by omega)) (by omega))) ?_
          exact V.ret dX9_chance_175 rfl (Qi (hok h b f mm hb rfl hf hm1 hf2 hm2 hco M1 M2 hM1 (hM1.tr (hM2.up (by decide)))) (by simp only [hbn]; first | (rw [if_pos c159]; exact pk_div (a := (cB (fun j => anB (cfP M1 (hpH M w) (wyH M) n b (nI ((f - mm) + j))) ne) ((min 99 (f + mm)) + 1 - (f - mm)))) (by omega) (Nat.gcd_pos_of_pos_left _ (by omega)) (Nat.lt_of_le_of_lt (Nat.gcd_le_left _ (by omega)) (by omega))) | (rw [if_neg c159]; exact pk_div (a := ((min 99 (f + mm)) - (f - mm) + 1)) (by omega) (Nat.gcd_pos_of_pos_left _ (by omega)) (Nat.lt_of_le_of_lt (Nat.gcd_le_left _ (by omega)) (by omega)))))
        · refine V.iload dX9_chance_162 rfl ?_
          refine V.iload dX9_chance_164 rfl ?_
          refine V.idiv dX9_chance_166 (nI_ne0 (Nat.gcd_pos_of_pos_left _ (by omega)) (Nat.lt_of_le_of_lt (Nat.gcd_le_left _ (by omega)) (by omega))) ?_
          refine V.goto dX9_chance_167 (tgt := 175) (by decide) ?_
          exact V.ret dX9_chance_175 rfl (Qi (hok h b f mm hb rfl hf hm1 hf2 hm2 hco M1 M2 hM1 (hM1.tr (hM2.up (by decide)))) (by simp only [hbn]; first | (rw [if_pos c159]; exact pk_div (a := (cB (fun j => anB (cfP M1 (hpH M w) (wyH M) n b (nI ((f - mm) + j))) ne) ((min 99 (f + mm)) + 1 - (f - mm)))) (by omega) (Nat.gcd_pos_of_pos_left _ (by omega)) (Nat.lt_of_le_of_lt (Nat.gcd_le_left _ (by omega)) (by omega))) | (rw [if_neg c159]; exact pk_div (a := ((min 99 (f + mm)) - (f - mm) + 1)) (by omega) (Nat.gcd_pos_of_pos_left _ (by omega)) (Nat.lt_of_le_of_lt (Nat.gcd_le_left _ (by omega)) (by omega)))))
      · have hbn : ∀ x : Nat, (if strk (M (30 + b) 0) (M (30 + b) 1) (M (30 + b) 6) w = true then x else 0) = 0 := fun x => if_neg hst
        refine V.aload_n dX9_chance_0 rfl (i := 0) rfl ?_
        refine V.iload_n dX9_chance_1 rfl (i := 1) rfl ?_
        refine V.invv (z := mX9_isBell) (As := [_]) dX9_chance_2 rfl mlRX9_118 okX9_isBell npX9_isBell rfl rfl rfl ⟨by decide, by decide⟩ (Nat.le_of_ble_eq_true rfl) rfl (Nat.le_of_ble_eq_true rfl) (c_isBell   ?_)
        show V cS g (d + 5) mX9_chance 5 [some (.ref 0), some (.int (nI b)), some (.int w), some (.int v), none, none, none, none, none, none] [.int (b2i (0 ≤ (nI b) ∧ (nI b) < M 1 2 ∧ (nI b) < 8))] (M) Q
        refine V.if_eq (tgt := 22) dX9_chance_5 (by decide) (fun q => absurd q ((fun z => b2i_0.mp z h.1))) (fun c5 => ?_)
        refine V.iload_n dX9_chance_8 rfl (i := 2) rfl ?_
        refine V.invs (z := mX9_isHour) (As := [_]) dX9_chance_9 rfl mlRX9_138 okX9_isHour npX9_isHour rfl (Nat.le_of_ble_eq_true rfl) rfl (Nat.le_of_ble_eq_true rfl) (c_isHour   ?_)
        show V cS g (d + 5) mX9_chance 12 [some (.ref 0), some (.int (nI b)), some (.int w), some (.int v), none, none, none, none, none, none] [.int (b2i (0 ≤ w ∧ w ≤ 23))] ((M)) Q
        refine V.if_eq (tgt := 22) dX9_chance_12 (by decide) (fun q => absurd q ((fun z => b2i_0.mp z h.2.1))) (fun c12 => ?_)
        refine V.iload_n dX9_chance_15 rfl (i := 3) rfl ?_
        refine V.invs (z := mX9_isEither) (As := [_]) dX9_chance_16 rfl mlRX9_225 okX9_isEither npX9_isEither rfl (Nat.le_of_ble_eq_true rfl) rfl (Nat.le_of_ble_eq_true rfl) (c_isEither   ?_)
        show V cS g (d + 5) mX9_chance 19 [some (.ref 0), some (.int (nI b)), some (.int w), some (.int v), none, none, none, none, none, none] [.int (b2i (0 ≤ v ∧ v ≤ 1))] (((M))) Q
        refine V.if_ne (tgt := 29) dX9_chance_19 (by decide) (fun c19 => ?_) (fun q => absurd q ((fun z => b2i_0.mp z h.2.2)))
        refine V.aload_n dX9_chance_29 rfl (i := 0) rfl ?_
        refine V.getR dX9_chance_30 rfl flRX9_12 rfl ⟨by decide, by decide⟩ ?_
        refine V.getR dX9_chance_33 rfl flRX9_108 rfl ⟨by decide, by decide⟩ ?_
        refine V.iload_n dX9_chance_36 rfl (i := 1) rfl ?_
        refine V.aaldBN dX9_chance_37 rfl ⟨by decide, by decide⟩ (by first | assumption | decide | omega) (by decide) ?_
        refine V.astore dX9_chance_38 (i := 4) (by decide) (fun _ h => by cases h; exact Or.inl rfl) rfl ?_
        refine V.aload dX9_chance_40 rfl ?_
        refine V.iconst dX9_chance_42 (v := 3) (by decide) ?_
        refine V.invv (z := mX0_isOf) (As := [_]) dX9_chance_43 rfl mlRX9_131 okX0_isOf npX0_isOf rfl (layO30 (by first | assumption | decide | omega)) rfl (inB30 (by first | assumption | decide | omega)) (Nat.le_of_ble_eq_true rfl) rfl (Nat.le_of_ble_eq_true rfl) (c_isOf hb8 (hk b hb8) (by decide) ?_)
        show V cS g (d + 5) mX9_chance 46 [some (.ref 0), some (.int (nI b)), some (.int w), some (.int v), some (.ref (30 + b)), none, none, none, none, none] [.int (b2i (isOfB (M (30 + b) 0) 3 = true))] M Q
        refine V.if_ne (tgt := 56) dX9_chance_46 (by decide) (fun c46 => ?_) (fun q => absurd q ((fun z => b2i_0.mp z hco)))
        refine V.iconst dX9_chance_56 (v := 0) (by decide) ?_
        refine V.aload dX9_chance_57 rfl ?_
        refine V.getI dX9_chance_59 rfl flRX9_170 (fkB30 (by first | assumption | decide | omega) (by decide)) (inB30 (by first | assumption | decide | omega)) ?_
        refine V.top (x' := (nI f)) (hf2) ?_
        refine V.aload dX9_chance_62 rfl ?_
        refine V.getI dX9_chance_64 rfl flRX9_282 (fkB30 (by first | assumption | decide | omega) (by decide)) (inB30 (by first | assumption | decide | omega)) ?_
        refine V.top (x' := (nI mm)) (hm2) ?_
        refine V.isub dX9_chance_67 ?_
        refine V.mmax dX9_chance_68 rfl mlRX9_285 (Nat.le_of_ble_eq_true rfl) ?_
        refine V.top (x' := (nI (f - mm))) ((mxs (by omega) (by omega))) ?_
        refine V.istore dX9_chance_71 (i := 5) (by decide) (fun _ h => by cases h; exact Or.inl rfl) rfl ?_
        refine V.bipush dX9_chance_73 (v := 99) (by decide) ?_
        refine V.aload dX9_chance_75 rfl ?_
        refine V.getI dX9_chance_77 rfl flRX9_170 (fkB30 (by first | assumption | decide | omega) (by decide)) (inB30 (by first | assumption | decide | omega)) ?_
        refine V.top (x' := (nI f)) (hf2) ?_
        refine V.aload dX9_chance_80 rfl ?_
        refine V.getI dX9_chance_82 rfl flRX9_282 (fkB30 (by first | assumption | decide | omega) (by decide)) (inB30 (by first | assumption | decide | omega)) ?_
        refine V.top (x' := (nI mm)) (hm2) ?_
        refine V.iadd dX9_chance_85 ?_
        refine V.top (x' := (nI (f + mm))) (nI_add f mm) ?_
        refine V.mmin dX9_chance_86 rfl mlRX9_288 (Nat.le_of_ble_eq_true rfl) ?_
        refine V.top (x' := (nI (min 99 (f + mm)))) ((mns (by omega))) ?_
        refine V.istore dX9_chance_89 (i := 6) (by decide) (fun _ h => by cases h; exact Or.inl rfl) rfl ?_
        refine V.aload_n dX9_chance_91 rfl (i := 0) rfl ?_
        refine V.getR dX9_chance_92 rfl flRX9_31 rfl ⟨by decide, by decide⟩ ?_
        refine V.iload_n dX9_chance_95 rfl (i := 2) rfl ?_
        refine V.aload_n dX9_chance_96 rfl (i := 0) rfl ?_
        refine V.getR dX9_chance_97 rfl flRX9_12 rfl ⟨by decide, by decide⟩ ?_
        refine V.getI dX9_chance_100 rfl flRX9_94 rfl ⟨by decide, by decide⟩ ?_
        refine V.invv (z := mX1_listen) (As := [_, _]) dX9_chance_103 rfl mlRX9_195 okX1_listen npX1_listen rfl rfl rfl ⟨by decide, by decide⟩ (Nat.le_of_ble_eq_true rfl) rfl (Nat.le_of_ble_eq_true rfl) (c_listen hV (fun M1 hM1 hH1 => ?_))
        show V cS g (d + 5) mX9_chance 106 [some (.ref 0), some (.int (nI b)), some (.int w), some (.int v), some (.ref (30 + b)), some (.int (nI (f - mm))), some (.int (nI (min 99 (f + mm)))), none, none, none] [] M1 Q
        have hcb := cB_le (fun j => anB (cfP M1 (hpH M w) (wyH M) n b (nI ((f - mm) + j))) ne) ((min 99 (f + mm)) + 1 - (f - mm))
        refine V.aload dX9_chance_106 rfl ?_
        refine V.iload_n dX9_chance_108 rfl (i := 2) rfl ?_
        refine V.invv (z := mX0_ringsAt) (As := [_]) dX9_chance_109 rfl mlRX9_141 okX0_ringsAt npX0_ringsAt rfl (layO30 (by first | assumption | decide | omega)) rfl (inB30 (by first | assumption | decide | omega)) (Nat.le_of_ble_eq_true rfl) rfl (Nat.le_of_ble_eq_true rfl) (c_ringsAt  (by first | assumption | decide | omega) ?_)
        show V cS g (d + 5) mX9_chance 112 [some (.ref 0), some (.int (nI b)), some (.int w), some (.int v), some (.ref (30 + b)), some (.int (nI (f - mm))), some (.int (nI (min 99 (f + mm)))), none, none, none] [.int (b2i (strk (M1 (30 + b) 0) (M1 (30 + b) 1) (M1 (30 + b) 6) w = true))] (M1) Q
        refine V.top (x' := (b2i (strk (M (30 + b) 0) (M (30 + b) 1) (M (30 + b) 6) w = true))) ((by rw [hM1 (30 + b) (sH30 hb8)])) ?_
        refine V.if_eq (tgt := 130) dX9_chance_112 (by decide) (fun c112 => ?_) (fun q => absurd ((b2i_f hst)) q)
        refine V.iconst dX9_chance_130 (v := 0) (by decide) ?_
        refine V.istore dX9_chance_131 (i := 7) (by decide) (fun _ h => by cases h; exact Or.inl rfl) rfl ?_
        refine V.iload dX9_chance_133 rfl ?_
        refine V.iload dX9_chance_135 rfl ?_
        refine V.isub dX9_chance_137 ?_
        refine V.iconst dX9_chance_138 (v := 1) (by decide) ?_
        refine V.iadd dX9_chance_139 ?_
        refine V.top (x' := (nI ((min 99 (f + mm)) - (f - mm) + 1))) ((by rw [pk_sub (by omega), nI_1])) ?_
        refine V.istore dX9_chance_140 (i := 8) (by decide) (fun _ h => by cases h; exact Or.inl rfl) rfl ?_
        refine V.iload dX9_chance_142 rfl ?_
        refine V.iload dX9_chance_144 rfl ?_
        refine V.invs (z := mX9_commonDivisor) (As := [_, _]) dX9_chance_146 rfl mlRX9_294 okX9_commonDivisor npX9_commonDivisor rfl (Nat.le_of_ble_eq_true rfl) rfl (Nat.le_of_ble_eq_true rfl) (c_commonDivisor (a := ((min 99 (f + mm)) - (f - mm) + 1)) (b := 0) (by omega) (by omega) ?_)
        show V cS g (d + 5) mX9_chance 149 [some (.ref 0), some (.int (nI b)), some (.int w), some (.int v), some (.ref (30 + b)), some (.int (nI (f - mm))), some (.int (nI (min 99 (f + mm)))), some (.int (0 : Int32)), some (.int (nI ((min 99 (f + mm)) - (f - mm) + 1))), none] [.int (nI (Nat.gcd ((min 99 (f + mm)) - (f - mm) + 1) 0))] M1 Q
        refine V.istore dX9_chance_149 (i := 9) (by decide) (fun _ h => by cases h; exact Or.inl rfl) rfl ?_
        refine V.iload dX9_chance_151 rfl ?_
        refine V.if_ne (tgt := 158) dX9_chance_153 (by decide) (fun c153 => ?_) (fun q => absurd q ((nI_ne0 (Nat.gcd_pos_of_pos_left _ (by omega)) (Nat.lt_of_le_of_lt (Nat.gcd_le_left _ (by omega)) (by omega)))))
        refine V.iload_n dX9_chance_158 rfl (i := 3) rfl ?_
        refine V.if_ne (tgt := 170) dX9_chance_159 (by decide) (fun c159 => ?_) (fun c159 => ?_)
        · refine V.iload dX9_chance_170 rfl ?_
          refine V.iload dX9_chance_172 rfl ?_
          refine V.idiv dX9_chance_174 (nI_ne0 (Nat.gcd_pos_of_pos_left _ (by omega)) (Nat.lt_of_le_of_lt (Nat.gcd_le_left _ (by omega)) (by omega))) ?_
          exact V.ret dX9_chance_175 rfl (Qi (hok h b f mm hb rfl hf hm1 hf2 hm2 hco M1 M1 hM1 hM1) (by simp only [hbn]; first | (rw [if_pos c159]; exact pk_div (a := 0) (by omega) (Nat.gcd_pos_of_pos_left _ (by omega)) (Nat.lt_of_le_of_lt (Nat.gcd_le_left _ (by omega)) (by omega))) | (rw [if_neg c159]; exact pk_div (a := ((min 99 (f + mm)) - (f - mm) + 1)) (by omega) (Nat.gcd_pos_of_pos_left _ (by omega)) (Nat.lt_of_le_of_lt (Nat.gcd_le_left _ (by omega)) (by omega)))))
        · refine V.iload dX9_chance_162 rfl ?_
          refine V.iload dX9_chance_164 rfl ?_
          refine V.idiv dX9_chance_166 (nI_ne0 (Nat.gcd_pos_of_pos_left _ (by omega)) (Nat.lt_of_le_of_lt (Nat.gcd_le_left _ (by omega)) (by omega))) ?_
          refine V.goto dX9_chance_167 (tgt := 175) (by decide) ?_
          exact V.ret dX9_chance_175 rfl (Qi (hok h b f mm hb rfl hf hm1 hf2 hm2 hco M1 M1 hM1 hM1) (by simp only [hbn]; first | (rw [if_pos c159]; exact pk_div (a := 0) (by omega) (Nat.gcd_pos_of_pos_left _ (by omega)) (Nat.lt_of_le_of_lt (Nat.gcd_le_left _ (by omega)) (by omega))) | (rw [if_neg c159]; exact pk_div (a := ((min 99 (f + mm)) - (f - mm) + 1)) (by omega) (Nat.gcd_pos_of_pos_left _ (by omega)) (Nat.lt_of_le_of_lt (Nat.gcd_le_left _ (by omega)) (by omega)))))
    · skip
      refine V.aload_n dX9_chance_0 rfl (i := 0) rfl ?_
      refine V.iload_n dX9_chance_1 rfl (i := 1) rfl ?_
      refine V.invv (z := mX9_isBell) (As := [_]) dX9_chance_2 rfl mlRX9_118 okX9_isBell npX9_isBell rfl rfl rfl ⟨by decide, by decide⟩ (Nat.le_of_ble_eq_true rfl) rfl (Nat.le_of_ble_eq_true rfl) (c_isBell   ?_)
      show V cS g (d + 5) mX9_chance 5 [some (.ref 0), some (.int (nI b)), some (.int w), some (.int v), none, none, none, none, none, none] [.int (b2i (0 ≤ (nI b) ∧ (nI b) < M 1 2 ∧ (nI b) < 8))] (M) Q
      refine V.if_eq (tgt := 22) dX9_chance_5 (by decide) (fun q => absurd q ((fun z => b2i_0.mp z h.1))) (fun c5 => ?_)
      refine V.iload_n dX9_chance_8 rfl (i := 2) rfl ?_
      refine V.invs (z := mX9_isHour) (As := [_]) dX9_chance_9 rfl mlRX9_138 okX9_isHour npX9_isHour rfl (Nat.le_of_ble_eq_true rfl) rfl (Nat.le_of_ble_eq_true rfl) (c_isHour   ?_)
      show V cS g (d + 5) mX9_chance 12 [some (.ref 0), some (.int (nI b)), some (.int w), some (.int v), none, none, none, none, none, none] [.int (b2i (0 ≤ w ∧ w ≤ 23))] ((M)) Q
      refine V.if_eq (tgt := 22) dX9_chance_12 (by decide) (fun q => absurd q ((fun z => b2i_0.mp z h.2.1))) (fun c12 => ?_)
      refine V.iload_n dX9_chance_15 rfl (i := 3) rfl ?_
      refine V.invs (z := mX9_isEither) (As := [_]) dX9_chance_16 rfl mlRX9_225 okX9_isEither npX9_isEither rfl (Nat.le_of_ble_eq_true rfl) rfl (Nat.le_of_ble_eq_true rfl) (c_isEither   ?_)
      show V cS g (d + 5) mX9_chance 19 [some (.ref 0), some (.int (nI b)), some (.int w), some (.int v), none, none, none, none, none, none] [.int (b2i (0 ≤ v ∧ v ≤ 1))] (((M))) Q
      refine V.if_ne (tgt := 29) dX9_chance_19 (by decide) (fun c19 => ?_) (fun q => absurd q ((fun z => b2i_0.mp z h.2.2)))
      refine V.aload_n dX9_chance_29 rfl (i := 0) rfl ?_
      refine V.getR dX9_chance_30 rfl flRX9_12 rfl ⟨by decide, by decide⟩ ?_
      refine V.getR dX9_chance_33 rfl flRX9_108 rfl ⟨by decide, by decide⟩ ?_
      refine V.iload_n dX9_chance_36 rfl (i := 1) rfl ?_
      refine V.aaldBN dX9_chance_37 rfl ⟨by decide, by decide⟩ (by first | assumption | decide | omega) (by decide) ?_
      refine V.astore dX9_chance_38 (i := 4) (by decide) (fun _ h => by cases h; exact Or.inl rfl) rfl ?_
      refine V.aload dX9_chance_40 rfl ?_
      refine V.iconst dX9_chance_42 (v := 3) (by decide) ?_
      refine V.invv (z := mX0_isOf) (As := [_]) dX9_chance_43 rfl mlRX9_131 okX0_isOf npX0_isOf rfl (layO30 (by first | assumption | decide | omega)) rfl (inB30 (by first | assumption | decide | omega)) (Nat.le_of_ble_eq_true rfl) rfl (Nat.le_of_ble_eq_true rfl) (c_isOf hb8 (hk b hb8) (by decide) ?_)
      show V cS g (d + 5) mX9_chance 46 [some (.ref 0), some (.int (nI b)), some (.int w), some (.int v), some (.ref (30 + b)), none, none, none, none, none] [.int (b2i (isOfB (M (30 + b) 0) 3 = true))] M Q
      refine V.if_ne (tgt := 56) dX9_chance_46 (by decide) (fun q => absurd ((b2i_f hco)) q) (fun c46 => ?_)
      refine V.aload_n dX9_chance_49 rfl (i := 0) rfl ?_
      refine V.ldc dX9_chance_50 rfl ctRX9_134 ?_
      refine V.invv (z := mX9_error) (As := [_]) dX9_chance_52 rfl mlRX9_82 okX9_error npX9_error rfl rfl rfl ⟨by decide, by decide⟩ (Nat.le_of_ble_eq_true rfl) rfl (Nat.le_of_ble_eq_true rfl) (c_err5   ?_)
      show V cS g (d + 5) mX9_chance 55 [some (.ref 0), some (.int (nI b)), some (.int w), some (.int v), some (.ref (30 + b)), none, none, none, none, none] [.int (-1000000005 : Int32)] (put M 9 5 (M 9 5 + 1)) Q
      exact V.ret dX9_chance_55 rfl (hkind h b hb rfl (Bool.eq_false_iff.mpr hco))
  · skip
    refine V.aload_n dX9_chance_0 rfl (i := 0) rfl ?_
    refine V.iload_n dX9_chance_1 rfl (i := 1) rfl ?_
    refine V.invv (z := mX9_isBell) (As := [_]) dX9_chance_2 rfl mlRX9_118 okX9_isBell npX9_isBell rfl rfl rfl ⟨by decide, by decide⟩ (Nat.le_of_ble_eq_true rfl) rfl (Nat.le_of_ble_eq_true rfl) (c_isBell   ?_)
    show V cS g (d + 5) mX9_chance 5 [some (.ref 0), some (.int a), some (.int w), some (.int v), none, none, none, none, none, none] [.int (b2i (0 ≤ a ∧ a < M 1 2 ∧ a < 8))] (M) Q
    refine V.if_eq (tgt := 22) dX9_chance_5 (by decide) (fun c5 => ?_) (fun c5 => ?_)
    · refine V.aload_n dX9_chance_22 rfl (i := 0) rfl ?_
      refine V.ldc dX9_chance_23 rfl ctRX9_81 ?_
      refine V.invv (z := mX9_error) (As := [_]) dX9_chance_25 rfl mlRX9_82 okX9_error npX9_error rfl rfl rfl ⟨by decide, by decide⟩ (Nat.le_of_ble_eq_true rfl) rfl (Nat.le_of_ble_eq_true rfl) (c_err1   ?_)
      show V cS g (d + 5) mX9_chance 28 [some (.ref 0), some (.int a), some (.int w), some (.int v), none, none, none, none, none, none] [.int (-1000000001 : Int32)] (put (M) 9 1 ((M) 9 1 + 1)) Q
      exact V.ret dX9_chance_28 rfl (hbad h)
    · refine V.iload_n dX9_chance_8 rfl (i := 2) rfl ?_
      refine V.invs (z := mX9_isHour) (As := [_]) dX9_chance_9 rfl mlRX9_138 okX9_isHour npX9_isHour rfl (Nat.le_of_ble_eq_true rfl) rfl (Nat.le_of_ble_eq_true rfl) (c_isHour   ?_)
      show V cS g (d + 5) mX9_chance 12 [some (.ref 0), some (.int a), some (.int w), some (.int v), none, none, none, none, none, none] [.int (b2i (0 ≤ w ∧ w ≤ 23))] ((M)) Q
      refine V.if_eq (tgt := 22) dX9_chance_12 (by decide) (fun c12 => ?_) (fun c12 => ?_)
      · refine V.aload_n dX9_chance_22 rfl (i := 0) rfl ?_
        refine V.ldc dX9_chance_23 rfl ctRX9_81 ?_
        refine V.invv (z := mX9_error) (As := [_]) dX9_chance_25 rfl mlRX9_82 okX9_error npX9_error rfl rfl rfl ⟨by decide, by decide⟩ (Nat.le_of_ble_eq_true rfl) rfl (Nat.le_of_ble_eq_true rfl) (c_err1   ?_)
        show V cS g (d + 5) mX9_chance 28 [some (.ref 0), some (.int a), some (.int w), some (.int v), none, none, none, none, none, none] [.int (-1000000001 : Int32)] (put ((M)) 9 1 (((M)) 9 1 + 1)) Q
        exact V.ret dX9_chance_28 rfl (hbad h)
      · refine V.iload_n dX9_chance_15 rfl (i := 3) rfl ?_
        refine V.invs (z := mX9_isEither) (As := [_]) dX9_chance_16 rfl mlRX9_225 okX9_isEither npX9_isEither rfl (Nat.le_of_ble_eq_true rfl) rfl (Nat.le_of_ble_eq_true rfl) (c_isEither   ?_)
        show V cS g (d + 5) mX9_chance 19 [some (.ref 0), some (.int a), some (.int w), some (.int v), none, none, none, none, none, none] [.int (b2i (0 ≤ v ∧ v ≤ 1))] (((M))) Q
        refine V.if_ne (tgt := 29) dX9_chance_19 (by decide) (fun c19 => ?_) (fun c19 => ?_)
        · exact absurd ⟨(Classical.byContradiction fun z => c5 (b2i_f z)), (Classical.byContradiction fun z => c12 (b2i_f z)), (Classical.byContradiction fun z => c19 (b2i_f z))⟩ h
        · refine V.aload_n dX9_chance_22 rfl (i := 0) rfl ?_
          refine V.ldc dX9_chance_23 rfl ctRX9_81 ?_
          refine V.invv (z := mX9_error) (As := [_]) dX9_chance_25 rfl mlRX9_82 okX9_error npX9_error rfl rfl rfl ⟨by decide, by decide⟩ (Nat.le_of_ble_eq_true rfl) rfl (Nat.le_of_ble_eq_true rfl) (c_err1   ?_)
          show V cS g (d + 5) mX9_chance 28 [some (.ref 0), some (.int a), some (.int w), some (.int v), none, none, none, none, none, none] [.int (-1000000001 : Int32)] (put (((M))) 9 1 ((((M))) 9 1 + 1)) Q
          exact V.ret dX9_chance_28 rfl (hbad h)

