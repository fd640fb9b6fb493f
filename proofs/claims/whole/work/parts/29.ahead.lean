/-! ===== Valley: a spot ahead ===== -/
theorem dayF_out {G : Int32 → Int32 → Int32 → Int32} {K W : Nat → Int32} {q : ZS} {b : Nat} : ∀ n, n ≤ b → (dayF G K W n q).2 b = q.2 b
  | 0, _ => rfl
  | n + 1, h => by
    have ih := dayF_out (G := G) (K := K) (W := W) (q := q) (b := b) n (by omega)
    unfold dayF bst
    split
    · show (if b = n then _ else _) = _
      rw [if_neg (by omega), ih]
    · exact ih
theorem daysF_out {G : Int32 → Int32 → Int32 → Int32} {K W : Nat → Int32} {q : ZS} {n b : Nat} (h : n ≤ b) : ∀ t, (daysF G K W n t q).2 b = q.2 b
  | 0 => rfl
  | t + 1 => by rw [daysF, dayF_out n h, daysF_out h t]

set_option maxHeartbeats 4000000 in
set_option maxRecDepth 100000 in
theorem l_sv {g : GG} {d : Nat} {Q : Option Value → Mem → Prop} {M0 : Mem} {n : Nat} {N b : Int32} (hn : M0 1 2 = nI n) (h8 : n ≤ 8) (hc : ∀ M', eqx [17] M0 M' → (∀ x, x < n → M' 17 x = M0 (30 + x) 2) → V cS g d mX7_spotAhead 40 [some (.ref 1), some (.int N), some (.int b), some (.int (M0 1 12)), none, none] [] M' Q) : ∀ (k i : Nat) (M : Mem), i + k = n → eqx [17] M0 M → (∀ x, x < i → M 17 x = M0 (30 + x) 2) → V cS g d mX7_spotAhead 8 [some (.ref 1), some (.int N), some (.int b), some (.int (M0 1 12)), some (.int (nI i)), none] [] M Q := by
  intro k
  induction k with
  | zero =>
    intro i M hk he hM
    have hz : M 1 2 = nI n := by rw [he 1 (by decide)]; exact hn
    obtain rfl : i = n := by omega
    refine V.iload dX7_spotAhead_8 rfl ?_
    refine V.aload_n dX7_spotAhead_10 rfl (i := 0) rfl ?_
    refine V.getI dX7_spotAhead_11 rfl flRX7_64 rfl ⟨by decide, by decide⟩ ?_
    refine V.top (x' := (nI i)) (hz) ?_
    refine V.ic_ge (tgt := 40) dX7_spotAhead_14 (by decide) (fun c14 => ?_) (fun q => absurd ((Int32.le_refl _)) q)
    exact V.fg (ls' := [some (.ref 1), some (.int N), some (.int b), some (.int (M0 1 12)), none, none]) ⟨rfl, rfl, rfl, rfl, trivial⟩ (hc M he hM)
  | succ k ih =>
    intro i M hk he hM
    have hz : M 1 2 = nI n := by rw [he 1 (by decide)]; exact hn
    have hi8 : i < 8 := by omega
    refine V.iload dX7_spotAhead_8 rfl ?_
    refine V.aload_n dX7_spotAhead_10 rfl (i := 0) rfl ?_
    refine V.getI dX7_spotAhead_11 rfl flRX7_64 rfl ⟨by decide, by decide⟩ ?_
    refine V.top (x' := (nI n)) (hz) ?_
    refine V.ic_ge (tgt := 40) dX7_spotAhead_14 (by decide) (fun q => absurd q ((nI_ge (a := i) (b := n) (by omega) (by omega)))) (fun c14 => ?_)
    refine V.aload_n dX7_spotAhead_17 rfl (i := 0) rfl ?_
    refine V.getR dX7_spotAhead_18 rfl flRX7_50 rfl ⟨by decide, by decide⟩ ?_
    refine V.iload dX7_spotAhead_21 rfl ?_
    refine V.aload_n dX7_spotAhead_23 rfl (i := 0) rfl ?_
    refine V.getR dX7_spotAhead_24 rfl flRX7_17 rfl ⟨by decide, by decide⟩ ?_
    refine V.iload dX7_spotAhead_27 rfl ?_
    refine V.aaldBN dX7_spotAhead_29 rfl ⟨by decide, by decide⟩ (by first | assumption | decide | omega) (by decide) ?_
    refine V.getI dX7_spotAhead_30 rfl flRX7_108 (fkB30 (by first | assumption | decide | omega) (by decide)) (inB30 (by first | assumption | decide | omega)) ?_
    refine V.iastN dX7_spotAhead_33 rfl ⟨by decide, by decide⟩ (by first | assumption | decide | omega) (by decide) ?_
    refine V.iinc dX7_spotAhead_34 rfl (v := (nI (i + 1))) (nI_1 _) (by decide) (fun _ h => by cases h; exact Or.inl rfl) rfl ?_
    refine V.goto dX7_spotAhead_37 (tgt := 8) (by decide) ?_
    exact ih (i + 1) _ (by omega) (he.put (by decide)) (fun x hx => by by_cases q : x = i; subst q; rw [put_s, he (30 + x) (by simp; omega)]; rw [put_n (fun z => by omega)]; exact hM x (by omega))
set_option maxHeartbeats 4000000 in
set_option maxRecDepth 100000 in
theorem l_rs {g : GG} {d : Nat} {Q : Option Value → Mem → Prop} {M0 : Mem} {n : Nat} {N b s : Int32} (hn : M0 1 2 = nI n) (h8 : n ≤ 8) (hQ : ∀ M', eqx [17, 72, 73] M0 M' → Q (some (.int s)) M') : ∀ (k i : Nat) (M : Mem), i + k = n → (∀ x, x < n → M 17 x = M0 (30 + x) 2) → (∀ c j, c ∉ [17, 72, 73] → (∀ x, i ≤ x → x < n → ¬ (c = 30 + x ∧ j = 2)) → M c j = M0 c j) → V cS g d mX7_spotAhead 64 [some (.ref 1), some (.int N), some (.int b), some (.int (M0 1 12)), some (.int s), some (.int (nI i))] [] M Q := by
  intro k
  induction k with
  | zero =>
    intro i M hk h17 hM
    have hz : M 1 2 = nI n := by rw [hM 1 2 (by decide) (fun x _ _ h => by omega)]; exact hn
    obtain rfl : i = n := by omega
    refine V.iload dX7_spotAhead_64 rfl ?_
    refine V.aload_n dX7_spotAhead_66 rfl (i := 0) rfl ?_
    refine V.getI dX7_spotAhead_67 rfl flRX7_64 rfl ⟨by decide, by decide⟩ ?_
    refine V.top (x' := (nI i)) (hz) ?_
    refine V.ic_ge (tgt := 96) dX7_spotAhead_70 (by decide) (fun c70 => ?_) (fun q => absurd ((Int32.le_refl _)) q)
    refine V.iload dX7_spotAhead_96 rfl ?_
    exact V.ret dX7_spotAhead_98 rfl (hQ M (fun c hc => funext fun j => hM c j hc (fun x h1 h2 => by omega)))
  | succ k ih =>
    intro i M hk h17 hM
    have hz : M 1 2 = nI n := by rw [hM 1 2 (by decide) (fun x _ _ h => by omega)]; exact hn
    have hi8 : i < 8 := by omega
    refine V.iload dX7_spotAhead_64 rfl ?_
    refine V.aload_n dX7_spotAhead_66 rfl (i := 0) rfl ?_
    refine V.getI dX7_spotAhead_67 rfl flRX7_64 rfl ⟨by decide, by decide⟩ ?_
    refine V.top (x' := (nI n)) (hz) ?_
    refine V.ic_ge (tgt := 96) dX7_spotAhead_70 (by decide) (fun q => absurd q ((nI_ge (a := i) (b := n) (by omega) (by omega)))) (fun c70 => ?_)
    refine V.aload_n dX7_spotAhead_73 rfl (i := 0) rfl ?_
    refine V.getR dX7_spotAhead_74 rfl flRX7_17 rfl ⟨by decide, by decide⟩ ?_
    refine V.iload dX7_spotAhead_77 rfl ?_
    refine V.aaldBN dX7_spotAhead_79 rfl ⟨by decide, by decide⟩ (by first | assumption | decide | omega) (by decide) ?_
    refine V.aload_n dX7_spotAhead_80 rfl (i := 0) rfl ?_
    refine V.getR dX7_spotAhead_81 rfl flRX7_50 rfl ⟨by decide, by decide⟩ ?_
    refine V.iload dX7_spotAhead_84 rfl ?_
    refine V.ialdN dX7_spotAhead_86 rfl ⟨by decide, by decide⟩ (by first | assumption | decide | omega) (by decide) ?_
    refine V.putI dX7_spotAhead_87 rfl fpRX7_108 (fkB30 (by first | assumption | decide | omega) (by decide)) (inB30 (by first | assumption | decide | omega)) ?_
    refine V.iinc dX7_spotAhead_90 rfl (v := (nI (i + 1))) (nI_1 _) (by decide) (fun _ h => by cases h; exact Or.inl rfl) rfl ?_
    refine V.goto dX7_spotAhead_93 (tgt := 64) (by decide) ?_
    exact ih (i + 1) _ (by omega) (fun x hx => by rw [put_cell (by omega)]; exact h17 x hx) (fun c j hc hx => by by_cases q : c = 30 + i ∧ j = 2; rw [q.1, q.2, put_s, h17 i (by omega)]; rw [put_n q]; exact hM c j hc (fun x h1 h2 h3 => by by_cases q2 : x = i; subst q2; exact q h3; exact hx x (by omega) h2 h3))
set_option maxHeartbeats 4000000 in
set_option maxRecDepth 100000 in
theorem c_sa {g : GG} {d : Nat} {M : Mem} {Q : Option Value → Mem → Prop} {N n b : Nat} (hN : N ≤ 60) (hn : M 1 2 = nI n) (h8 : n ≤ 8) (hb : b < 8) (hk : ∀ b, b < 8 → 0 ≤ M (30 + b) 0 ∧ M (30 + b) 0 ≤ 6) (hw : sz50 (M 15 1)) (hQ : ∀ M', eqx [17, 72, 73] M M' → Q (some (.int ((daysF (fun a r m => lawG M a r m 0 0) (fun b => M (30 + b) 0) (fun b => M (30 + b) 1) n N (M 1 12, fun b => M (30 + b) 2)).2 b))) M') : V cS g (d + 4) mX7_spotAhead 0 [some (.ref 1), some (.int (nI N)), some (.int (nI b)), none, none, none] [] M Q := by
  refine V.aload_n dX7_spotAhead_0 rfl (i := 0) rfl ?_
  refine V.getI dX7_spotAhead_1 rfl flRX7_44 rfl ⟨by decide, by decide⟩ ?_
  refine V.istore_n dX7_spotAhead_4 rfl (i := 3) (by decide) (fun _ h => by cases h; exact Or.inl rfl) rfl ?_
  refine V.iconst dX7_spotAhead_5 (v := 0) (by decide) ?_
  refine V.istore dX7_spotAhead_6 (i := 4) (by decide) (fun _ h => by cases h; exact Or.inl rfl) rfl ?_
  refine l_sv hn h8 (fun M1 hM1 h17 => ?_) n 0 M (by omega) eqx.rf (fun x hx => absurd hx (Nat.not_lt_zero _))
  have e30 : ∀ x, x < 8 → M1 (30 + x) = M (30 + x) := fun x hx => hM1 (30 + x) (by simp; omega)
  have e1 : M1 1 = M 1 := hM1 1 (by decide)
  have hs : (daysF (fun a r m => lawG M1 a r m 0 0) (fun b => M1 (30 + b) 0) (fun b => M1 (30 + b) 1) n N (M1 1 12, fun b => M1 (30 + b) 2)) = (daysF (fun a r m => lawG M a r m 0 0) (fun b => M (30 + b) 0) (fun b => M (30 + b) 1) n N (M 1 12, fun b => M (30 + b) 2)) := by
    have f : ∀ j, (fun b => M1 (30 + b) j) = (fun b => M (30 + b) j) := fun j => funext fun b => by rw [hM1 (30 + b) (by simp; omega)]
    rw [lawG_eq (hM1 15 (by decide)) (hM1 71 (by decide)), e1, f 0, f 1, f 2]
  have hfin : ∀ M2, eqx [72, 73] (zs M1 (daysF (fun a r m => lawG M1 a r m 0 0) (fun b => M1 (30 + b) 0) (fun b => M1 (30 + b) 1) n N (M1 1 12, fun b => M1 (30 + b) 2))) M2 → ∀ c j, c ∉ [17, 72, 73] → (∀ x, 0 ≤ x → x < n → ¬ (c = 30 + x ∧ j = 2)) → put M2 1 12 (M 1 12) c j = M c j := by
    intro M2 hM2 c j hc hx
    have hc1 : M1 c = M c := hM1 c (fun z => hc (by rw [List.mem_singleton.mp z]; exact List.mem_cons_self))
    by_cases q : c = 1 ∧ j = 12
    · rw [q.1, q.2, put_s]
    · rw [put_n q, hM2 c (fun z => hc (List.mem_cons_of_mem _ z))]
      unfold zs
      rw [if_neg q]
      by_cases c2 : 30 ≤ c ∧ c < 38 ∧ j = 2
      · rw [if_pos c2, daysF_out (Nat.le_of_not_lt (fun z => hx (c - 30) (Nat.zero_le _) z ⟨by omega, c2.2.2⟩))]
        show M1 (30 + (c - 30)) 2 = _
        rw [show 30 + (c - 30) = c by omega, c2.2.2, hc1]
      · rw [if_neg c2, hc1]
  refine V.aload_n dX7_spotAhead_40 rfl (i := 0) rfl ?_
  refine V.iload_n dX7_spotAhead_41 rfl (i := 1) rfl ?_
  refine V.invv (z := mX7_goDays) (As := [_]) dX7_spotAhead_42 rfl mlRX7_129 okX7_goDays npX7_goDays rfl rfl rfl ⟨by decide, by decide⟩ (Nat.le_of_ble_eq_true rfl) rfl (Nat.le_of_ble_eq_true rfl) (c_goDays hN (by rw [e1]; exact hn) h8 (fun x hx => by rw [e30 x hx]; exact hk x hx) (by rw [hM1 15 (by decide)]; exact hw) (fun M2 hM2 => ?_))
  show V cS g (d + 4) mX7_spotAhead 45 [some (.ref 1), some (.int (nI N)), some (.int (nI b)), some (.int (M 1 12)), none, none] [] M2 Q
  refine V.aload_n dX7_spotAhead_45 rfl (i := 0) rfl ?_
  refine V.getR dX7_spotAhead_46 rfl flRX7_17 rfl ⟨by decide, by decide⟩ ?_
  refine V.iload_n dX7_spotAhead_49 rfl (i := 2) rfl ?_
  refine V.aaldBN dX7_spotAhead_50 rfl ⟨by decide, by decide⟩ (by first | assumption | decide | omega) (by decide) ?_
  refine V.getI dX7_spotAhead_51 rfl flRX7_108 (fkB30 (by first | assumption | decide | omega) (by decide)) (inB30 (by first | assumption | decide | omega)) ?_
  refine V.top (x' := ((daysF (fun a r m => lawG M a r m 0 0) (fun b => M (30 + b) 0) (fun b => M (30 + b) 1) n N (M 1 12, fun b => M (30 + b) 2)).2 b)) ((by rw [hM2 (30 + b) (by simp; omega), zs_s hb, hs])) ?_
  refine V.istore dX7_spotAhead_54 (i := 4) (by decide) (fun _ h => by cases h; exact Or.inl rfl) rfl ?_
  refine V.aload_n dX7_spotAhead_56 rfl (i := 0) rfl ?_
  refine V.iload_n dX7_spotAhead_57 rfl (i := 3) rfl ?_
  refine V.putI dX7_spotAhead_58 rfl fpRX7_44 rfl ⟨by decide, by decide⟩ ?_
  refine V.iconst dX7_spotAhead_61 (v := 0) (by decide) ?_
  refine V.istore dX7_spotAhead_62 (i := 5) (by decide) (fun _ h => by cases h; exact Or.inl rfl) rfl ?_
  exact l_rs hn h8 hQ n 0 _ (by omega) (fun x hx => by rw [put_cell (by decide), hM2 17 (by decide), zs_o (by decide) (by decide)]; exact h17 x hx) (hfin M2 hM2)

