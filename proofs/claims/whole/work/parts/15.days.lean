/-! ===== days ===== -/
def nz (z : Int32) : Int32 := z * 1103515245 + 12345
def z8 (z : Int32) : Int32 := (Int32.toUInt32 z >>> (Int32.toUInt32 8 &&& Int32.toUInt32 31)).toInt32
def r7 (z : Int32) : Int32 := z8 z - z8 z / 7 * 7
abbrev ZS : Type := Int32 × (Nat → Int32)
def bst (G : Int32 → Int32 → Int32 → Int32) (K W : Nat → Int32) (b : Nat) (q : ZS) : ZS :=
  if isOfB (K b) 3 = true then (nz q.1, fun i => if i = b then heldF (G (q.2 b) (r7 (nz q.1)) (W b)) 0 99 else q.2 i) else q
def dayF (G : Int32 → Int32 → Int32 → Int32) (K W : Nat → Int32) : Nat → ZS → ZS
  | 0, q => q
  | n + 1, q => bst G K W n (dayF G K W n q)
def daysF (G : Int32 → Int32 → Int32 → Int32) (K W : Nat → Int32) (n : Nat) : Nat → ZS → ZS
  | 0, q => q
  | t + 1, q => dayF G K W n (daysF G K W n t q)
/-- the memory with z and the spots as told -/
def zs (M : Mem) (q : ZS) : Mem := fun c j => if c = 1 ∧ j = 12 then q.1 else if 30 ≤ c ∧ c < 38 ∧ j = 2 then q.2 (c - 30) else M c j
theorem zs_1 {M : Mem} {q : ZS} {j : Nat} (h : j ≠ 12) : zs M q 1 j = M 1 j := by simp [zs, h]
theorem zs_b {M : Mem} {q : ZS} {b j : Nat} (h : j ≠ 2) : zs M q (30 + b) j = M (30 + b) j := by
  unfold zs
  rw [if_neg (fun h => by omega), if_neg (fun z => h z.2.2)]
theorem zs_s {M : Mem} {q : ZS} {b : Nat} (h : b < 8) : zs M q (30 + b) 2 = q.2 b := by
  unfold zs
  rw [if_neg (fun h => by omega), if_pos ⟨by omega, by omega, rfl⟩, Nat.add_sub_cancel_left]
theorem zs_o {M : Mem} {q : ZS} {c : Nat} (h1 : c ≠ 1) (h2 : ¬ (30 ≤ c ∧ c < 38)) : zs M q c = M c := by
  funext j
  unfold zs
  rw [if_neg (fun h => h1 h.1), if_neg (fun h => h2 ⟨h.1, h.2.1⟩)]
theorem zs_z {M : Mem} {q : ZS} : zs M q 1 12 = q.1 := by simp [zs]
theorem zs_step {M0 M M1 : Mem} {q : ZS} {b : Nat} {z v : Int32} (hb : b < 8) (he : eqx [72, 73] (zs M0 q) M) (h1 : eqx [72, 73] (put M 1 12 z) M1) : eqx [72, 73] (zs M0 (z, fun i => if i = b then v else q.2 i)) (put M1 (30 + b) 2 v) := by
  intro c hc
  funext j
  have e1 : ∀ j, M1 c j = put M 1 12 z c j := fun j => by rw [h1 c hc]
  have e2 : ∀ j, M c j = zs M0 q c j := fun j => by rw [he c hc]
  unfold put at e1 ⊢
  rw [e1 j, e2 j]
  unfold zs
  by_cases c1 : c = 1
  · subst c1
    by_cases j12 : j = 12 <;> simp [j12] <;> omega
  · by_cases c2 : 30 ≤ c ∧ c < 38 ∧ j = 2
    · obtain ⟨c3, c4, rfl⟩ := c2
      by_cases c5 : c = 30 + b
      · subst c5
        simp [c4]
      · have c6 : ¬ c - 30 = b := by omega
        simp [c1, c3, c4, c5, c6]
    · by_cases c5 : c = 30 + b ∧ j = 2
      · exact absurd ⟨by omega, by omega, c5.2⟩ c2
      · simp [c1, c2, c5]
theorem r7_ne : ¬ (7 : Int32) = 0 := by decide

set_option maxHeartbeats 4000000 in
set_option maxRecDepth 100000 in
theorem l_day {g : GG} {d : Nat} {Q : Option Value → Mem → Prop} {M0 : Mem} {n : Nat} (hn : M0 1 2 = nI n) (h8 : n ≤ 8) (hk : ∀ b, b < 8 → 0 ≤ M0 (30 + b) 0 ∧ M0 (30 + b) 0 ≤ 6) (hw : sz50 (M0 15 1)) {nn : Int32} {t : Nat} {q : ZS} : ∀ (k i : Nat) (M : Mem), i + k = n → eqx [72, 73] (zs M0 (dayF (fun a r m => lawG M0 a r m 0 0) (fun b => M0 (30 + b) 0) (fun b => M0 (30 + b) 1) i q)) M → (∀ M', eqx [72, 73] (zs M0 (dayF (fun a r m => lawG M0 a r m 0 0) (fun b => M0 (30 + b) 0) (fun b => M0 (30 + b) 1) n q)) M' → V cS g (d + 3) mX7_goDays 74 [some (.ref 1), some (.int nn), some (.int (nI t)), some (.int (nI n))] [] M' Q) → V cS g (d + 3) mX7_goDays 9 [some (.ref 1), some (.int nn), some (.int (nI t)), some (.int (nI i))] [] M Q := by
  intro k
  induction k with
  | zero =>
    intro i M hik he hc
    obtain rfl : i = n := by omega
    have hz : M 1 2 = nI i := by rw [he 1 (by decide), zs_1 (by decide)]; exact hn
    refine V.iload_n dX7_goDays_9 rfl (i := 3) rfl ?_
    refine V.aload_n dX7_goDays_10 rfl (i := 0) rfl ?_
    refine V.getI dX7_goDays_11 rfl flRX7_64 rfl ⟨by decide, by decide⟩ ?_
    refine V.top (x' := (nI i)) (hz) ?_
    refine V.ic_ge (tgt := 74) dX7_goDays_14 (by decide) (fun c14 => ?_) (fun q => absurd ((Int32.le_refl _)) q)
    exact hc M he
  | succ k ih =>
    intro i M hik he hc
    have hz : M 1 2 = nI n := by rw [he 1 (by decide), zs_1 (by decide)]; exact hn
    have hi : i < 8 := by omega
    have hkM : M (30 + i) 0 = M0 (30 + i) 0 := by rw [he (30 + i) (by simp; omega), zs_b (by decide)]
    have hmM : ∀ q : Mem, eqx [72, 73] (put M 1 12 (M 1 12 * 1103515245 + 12345)) q → q (30 + i) 1 = M0 (30 + i) 1 := fun q hq => by rw [hq (30 + i) (by simp; omega), put_cell (by omega), he (30 + i) (by simp; omega), zs_b (by decide)]
    have hlw : sz50 ((put M 1 12 (M 1 12 * 1103515245 + 12345)) 15 1) := by rw [put_cell (by decide), he 15 (by decide), zs_o (by decide) (by omega)]; exact hw
    have hlg : lawG (put M 1 12 (M 1 12 * 1103515245 + 12345)) = lawG M0 := lawG_eq (by rw [put_cell (by decide), he 15 (by decide), zs_o (by decide) (by omega)]) (by rw [put_cell (by decide), he 71 (by decide), zs_o (by decide) (by omega)])
    have hzz : M 1 12 = (dayF (fun a r m => lawG M0 a r m 0 0) (fun b => M0 (30 + b) 0) (fun b => M0 (30 + b) 1) i q).1 := by rw [he 1 (by decide), zs_z]
    have hss : M (30 + i) 2 = (dayF (fun a r m => lawG M0 a r m 0 0) (fun b => M0 (30 + b) 0) (fun b => M0 (30 + b) 1) i q).2 i := by rw [he (30 + i) (by simp; omega), zs_s hi]
    refine V.iload_n dX7_goDays_9 rfl (i := 3) rfl ?_
    refine V.aload_n dX7_goDays_10 rfl (i := 0) rfl ?_
    refine V.getI dX7_goDays_11 rfl flRX7_64 rfl ⟨by decide, by decide⟩ ?_
    refine V.top (x' := (nI n)) (hz) ?_
    refine V.ic_ge (tgt := 74) dX7_goDays_14 (by decide) (fun q => absurd q ((nI_ge (a := i) (b := n) (by omega) (by omega)))) (fun c14 => ?_)
    refine V.aload_n dX7_goDays_17 rfl (i := 0) rfl ?_
    refine V.getR dX7_goDays_18 rfl flRX7_17 rfl ⟨by decide, by decide⟩ ?_
    refine V.iload_n dX7_goDays_21 rfl (i := 3) rfl ?_
    refine V.aaldBN dX7_goDays_22 rfl ⟨by decide, by decide⟩ (by first | assumption | decide | omega) (by decide) ?_
    refine V.iconst dX7_goDays_23 (v := 3) (by decide) ?_
    refine V.invv (z := mX0_isOf) (As := [_]) dX7_goDays_24 rfl mlRX7_115 okX0_isOf npX0_isOf rfl (layO30 (hi)) rfl (inB30 (hi)) (Nat.le_of_ble_eq_true rfl) rfl (Nat.le_of_ble_eq_true rfl) (c_isOf  (hi) (by rw [hkM]; exact hk i hi) (by decide) ?_)
    show V cS g (d + 3) mX7_goDays 27 [some (.ref 1), some (.int nn), some (.int (nI t)), some (.int (nI i))] [.int (b2i (isOfB (M (30 + i) 0) (3 : Int32) = true))] M Q
    refine V.if_eq (tgt := 68) dX7_goDays_27 (by decide) (fun c27 => ?_) (fun c27 => ?_)
    · refine V.iinc dX7_goDays_68 rfl (v := (nI (i + 1))) (nI_1 _) (by decide) (fun _ h => by cases h; exact Or.inl rfl) rfl ?_
      refine V.goto dX7_goDays_71 (tgt := 9) (by decide) ?_
      first | exact ih (i + 1) _ (by omega) (by rw [dayF, bst, if_pos (by rw [← hkM]; exact Classical.byContradiction fun z => c27 (b2i_f z))]; rw [hlg, put_cell (by omega : (30 + i) ≠ 1), hzz, hss, he (30 + i) (by simp; omega), zs_b (by decide)]; exact zs_step hi he (by rw [hzz] at hM1; exact hM1)) hc | exact ih (i + 1) _ (by omega) (by rw [dayF, bst, if_neg (by rw [← hkM]; exact b2i_0.mp c27)]; exact he) hc
    · refine V.aload_n dX7_goDays_30 rfl (i := 0) rfl ?_
      refine V.getR dX7_goDays_31 rfl flRX7_17 rfl ⟨by decide, by decide⟩ ?_
      refine V.iload_n dX7_goDays_34 rfl (i := 3) rfl ?_
      refine V.aaldBN dX7_goDays_35 rfl ⟨by decide, by decide⟩ (by first | assumption | decide | omega) (by decide) ?_
      refine V.aload_n dX7_goDays_36 rfl (i := 0) rfl ?_
      refine V.aload_n dX7_goDays_37 rfl (i := 0) rfl ?_
      refine V.getR dX7_goDays_38 rfl flRX7_17 rfl ⟨by decide, by decide⟩ ?_
      refine V.iload_n dX7_goDays_41 rfl (i := 3) rfl ?_
      refine V.aaldBN dX7_goDays_42 rfl ⟨by decide, by decide⟩ (by first | assumption | decide | omega) (by decide) ?_
      refine V.getI dX7_goDays_43 rfl flRX7_108 (fkB30 (by first | assumption | decide | omega) (by decide)) (inB30 (by first | assumption | decide | omega)) ?_
      refine V.aload_n dX7_goDays_46 rfl (i := 0) rfl ?_
      refine V.invv (z := mX7_draw) (As := []) dX7_goDays_47 rfl mlRX7_119 okX7_draw npX7_draw rfl rfl rfl ⟨by decide, by decide⟩ (Nat.le_of_ble_eq_true rfl) rfl (Nat.le_of_ble_eq_true rfl) (c_draw   ?_)
      show V cS g (d + 3) mX7_goDays 50 [some (.ref 1), some (.int nn), some (.int (nI t)), some (.int (nI i))] [.int (((Int32.toUInt32 (M 1 12 * 1103515245 + 12345) >>> (Int32.toUInt32 8 &&& Int32.toUInt32 31)).toInt32)), .int (M (30 + i) 2), .ref 1, .ref (30 + i)] (put M 1 12 (M 1 12 * 1103515245 + 12345)) Q
      refine V.bipush dX7_goDays_50 (v := 7) (by decide) ?_
      refine V.irem dX7_goDays_52 (r7_ne) ?_
      refine V.aload_n dX7_goDays_53 rfl (i := 0) rfl ?_
      refine V.getR dX7_goDays_54 rfl flRX7_17 rfl ⟨by decide, by decide⟩ ?_
      refine V.iload_n dX7_goDays_57 rfl (i := 3) rfl ?_
      refine V.aaldBN dX7_goDays_58 rfl ⟨by decide, by decide⟩ (by first | assumption | decide | omega) (by decide) ?_
      refine V.getI dX7_goDays_59 rfl flRX7_123 (fkB30 (by first | assumption | decide | omega) (by decide)) (inB30 (by first | assumption | decide | omega)) ?_
      refine V.invv (z := mX7_grazedSpot) (As := [_, _, _]) dX7_goDays_62 rfl mlRX7_126 okX7_grazedSpot npX7_grazedSpot rfl rfl rfl ⟨by decide, by decide⟩ (Nat.le_of_ble_eq_true rfl) rfl (Nat.le_of_ble_eq_true rfl) (c_grazedSpot  (hlw) (fun M1 hM1 => ?_))
      show V cS g (d + 3) mX7_goDays 65 [some (.ref 1), some (.int nn), some (.int (nI t)), some (.int (nI i))] [.int (heldF (lawG (put M 1 12 (M 1 12 * 1103515245 + 12345)) (M (30 + i) 2) ((((Int32.toUInt32 (M 1 12 * 1103515245 + 12345) >>> (Int32.toUInt32 8 &&& Int32.toUInt32 31)).toInt32)) - (((Int32.toUInt32 (M 1 12 * 1103515245 + 12345) >>> (Int32.toUInt32 8 &&& Int32.toUInt32 31)).toInt32)) / (7 : Int32) * (7 : Int32)) ((put M 1 12 (M 1 12 * 1103515245 + 12345)) (30 + i) 1) 0 0) 0 99), .ref (30 + i)] M1 Q
      refine V.putI dX7_goDays_65 rfl fpRX7_108 (fkB30 (by first | assumption | decide | omega) (by decide)) (inB30 (by first | assumption | decide | omega)) ?_
      refine V.iinc dX7_goDays_68 rfl (v := (nI (i + 1))) (nI_1 _) (by decide) (fun _ h => by cases h; exact Or.inl rfl) rfl ?_
      refine V.goto dX7_goDays_71 (tgt := 9) (by decide) ?_
      first | exact ih (i + 1) _ (by omega) (by rw [dayF, bst, if_pos (by rw [← hkM]; exact Classical.byContradiction fun z => c27 (b2i_f z))]; rw [hlg, put_cell (by omega : (30 + i) ≠ 1), hzz, hss, he (30 + i) (by simp; omega), zs_b (by decide)]; exact zs_step hi he (by rw [hzz] at hM1; exact hM1)) hc | exact ih (i + 1) _ (by omega) (by rw [dayF, bst, if_neg (by rw [← hkM]; exact b2i_0.mp c27)]; exact he) hc
set_option maxHeartbeats 4000000 in
set_option maxRecDepth 100000 in
theorem l_days {g : GG} {d : Nat} {Q : Option Value → Mem → Prop} {M0 : Mem} {n : Nat} (hn : M0 1 2 = nI n) (h8 : n ≤ 8) (hk : ∀ b, b < 8 → 0 ≤ M0 (30 + b) 0 ∧ M0 (30 + b) 0 ≤ 6) (hw : sz50 (M0 15 1)) {q : ZS} {N : Nat} (hN : N ≤ 60) (hQ : ∀ M', eqx [72, 73] (zs M0 (daysF (fun a r m => lawG M0 a r m 0 0) (fun b => M0 (30 + b) 0) (fun b => M0 (30 + b) 1) n N q)) M' → Q none M') : ∀ (k t : Nat) (M : Mem) (l3 : Option Value), t + k = N → eqx [72, 73] (zs M0 (daysF (fun a r m => lawG M0 a r m 0 0) (fun b => M0 (30 + b) 0) (fun b => M0 (30 + b) 1) n t q)) M → V cS g (d + 3) mX7_goDays 2 [some (.ref 1), some (.int (nI N)), some (.int (nI t)), l3] [] M Q := by
  intro k
  induction k with
  | zero =>
    intro t M l3 hk0 he
    obtain rfl : t = N := by omega
    refine V.fg (ls' := [some (.ref 1), some (.int (nI t)), some (.int (nI t)), none]) ⟨rfl, rfl, rfl, trivial⟩ ?_
    refine V.iload_n dX7_goDays_2 rfl (i := 2) rfl ?_
    refine V.iload_n dX7_goDays_3 rfl (i := 1) rfl ?_
    refine V.ic_ge (tgt := 80) dX7_goDays_4 (by decide) (fun c4 => ?_) (fun q => absurd ((Int32.le_refl _)) q)
    exact V.vret dX7_goDays_80 rfl (hQ M he)
  | succ k ih =>
    intro t M l3 hk0 he
    refine V.fg (ls' := [some (.ref 1), some (.int (nI N)), some (.int (nI t)), none]) ⟨rfl, rfl, rfl, trivial⟩ ?_
    refine V.iload_n dX7_goDays_2 rfl (i := 2) rfl ?_
    refine V.iload_n dX7_goDays_3 rfl (i := 1) rfl ?_
    refine V.ic_ge (tgt := 80) dX7_goDays_4 (by decide) (fun q => absurd q ((nI_ge (a := t) (b := N) (by omega) (by omega)))) (fun c4 => ?_)
    refine V.iconst dX7_goDays_7 (v := 0) (by decide) ?_
    refine V.istore_n dX7_goDays_8 rfl (i := 3) (by decide) (fun _ h => by cases h; exact Or.inl rfl) rfl ?_
    refine l_day (M0 := M0) hn h8 hk hw (q := daysF (fun a r m => lawG M0 a r m 0 0) (fun b => M0 (30 + b) 0) (fun b => M0 (30 + b) 1) n t q) n 0 M (by omega) he (fun M' he' => ?_)
    refine V.iinc dX7_goDays_74 rfl (v := (nI (t + 1))) (nI_1 _) (by decide) (fun _ h => by cases h; exact Or.inl rfl) rfl ?_
    refine V.goto dX7_goDays_77 (tgt := 2) (by decide) ?_
    exact ih (t + 1) M' _ (by omega) he'
set_option maxHeartbeats 4000000 in
set_option maxRecDepth 100000 in
theorem c_goDays {g : GG} {d : Nat} {M : Mem} {Q : Option Value → Mem → Prop} {N n : Nat} (hN : N ≤ 60) (hn : M 1 2 = nI n) (h8 : n ≤ 8) (hk : ∀ b, b < 8 → 0 ≤ M (30 + b) 0 ∧ M (30 + b) 0 ≤ 6) (hw : sz50 (M 15 1)) (hQ : ∀ M', eqx [72, 73] (zs M (daysF (fun a r m => lawG M a r m 0 0) (fun b => M (30 + b) 0) (fun b => M (30 + b) 1) n N (M 1 12, fun b => M (30 + b) 2))) M' → Q none M') : V cS g (d + 3) mX7_goDays 0 [some (.ref 1), some (.int (nI N)), none, none] [] M Q := by
  have h0 : zs M (M 1 12, fun b => M (30 + b) 2) = M := by
    funext c j
    unfold zs
    by_cases c1 : c = 1 ∧ j = 12
    · rw [if_pos c1, c1.1, c1.2]
    · rw [if_neg c1]
      by_cases c2 : 30 ≤ c ∧ c < 38 ∧ j = 2
      · rw [if_pos c2]
        show M (30 + (c - 30)) 2 = _
        rw [show 30 + (c - 30) = c by omega, c2.2.2]
      · rw [if_neg c2]
  refine V.iconst dX7_goDays_0 (v := 0) (by decide) ?_
  refine V.istore_n dX7_goDays_1 rfl (i := 2) (by decide) (fun _ h => by cases h; exact Or.inl rfl) rfl ?_
  exact l_days hn h8 hk hw hN hQ N 0 M _ (by omega) (by rw [daysF, h0]; exact eqx.rf)

