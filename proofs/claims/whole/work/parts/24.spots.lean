/-! ===== Trials: spots, another bell ===== -/
theorem anB_cong {p q : Nat → Bool} : ∀ {n : Nat}, (∀ k, k < n → p k = q k) → anB p n = anB q n
  | 0, _ => rfl
  | n + 1, h => by rw [anB, anB, anB_cong (fun k hk => h k (by omega)), h n (by omega)]
/-- would a bell clash at an ear from a spot -/
def cfP (M : Mem) (hp : Nat → Nat → Bool) (wy : Nat → Nat → Int32) (n b : Nat) (s : Int32) (e : Nat) : Bool := anB (nrP hp wy (M 1 6) (fun x => M (30 + x) 4) e (M (30 + b) 4 + wayF s (M 12 e) (M 1 5)) (nI b)) n && decide (0 < strS M (M (30 + b) 0) (M (30 + b) 3) s (M 12 e) (M 1 5))
theorem Hd.eq {M M' : Mem} {hp : Nat → Nat → Bool} {wy : Nat → Nat → Int32} {n ne : Nat} {S : List Nat} (h : Hd M hp wy n ne) (he : eqx S M M') (h8 : n ≤ 8) (h29 : 29 ∉ S) (h46 : ∀ b, b < 8 → 46 + b ∉ S) : Hd M' hp wy n ne := ⟨fun e h1 => by rw [he 29 h29]; exact h.1 e h1, fun b e h1 h2 h3 => by rw [he (46 + b) (h46 b (by omega))]; exact h.2 b e h1 h2 h3⟩
/-- is another one near at an ear, were a new bell at a spot -/
def bdP (M : Mem) (hp : Nat → Nat → Bool) (wy : Nat → Nat → Int32) (n : Nat) (s : Int32) (e : Nat) : Bool := anB (nrP hp wy (M 1 6) (fun x => M (30 + x) 4) e (wayF s (M 12 e) (M 1 5)) (-1)) n
def hpL (M : Mem) (l s : Int32) (e : Nat) : Bool := decide (0 < strS M 0 l s (M 12 e) (M 1 5))
def ldF (ok : Nat → Bool) : Nat → Int32
  | 0 => -1
  | k + 1 => if ok k = true then nI k else ldF ok k

set_option maxHeartbeats 4000000 in
set_option maxRecDepth 100000 in
theorem l_cf {g : GG} {d : Nat} {Q : Option Value → Mem → Prop} {M0 : Mem} {hp : Nat → Nat → Bool} {wy : Nat → Nat → Int32} {n ne : Nat} (hV : VB M0 n ne) (hH : Hd M0 hp wy n ne) {b : Nat} {s : Int32} (hb : b < n) (hs : rg 0 99 s) (hQ : ∀ M', eqx [69, 70] M0 M' → Q (some (.int (b2i (anB (cfP M0 hp wy n b s) ne = true)))) M') : ∀ (k e : Nat) (M : Mem) (l5 l6 : Option Value), e + k = ne → eqx [69, 70] M0 M → anB (cfP M0 hp wy n b s) e = false → V cS g (d + 3) mX6_clashesFrom 13 [some (.ref 6), some (.int (nI b)), some (.int s), some (.ref (30 + b)), some (.int (nI e)), l5, l6] [] M Q := by
  intro k
  induction k with
  | zero =>
    intro e M l5 l6 hk he hf
    have hVM : VB M n ne := hV.eq he (by decide) (by decide) (by decide) (fun b hb => by simp; omega)
    have hHM : Hd M hp wy n ne := hH.eq he hV.2.1 (by decide) (fun b hb => by simp; omega)
    have hstr : strS M = strS M0 := strS_eq (he 14 (by decide)) (he 68 (by decide)) (he 10 (by decide))
    have e1 : M 1 = M0 1 := he 1 (by decide)
    have e12 : M 12 = M0 12 := he 12 (by decide)
    have e30 : ∀ x, x < 8 → M (30 + x) = M0 (30 + x) := fun x hx => he (30 + x) (by simp; omega)
    have h8 := hV.2.1
    have h10 := hV.2.2.2.1
    have hee : ne = e := by omega
    refine V.fg (ls' := [some (.ref 6), some (.int (nI b)), some (.int s), some (.ref (30 + b)), some (.int (nI e)), none, none]) ⟨rfl, rfl, rfl, rfl, rfl, trivial⟩ ?_
    refine V.iload dX6_clashesFrom_13 rfl ?_
    refine V.aload_n dX6_clashesFrom_15 rfl (i := 0) rfl ?_
    refine V.getR dX6_clashesFrom_16 rfl flRX6_21 rfl ⟨by decide, by decide⟩ ?_
    refine V.getI dX6_clashesFrom_19 rfl flRX6_53 rfl ⟨by decide, by decide⟩ ?_
    refine V.top (x' := (nI ne)) (hVM.2.2.1) ?_
    refine V.ic_ge (tgt := 108) dX6_clashesFrom_22 (by decide) (fun c22 => ?_) (fun q => absurd ((nI_le (a := ne) (b := e) (by omega) (by omega))) q)
    refine V.iconst dX6_clashesFrom_108 (v := 0) (by decide) ?_
    exact V.zret dX6_clashesFrom_109 rfl (by first | exact Or.inl rfl | exact Or.inr rfl | assumption | exact b2i_zo _ | (repeat' split) <;> first | exact Or.inl rfl | exact Or.inr rfl | assumption | exact b2i_zo _) (Qi (hQ M he) (by rw [hee, b2i_f (by rw [hf]; decide)]))
  | succ k ih =>
    intro e M l5 l6 hk he hf
    have hVM : VB M n ne := hV.eq he (by decide) (by decide) (by decide) (fun b hb => by simp; omega)
    have hHM : Hd M hp wy n ne := hH.eq he hV.2.1 (by decide) (fun b hb => by simp; omega)
    have hstr : strS M = strS M0 := strS_eq (he 14 (by decide)) (he 68 (by decide)) (he 10 (by decide))
    have e1 : M 1 = M0 1 := he 1 (by decide)
    have e12 : M 12 = M0 12 := he 12 (by decide)
    have e30 : ∀ x, x < 8 → M (30 + x) = M0 (30 + x) := fun x hx => he (30 + x) (by simp; omega)
    have h8 := hV.2.1
    have h10 := hV.2.2.2.1
    have hb8 : b < 8 := by omega
    have he10 : e < 10 := by omega
    have hnr : anB (nrP hp wy (M 1 6) (fun b => M (30 + b) 4) e (M0 (30 + b) 4 + wayF s (M0 12 e) (M0 1 5)) (nI b)) n = anB (nrP hp wy (M0 1 6) (fun x => M0 (30 + x) 4) e (M0 (30 + b) 4 + wayF s (M0 12 e) (M0 1 5)) (nI b)) n := anB_cong (fun x hx => by unfold nrP; simp only [e1, e30 x (show x < 8 by omega)])
    have hno : ¬ (cfP M0 hp wy n b s) e = true → anB (cfP M0 hp wy n b s) (e + 1) = false := fun q => by rw [anB, hf, Bool.false_or]; simpa using q
    refine V.fg (ls' := [some (.ref 6), some (.int (nI b)), some (.int s), some (.ref (30 + b)), some (.int (nI e)), none, none]) ⟨rfl, rfl, rfl, rfl, rfl, trivial⟩ ?_
    refine V.iload dX6_clashesFrom_13 rfl ?_
    refine V.aload_n dX6_clashesFrom_15 rfl (i := 0) rfl ?_
    refine V.getR dX6_clashesFrom_16 rfl flRX6_21 rfl ⟨by decide, by decide⟩ ?_
    refine V.getI dX6_clashesFrom_19 rfl flRX6_53 rfl ⟨by decide, by decide⟩ ?_
    refine V.top (x' := (nI ne)) (hVM.2.2.1) ?_
    refine V.ic_ge (tgt := 108) dX6_clashesFrom_22 (by decide) (fun q => absurd q ((nI_ge (a := e) (b := ne) (by omega) (by omega)))) (fun c22 => ?_)
    refine V.aload_n dX6_clashesFrom_25 rfl (i := 0) rfl ?_
    refine V.getR dX6_clashesFrom_26 rfl flRX6_21 rfl ⟨by decide, by decide⟩ ?_
    refine V.getR dX6_clashesFrom_29 rfl flRX6_75 rfl ⟨by decide, by decide⟩ ?_
    refine V.iload dX6_clashesFrom_32 rfl ?_
    refine V.ialdN dX6_clashesFrom_34 rfl ⟨by decide, by decide⟩ (by first | assumption | decide | omega) (by decide) ?_
    refine V.top (x' := (M0 12 e)) ((by rw [e12])) ?_
    refine V.istore dX6_clashesFrom_35 (i := 5) (by decide) (fun _ h => by cases h; exact Or.inl rfl) rfl ?_
    refine V.aload_n dX6_clashesFrom_37 rfl (i := 3) rfl ?_
    refine V.getI dX6_clashesFrom_38 rfl flRX6_113 (fkB30 (by first | assumption | decide | omega) (by decide)) (inB30 (by first | assumption | decide | omega)) ?_
    refine V.top (x' := (M0 (30 + b) 4)) ((by rw [e30 b hb8])) ?_
    refine V.iload_n dX6_clashesFrom_41 rfl (i := 2) rfl ?_
    refine V.iload dX6_clashesFrom_42 rfl ?_
    refine V.aload_n dX6_clashesFrom_44 rfl (i := 0) rfl ?_
    refine V.getR dX6_clashesFrom_45 rfl flRX6_21 rfl ⟨by decide, by decide⟩ ?_
    refine V.getI dX6_clashesFrom_48 rfl flRX6_78 rfl ⟨by decide, by decide⟩ ?_
    refine V.top (x' := (M0 1 5)) ((by rw [e1])) ?_
    refine V.invsN (z := mX9_wayBetween) (As := [_, _, _]) (host := "OneBreath") dX6_clashesFrom_51 rfl (by decide +kernel) okX9_wayBetween npX9_wayBetween rfl (Nat.le_of_ble_eq_true rfl) rfl (Nat.le_of_ble_eq_true rfl) (c_wayBetween   ?_)
    show V cS g (d + 3) mX6_clashesFrom 54 [some (.ref 6), some (.int (nI b)), some (.int s), some (.ref (30 + b)), some (.int (nI e)), some (.int (M0 12 e)), none] [.int (wayF s (M0 12 e) (M0 1 5)), .int (M0 (30 + b) 4)] (M) Q
    refine V.iadd dX6_clashesFrom_54 ?_
    refine V.istore dX6_clashesFrom_55 (i := 6) (by decide) (fun _ h => by cases h; exact Or.inl rfl) rfl ?_
    refine V.aload_n dX6_clashesFrom_57 rfl (i := 0) rfl ?_
    refine V.getR dX6_clashesFrom_58 rfl flRX6_25 rfl ⟨by decide, by decide⟩ ?_
    refine V.iload dX6_clashesFrom_61 rfl ?_
    refine V.iload dX6_clashesFrom_63 rfl ?_
    refine V.iload_n dX6_clashesFrom_65 rfl (i := 1) rfl ?_
    refine V.invv (z := mX1_isNear) (As := [_, _, _]) dX6_clashesFrom_66 rfl mlRX6_85 okX1_isNear npX1_isNear rfl rfl rfl ⟨by decide, by decide⟩ (Nat.le_of_ble_eq_true rfl) rfl (Nat.le_of_ble_eq_true rfl) (c_near hVM.cn hHM (by omega) ?_)
    show V cS g (d + 3) mX6_clashesFrom 69 [some (.ref 6), some (.int (nI b)), some (.int s), some (.ref (30 + b)), some (.int (nI e)), some (.int (M0 12 e)), some (.int ((M0 (30 + b) 4) + (wayF s (M0 12 e) (M0 1 5))))] [.int (b2i (anB (nrP hp wy (M 1 6) (fun b => M (30 + b) 4) e (M0 (30 + b) 4 + wayF s (M0 12 e) (M0 1 5)) (nI b)) n = true))] M Q
    refine V.top (x' := (b2i (anB (nrP hp wy (M0 1 6) (fun x => M0 (30 + x) 4) e (M0 (30 + b) 4 + wayF s (M0 12 e) (M0 1 5)) (nI b)) n = true))) ((by rw [hnr])) ?_
    refine V.if_eq (tgt := 102) dX6_clashesFrom_69 (by decide) (fun c69 => ?_) (fun c69 => ?_)
    · refine V.iinc dX6_clashesFrom_102 rfl (v := (nI (e + 1))) (nI_1 _) (by decide) (fun _ h => by cases h; exact Or.inl rfl) rfl ?_
      refine V.goto dX6_clashesFrom_105 (tgt := 13) (by decide) ?_
      first | exact ih (e + 1) M _ _ (by omega) he (hno (by unfold cfP; rw [Bool.and_eq_true]; exact fun q => b2i_0.mp c69 q.1)) | exact ih (e + 1) M1 _ _ (by omega) (he.tr hM1) (hno (by unfold cfP; rw [Bool.and_eq_true]; exact fun q => absurd (of_decide_eq_true q.2) (Int32.not_lt.mpr c97)))
    · refine V.aload_n dX6_clashesFrom_72 rfl (i := 0) rfl ?_
      refine V.getR dX6_clashesFrom_73 rfl flRX6_21 rfl ⟨by decide, by decide⟩ ?_
      refine V.aload_n dX6_clashesFrom_76 rfl (i := 3) rfl ?_
      refine V.getI dX6_clashesFrom_77 rfl flRX6_118 (fkB30 (by first | assumption | decide | omega) (by decide)) (inB30 (by first | assumption | decide | omega)) ?_
      refine V.aload_n dX6_clashesFrom_80 rfl (i := 3) rfl ?_
      refine V.getI dX6_clashesFrom_81 rfl flRX6_121 (fkB30 (by first | assumption | decide | omega) (by decide)) (inB30 (by first | assumption | decide | omega)) ?_
      refine V.iload_n dX6_clashesFrom_84 rfl (i := 2) rfl ?_
      refine V.iload dX6_clashesFrom_85 rfl ?_
      refine V.aload_n dX6_clashesFrom_87 rfl (i := 0) rfl ?_
      refine V.getR dX6_clashesFrom_88 rfl flRX6_21 rfl ⟨by decide, by decide⟩ ?_
      refine V.getI dX6_clashesFrom_91 rfl flRX6_78 rfl ⟨by decide, by decide⟩ ?_
      refine V.top (x' := (M0 1 5)) ((by rw [e1])) ?_
      refine V.invv (z := mX7_strength) (As := [_, _, _, _, _]) dX6_clashesFrom_94 rfl mlRX6_124 okX7_strength npX7_strength rfl rfl rfl ⟨by decide, by decide⟩ (Nat.le_of_ble_eq_true rfl) rfl (Nat.le_of_ble_eq_true rfl) (c_strength  (hVM.2.2.2.2.1) (hs) (hV.2.2.2.2.2.2 e he10) (fun M1 hM1 => ?_))
      show V cS g (d + 3) mX6_clashesFrom 97 [some (.ref 6), some (.int (nI b)), some (.int s), some (.ref (30 + b)), some (.int (nI e)), some (.int (M0 12 e)), some (.int ((M0 (30 + b) 4) + (wayF s (M0 12 e) (M0 1 5))))] [.int (strS M (M (30 + b) 0) (M (30 + b) 3) s (M0 12 e) (M0 1 5))] M1 Q
      refine V.top (x' := (strS M0 (M0 (30 + b) 0) (M0 (30 + b) 3) s (M0 12 e) (M0 1 5))) ((by rw [hstr, e30 b hb8])) ?_
      refine V.if_le (tgt := 102) dX6_clashesFrom_97 (by decide) (fun c97 => ?_) (fun c97 => ?_)
      · refine V.iinc dX6_clashesFrom_102 rfl (v := (nI (e + 1))) (nI_1 _) (by decide) (fun _ h => by cases h; exact Or.inl rfl) rfl ?_
        refine V.goto dX6_clashesFrom_105 (tgt := 13) (by decide) ?_
        first | exact ih (e + 1) M _ _ (by omega) he (hno (by unfold cfP; rw [Bool.and_eq_true]; exact fun q => b2i_0.mp c69 q.1)) | exact ih (e + 1) M1 _ _ (by omega) (he.tr hM1) (hno (by unfold cfP; rw [Bool.and_eq_true]; exact fun q => absurd (of_decide_eq_true q.2) (Int32.not_lt.mpr c97)))
      · refine V.iconst dX6_clashesFrom_100 (v := 1) (by decide) ?_
        exact V.zret dX6_clashesFrom_101 rfl (by first | exact Or.inl rfl | exact Or.inr rfl | assumption | exact b2i_zo _ | (repeat' split) <;> first | exact Or.inl rfl | exact Or.inr rfl | assumption | exact b2i_zo _) (Qi (hQ M1 (he.tr hM1)) (by rw [b2i_t (anB_iff.mpr ⟨e, by omega, by unfold cfP; rw [Bool.and_eq_true]; exact ⟨Classical.byContradiction fun z => c69 (b2i_f z), decide_eq_true (Int32.not_le.mp c97)⟩⟩)]))
set_option maxHeartbeats 4000000 in
set_option maxRecDepth 100000 in
theorem c_cf {g : GG} {d : Nat} {M : Mem} {Q : Option Value → Mem → Prop} {hp : Nat → Nat → Bool} {wy : Nat → Nat → Int32} {n ne : Nat} (hV : VB M n ne) (hH : Hd M hp wy n ne) {b : Nat} {s : Int32} (hb : b < n) (hs : rg 0 99 s) (hQ : ∀ M', eqx [69, 70] M M' → Q (some (.int (b2i (anB (cfP M hp wy n b s) ne = true)))) M') : V cS g (d + 3) mX6_clashesFrom 0 [some (.ref 6), some (.int (nI b)), some (.int s), none, none, none, none] [] M Q := by
  have h8 := hV.2.1
  have hb8 : b < 8 := by omega
  refine V.aload_n dX6_clashesFrom_0 rfl (i := 0) rfl ?_
  refine V.getR dX6_clashesFrom_1 rfl flRX6_21 rfl ⟨by decide, by decide⟩ ?_
  refine V.getR dX6_clashesFrom_4 rfl flRX6_109 rfl ⟨by decide, by decide⟩ ?_
  refine V.iload_n dX6_clashesFrom_7 rfl (i := 1) rfl ?_
  refine V.aaldBN dX6_clashesFrom_8 rfl ⟨by decide, by decide⟩ (by first | assumption | decide | omega) (by decide) ?_
  refine V.astore_n dX6_clashesFrom_9 rfl (i := 3) (by decide) (fun _ h => by cases h; exact Or.inl rfl) rfl ?_
  refine V.iconst dX6_clashesFrom_10 (v := 0) (by decide) ?_
  refine V.istore dX6_clashesFrom_11 (i := 4) (by decide) (fun _ h => by cases h; exact Or.inl rfl) rfl ?_
  exact l_cf hV hH hb hs hQ ne 0 M _ _ (by omega) eqx.rf rfl
theorem cfP_eq {M M' : Mem} {hp : Nat → Nat → Bool} {wy : Nat → Nat → Int32} {n b : Nat} {s : Int32} (he : eqx [69, 70] M M') (h8 : n ≤ 8) (hb : b < 8) : cfP M' hp wy n b s = cfP M hp wy n b s := by
  have e1 : M' 1 = M 1 := he 1 (by decide)
  have e12 : M' 12 = M 12 := he 12 (by decide)
  have e30 : ∀ x, x < 8 → M' (30 + x) = M (30 + x) := fun x hx => he (30 + x) (by simp; omega)
  have hstr : strS M' = strS M := strS_eq (he 14 (by decide)) (he 68 (by decide)) (he 10 (by decide))
  funext e
  unfold cfP
  rw [hstr, e1, e12, e30 b hb]
  congr 1
  exact anB_cong (fun x hx => by unfold nrP; simp only [e30 x (show x < 8 by omega)])
set_option maxHeartbeats 4000000 in
set_option maxRecDepth 100000 in
theorem l_cks {g : GG} {d : Nat} {Q : Option Value → Mem → Prop} {M0 : Mem} {hp : Nat → Nat → Bool} {wy : Nat → Nat → Int32} {n ne : Nat} (hV : VB M0 n ne) (hH : Hd M0 hp wy n ne) {b f l : Nat} (hb : b < n) (hl : l < 100) (hQ : ∀ M', eqx [69, 70] M0 M' → Q (some (.int (nI (cB (fun j => anB (cfP M0 hp wy n b (nI (f + j))) ne) (l + 1 - f))))) M') : ∀ (k j : Nat) (M : Mem), f + j + k = l + 1 → eqx [69, 70] M0 M → V cS g (d + 4) mX6_clashingSpots 6 [some (.ref 6), some (.int (nI b)), some (.int (nI f)), some (.int (nI l)), some (.int (nI (cB (fun j => anB (cfP M0 hp wy n b (nI (f + j))) ne) j))), some (.int (nI (f + j)))] [] M Q := by
  intro k
  induction k with
  | zero =>
    intro j M hk he
    refine V.iload dX6_clashingSpots_6 rfl ?_
    refine V.iload_n dX6_clashingSpots_8 rfl (i := 3) rfl ?_
    refine V.ic_gt (tgt := 31) dX6_clashingSpots_9 (by decide) (fun c9 => ?_) (fun q => absurd ((nI_lt (by omega) (by omega))) q)
    refine V.iload dX6_clashingSpots_31 rfl ?_
    exact V.ret dX6_clashingSpots_33 rfl (Qi (hQ M he) (by rw [show l + 1 - f = j by omega]))
  | succ k ih =>
    intro j M hk he
    have hVM : VB M n ne := hV.eq he (by decide) (by decide) (by decide) (fun b hb => by simp; omega)
    have hHM : Hd M hp wy n ne := hH.eq he hV.2.1 (by decide) (fun b hb => by simp; omega)
    have hstr : strS M = strS M0 := strS_eq (he 14 (by decide)) (he 68 (by decide)) (he 10 (by decide))
    have e1 : M 1 = M0 1 := he 1 (by decide)
    have e12 : M 12 = M0 12 := he 12 (by decide)
    have e30 : ∀ x, x < 8 → M (30 + x) = M0 (30 + x) := fun x hx => he (30 + x) (by simp; omega)
    have h8 := hV.2.1
    have h10 := hV.2.2.2.1
    have hb8 : b < 8 := by omega
    have hcj := cB_le (fun j => anB (cfP M0 hp wy n b (nI (f + j))) ne) j
    have hcf : cfP M hp wy n b (nI (f + j)) = cfP M0 hp wy n b (nI (f + j)) := cfP_eq he h8 hb8
    refine V.iload dX6_clashingSpots_6 rfl ?_
    refine V.iload_n dX6_clashingSpots_8 rfl (i := 3) rfl ?_
    refine V.ic_gt (tgt := 31) dX6_clashingSpots_9 (by decide) (fun q => absurd q ((nI_nlt (by omega) (by omega)))) (fun c9 => ?_)
    refine V.aload_n dX6_clashingSpots_12 rfl (i := 0) rfl ?_
    refine V.iload_n dX6_clashingSpots_13 rfl (i := 1) rfl ?_
    refine V.iload dX6_clashingSpots_14 rfl ?_
    refine V.invv (z := mX6_clashesFrom) (As := [_, _]) dX6_clashingSpots_16 rfl mlRX6_71 okX6_clashesFrom npX6_clashesFrom rfl rfl rfl ⟨by decide, by decide⟩ (Nat.le_of_ble_eq_true rfl) rfl (Nat.le_of_ble_eq_true rfl) (c_cf hVM hHM hb ⟨nI_pos' (by omega), nI_le (b := 99) (by omega) (by omega)⟩ (fun M1 hM1 => ?_))
    show V cS g (d + 4) mX6_clashingSpots 19 [some (.ref 6), some (.int (nI b)), some (.int (nI f)), some (.int (nI l)), some (.int (nI (cB (fun j => anB (cfP M0 hp wy n b (nI (f + j))) ne) j))), some (.int (nI (f + j)))] [.int (b2i (anB (cfP M hp wy n b (nI (f + j))) ne = true))] M1 Q
    refine V.top (x' := (b2i (anB (cfP M0 hp wy n b (nI (f + j))) ne = true))) ((by rw [hcf])) ?_
    refine V.if_eq (tgt := 25) dX6_clashingSpots_19 (by decide) (fun c19 => ?_) (fun c19 => ?_)
    · refine V.lseq (ls' := [some (.ref 6), some (.int (nI b)), some (.int (nI f)), some (.int (nI l)), some (.int (nI (cB (fun j => anB (cfP M0 hp wy n b (nI (f + j))) ne) (j + 1)))), some (.int (nI (f + j)))]) (by first | (rw [cB, if_neg (b2i_0.mp c19)]; try rfl) | (rw [cB, if_pos (Classical.byContradiction fun z => c19 (b2i_f z))]; try rfl)) ?_
      refine V.iinc dX6_clashingSpots_25 rfl (v := (nI ((f + j) + 1))) (nI_1 _) (by decide) (fun _ h => by cases h; exact Or.inl rfl) rfl ?_
      refine V.goto dX6_clashingSpots_28 (tgt := 6) (by decide) ?_
      exact ih (j + 1) M1 (by omega) (he.tr hM1)
    · refine V.iinc dX6_clashingSpots_22 rfl (v := (nI ((cB (fun j => anB (cfP M0 hp wy n b (nI (f + j))) ne) j) + 1))) (nI_1 _) (by decide) (fun _ h => by cases h; exact Or.inl rfl) rfl ?_
      refine V.lseq (ls' := [some (.ref 6), some (.int (nI b)), some (.int (nI f)), some (.int (nI l)), some (.int (nI (cB (fun j => anB (cfP M0 hp wy n b (nI (f + j))) ne) (j + 1)))), some (.int (nI (f + j)))]) (by first | (rw [cB, if_neg (b2i_0.mp c19)]; try rfl) | (rw [cB, if_pos (Classical.byContradiction fun z => c19 (b2i_f z))]; try rfl)) ?_
      refine V.iinc dX6_clashingSpots_25 rfl (v := (nI ((f + j) + 1))) (nI_1 _) (by decide) (fun _ h => by cases h; exact Or.inl rfl) rfl ?_
      refine V.goto dX6_clashingSpots_28 (tgt := 6) (by decide) ?_
      exact ih (j + 1) M1 (by omega) (he.tr hM1)
set_option maxHeartbeats 4000000 in
set_option maxRecDepth 100000 in
theorem c_cks {g : GG} {d : Nat} {M : Mem} {Q : Option Value → Mem → Prop} {hp : Nat → Nat → Bool} {wy : Nat → Nat → Int32} {n ne : Nat} (hV : VB M n ne) (hH : Hd M hp wy n ne) {b f l : Nat} (hb : b < n) (hl : l < 100) (hfl : f ≤ l + 1) (hQ : ∀ M', eqx [69, 70] M M' → Q (some (.int (nI (cB (fun j => anB (cfP M hp wy n b (nI (f + j))) ne) (l + 1 - f))))) M') : V cS g (d + 4) mX6_clashingSpots 0 [some (.ref 6), some (.int (nI b)), some (.int (nI f)), some (.int (nI l)), none, none] [] M Q := by
  refine V.iconst dX6_clashingSpots_0 (v := 0) (by decide) ?_
  refine V.istore dX6_clashingSpots_1 (i := 4) (by decide) (fun _ h => by cases h; exact Or.inl rfl) rfl ?_
  refine V.iload_n dX6_clashingSpots_3 rfl (i := 2) rfl ?_
  refine V.istore dX6_clashingSpots_4 (i := 5) (by decide) (fun _ h => by cases h; exact Or.inl rfl) rfl ?_
  exact l_cks hV hH hb hl hQ (l + 1 - f) 0 M (by omega) eqx.rf
set_option maxHeartbeats 4000000 in
set_option maxRecDepth 100000 in
theorem l_hb {g : GG} {d : Nat} {Q : Option Value → Mem → Prop} {M0 : Mem} {n ne : Nat} (hV : VB M0 n ne) {be : Nat → Nat} {c : Nat} (hc : c ≤ 10) {l s : Int32} (hs : rg 0 99 s) (hbe : ∀ i, i < c → M0 58 i = nI (be i) ∧ be i < ne) (hQ : ∀ M', eqx [69, 70] M0 M' → Q (some (.int (b2i (anB (fun i => hpL M0 l s (be i)) c = true)))) M') : ∀ (k i : Nat) (M : Mem) (l5 : Option Value), i + k = c → eqx [69, 70] M0 M → anB (fun i => hpL M0 l s (be i)) i = false → V cS g (d + 3) mX6_isHeardAtBad 3 [some (.ref 6), some (.int (nI c)), some (.int l), some (.int s), some (.int (nI i)), l5] [] M Q := by
  intro k
  induction k with
  | zero =>
    intro i M l5 hk he hf
    obtain rfl : i = c := by omega
    refine V.fg (ls' := [some (.ref 6), some (.int (nI i)), some (.int l), some (.int s), some (.int (nI i)), none]) ⟨rfl, rfl, rfl, rfl, rfl, trivial⟩ ?_
    refine V.iload dX6_isHeardAtBad_3 rfl ?_
    refine V.iload_n dX6_isHeardAtBad_5 rfl (i := 1) rfl ?_
    refine V.ic_ge (tgt := 56) dX6_isHeardAtBad_6 (by decide) (fun c6 => ?_) (fun q => absurd ((Int32.le_refl _)) q)
    refine V.iconst dX6_isHeardAtBad_56 (v := 0) (by decide) ?_
    exact V.zret dX6_isHeardAtBad_57 rfl (by first | exact Or.inl rfl | exact Or.inr rfl | assumption | exact b2i_zo _ | (repeat' split) <;> first | exact Or.inl rfl | exact Or.inr rfl | assumption | exact b2i_zo _) (Qi (hQ M he) (by rw [b2i_f (by rw [hf]; decide)]))
  | succ k ih =>
    intro i M l5 hk he hf
    have hVM : VB M n ne := hV.eq he (by decide) (by decide) (by decide) (fun b hb => by simp; omega)
    have hstr : strS M = strS M0 := strS_eq (he 14 (by decide)) (he 68 (by decide)) (he 10 (by decide))
    have h10 := hV.2.2.2.1
    have hi10 : i < 10 := by omega
    have hbi := hbe i (by omega)
    have hb10 : be i < 10 := by omega
    have hno : ¬ (fun i => hpL M0 l s (be i)) i = true → anB (fun i => hpL M0 l s (be i)) (i + 1) = false := fun q => by rw [anB, hf, Bool.false_or]; simpa using q
    refine V.fg (ls' := [some (.ref 6), some (.int (nI c)), some (.int l), some (.int s), some (.int (nI i)), none]) ⟨rfl, rfl, rfl, rfl, rfl, trivial⟩ ?_
    refine V.iload dX6_isHeardAtBad_3 rfl ?_
    refine V.iload_n dX6_isHeardAtBad_5 rfl (i := 1) rfl ?_
    refine V.ic_ge (tgt := 56) dX6_isHeardAtBad_6 (by decide) (fun q => absurd q ((nI_ge (a := i) (b := c) (by omega) (by omega)))) (fun c6 => ?_)
    refine V.aload_n dX6_isHeardAtBad_9 rfl (i := 0) rfl ?_
    refine V.getR dX6_isHeardAtBad_10 rfl flRX6_21 rfl ⟨by decide, by decide⟩ ?_
    refine V.getR dX6_isHeardAtBad_13 rfl flRX6_75 rfl ⟨by decide, by decide⟩ ?_
    refine V.aload_n dX6_isHeardAtBad_16 rfl (i := 0) rfl ?_
    refine V.getR dX6_isHeardAtBad_17 rfl flRX6_15 rfl ⟨by decide, by decide⟩ ?_
    refine V.iload dX6_isHeardAtBad_20 rfl ?_
    refine V.ialdN dX6_isHeardAtBad_22 rfl ⟨by decide, by decide⟩ (by first | assumption | decide | omega) (by decide) ?_
    refine V.top (x' := (nI (be i))) ((by rw [he 58 (by decide)]; exact hbi.1)) ?_
    refine V.ialdN dX6_isHeardAtBad_23 rfl ⟨by decide, by decide⟩ (by first | assumption | decide | omega) (by decide) ?_
    refine V.top (x' := (M0 12 (be i))) ((by rw [he 12 (by decide)])) ?_
    refine V.istore dX6_isHeardAtBad_24 (i := 5) (by decide) (fun _ h => by cases h; exact Or.inl rfl) rfl ?_
    refine V.aload_n dX6_isHeardAtBad_26 rfl (i := 0) rfl ?_
    refine V.getR dX6_isHeardAtBad_27 rfl flRX6_21 rfl ⟨by decide, by decide⟩ ?_
    refine V.iconst dX6_isHeardAtBad_30 (v := 0) (by decide) ?_
    refine V.iload_n dX6_isHeardAtBad_31 rfl (i := 2) rfl ?_
    refine V.iload_n dX6_isHeardAtBad_32 rfl (i := 3) rfl ?_
    refine V.iload dX6_isHeardAtBad_33 rfl ?_
    refine V.aload_n dX6_isHeardAtBad_35 rfl (i := 0) rfl ?_
    refine V.getR dX6_isHeardAtBad_36 rfl flRX6_21 rfl ⟨by decide, by decide⟩ ?_
    refine V.getI dX6_isHeardAtBad_39 rfl flRX6_78 rfl ⟨by decide, by decide⟩ ?_
    refine V.top (x' := (M0 1 5)) ((by rw [he 1 (by decide)])) ?_
    refine V.invv (z := mX7_strength) (As := [_, _, _, _, _]) dX6_isHeardAtBad_42 rfl mlRX6_124 okX7_strength npX7_strength rfl rfl rfl ⟨by decide, by decide⟩ (Nat.le_of_ble_eq_true rfl) rfl (Nat.le_of_ble_eq_true rfl) (c_strength  (hVM.2.2.2.2.1) (hs) (hV.2.2.2.2.2.2 (be i) hb10) (fun M1 hM1 => ?_))
    show V cS g (d + 3) mX6_isHeardAtBad 45 [some (.ref 6), some (.int (nI c)), some (.int l), some (.int s), some (.int (nI i)), some (.int (M0 12 (be i)))] [.int (strS M (0 : Int32) l s (M0 12 (be i)) (M0 1 5))] M1 Q
    refine V.top (x' := (strS M0 0 l s (M0 12 (be i)) (M0 1 5))) ((by rw [hstr])) ?_
    refine V.if_le (tgt := 50) dX6_isHeardAtBad_45 (by decide) (fun c45 => ?_) (fun c45 => ?_)
    · refine V.iinc dX6_isHeardAtBad_50 rfl (v := (nI (i + 1))) (nI_1 _) (by decide) (fun _ h => by cases h; exact Or.inl rfl) rfl ?_
      refine V.goto dX6_isHeardAtBad_53 (tgt := 3) (by decide) ?_
      exact ih (i + 1) M1 _ (by omega) (he.tr hM1) (hno (fun q => absurd (of_decide_eq_true q) (Int32.not_lt.mpr c45)))
    · refine V.iconst dX6_isHeardAtBad_48 (v := 1) (by decide) ?_
      exact V.zret dX6_isHeardAtBad_49 rfl (by first | exact Or.inl rfl | exact Or.inr rfl | assumption | exact b2i_zo _ | (repeat' split) <;> first | exact Or.inl rfl | exact Or.inr rfl | assumption | exact b2i_zo _) (Qi (hQ M1 (he.tr hM1)) (by rw [b2i_t (anB_iff.mpr ⟨i, by omega, decide_eq_true (Int32.not_le.mp c45)⟩)]))
set_option maxHeartbeats 4000000 in
set_option maxRecDepth 100000 in
theorem c_hb {g : GG} {d : Nat} {M : Mem} {Q : Option Value → Mem → Prop} {n ne : Nat} (hV : VB M n ne) {be : Nat → Nat} {c : Nat} (hc : c ≤ 10) {l s : Int32} (hs : rg 0 99 s) (hbe : ∀ i, i < c → M 58 i = nI (be i) ∧ be i < ne) (hQ : ∀ M', eqx [69, 70] M M' → Q (some (.int (b2i (anB (fun i => hpL M l s (be i)) c = true)))) M') : V cS g (d + 3) mX6_isHeardAtBad 0 [some (.ref 6), some (.int (nI c)), some (.int l), some (.int s), none, none] [] M Q := by
  refine V.iconst dX6_isHeardAtBad_0 (v := 0) (by decide) ?_
  refine V.istore dX6_isHeardAtBad_1 (i := 4) (by decide) (fun _ h => by cases h; exact Or.inl rfl) rfl ?_
  exact l_hb hV hc hs hbe hQ c 0 M _ (by omega) eqx.rf rfl
set_option maxHeartbeats 4000000 in
set_option maxRecDepth 100000 in
theorem l_la1 {g : GG} {d : Nat} {Q : Option Value → Mem → Prop} {M0 : Mem} {hp : Nat → Nat → Bool} {wy : Nat → Nat → Int32} {n ne : Nat} (hV : VB M0 n ne) (hH : Hd M0 hp wy n ne) {s : Int32} (hs : rg 0 99 s) (hc : ∀ M' (be : Nat → Nat) l4, eqx [58] M0 M' → (∀ i, i < cB (bdP M0 hp wy n s) ne → M' 58 i = nI (be i) ∧ be i < ne ∧ (bdP M0 hp wy n s) (be i) = true) → (∀ e, e < ne → (bdP M0 hp wy n s) e = true → ∃ i, i < cB (bdP M0 hp wy n s) ne ∧ be i = e) → V cS g (d + 4) mX6_loudestAt 67 [some (.ref 6), some (.int s), some (.int (nI (cB (bdP M0 hp wy n s) ne))), some (.int (nI ne)), l4] [] M' Q) : ∀ (k e : Nat) (M : Mem) (be : Nat → Nat) (l4 : Option Value), e + k = ne → eqx [58] M0 M → (∀ i, i < cB (bdP M0 hp wy n s) e → M 58 i = nI (be i) ∧ be i < e ∧ (bdP M0 hp wy n s) (be i) = true) → (∀ x, x < e → (bdP M0 hp wy n s) x = true → ∃ i, i < cB (bdP M0 hp wy n s) e ∧ be i = x) → V cS g (d + 4) mX6_loudestAt 4 [some (.ref 6), some (.int s), some (.int (nI (cB (bdP M0 hp wy n s) e))), some (.int (nI e)), l4] [] M Q := by
  intro k
  induction k with
  | zero =>
    intro e M be l4 hk he h1 h2
    obtain rfl : e = ne := by omega
    have hz : M 1 4 = nI e := by rw [he 1 (by decide)]; exact hV.2.2.1
    refine V.fg (ls' := [some (.ref 6), some (.int s), some (.int (nI (cB (bdP M0 hp wy n s) e))), some (.int (nI e)), none]) ⟨rfl, rfl, rfl, rfl, trivial⟩ ?_
    refine V.iload_n dX6_loudestAt_4 rfl (i := 3) rfl ?_
    refine V.aload_n dX6_loudestAt_5 rfl (i := 0) rfl ?_
    refine V.getR dX6_loudestAt_6 rfl flRX6_21 rfl ⟨by decide, by decide⟩ ?_
    refine V.getI dX6_loudestAt_9 rfl flRX6_53 rfl ⟨by decide, by decide⟩ ?_
    refine V.top (x' := (nI e)) (hz) ?_
    refine V.ic_ge (tgt := 67) dX6_loudestAt_12 (by decide) (fun c12 => ?_) (fun q => absurd ((Int32.le_refl _)) q)
    exact hc M be _ he h1 h2
  | succ k ih =>
    intro e M be l4 hk he h1 h2
    have hVM : VB M n ne := hV.eq he (by decide) (by decide) (by decide) (fun b hb => by simp; omega)
    have hHM : Hd M hp wy n ne := hH.eq he hV.2.1 (by decide) (fun b hb => by simp; omega)
    have h8 := hV.2.1
    have h10 := hV.2.2.2.1
    have he10 : e < 10 := by omega
    have hce := cB_le (bdP M0 hp wy n s) e
    have hc10 : cB (bdP M0 hp wy n s) e < 10 := by omega
    have e1 : M 1 = M0 1 := he 1 (by decide)
    have e30 : ∀ x, x < 8 → M (30 + x) = M0 (30 + x) := fun x hx => he (30 + x) (by simp; omega)
    have hnr : anB (nrP hp wy (M 1 6) (fun b => M (30 + b) 4) e (wayF s (M0 12 e) (M0 1 5)) (-1)) n = (bdP M0 hp wy n s) e := anB_cong (fun x hx => by unfold nrP; simp only [e1, e30 x (show x < 8 by omega)])
    refine V.fg (ls' := [some (.ref 6), some (.int s), some (.int (nI (cB (bdP M0 hp wy n s) e))), some (.int (nI e)), none]) ⟨rfl, rfl, rfl, rfl, trivial⟩ ?_
    refine V.iload_n dX6_loudestAt_4 rfl (i := 3) rfl ?_
    refine V.aload_n dX6_loudestAt_5 rfl (i := 0) rfl ?_
    refine V.getR dX6_loudestAt_6 rfl flRX6_21 rfl ⟨by decide, by decide⟩ ?_
    refine V.getI dX6_loudestAt_9 rfl flRX6_53 rfl ⟨by decide, by decide⟩ ?_
    refine V.top (x' := (nI ne)) (hVM.2.2.1) ?_
    refine V.ic_ge (tgt := 67) dX6_loudestAt_12 (by decide) (fun q => absurd q ((nI_ge (a := e) (b := ne) (by omega) (by omega)))) (fun c12 => ?_)
    refine V.iload_n dX6_loudestAt_15 rfl (i := 1) rfl ?_
    refine V.aload_n dX6_loudestAt_16 rfl (i := 0) rfl ?_
    refine V.getR dX6_loudestAt_17 rfl flRX6_21 rfl ⟨by decide, by decide⟩ ?_
    refine V.getR dX6_loudestAt_20 rfl flRX6_75 rfl ⟨by decide, by decide⟩ ?_
    refine V.iload_n dX6_loudestAt_23 rfl (i := 3) rfl ?_
    refine V.ialdN dX6_loudestAt_24 rfl ⟨by decide, by decide⟩ (by first | assumption | decide | omega) (by decide) ?_
    refine V.top (x' := (M0 12 e)) ((by rw [he 12 (by decide)])) ?_
    refine V.aload_n dX6_loudestAt_25 rfl (i := 0) rfl ?_
    refine V.getR dX6_loudestAt_26 rfl flRX6_21 rfl ⟨by decide, by decide⟩ ?_
    refine V.getI dX6_loudestAt_29 rfl flRX6_78 rfl ⟨by decide, by decide⟩ ?_
    refine V.top (x' := (M0 1 5)) ((by rw [e1])) ?_
    refine V.invsN (z := mX9_wayBetween) (As := [_, _, _]) (host := "OneBreath") dX6_loudestAt_32 rfl (by decide +kernel) okX9_wayBetween npX9_wayBetween rfl (Nat.le_of_ble_eq_true rfl) rfl (Nat.le_of_ble_eq_true rfl) (c_wayBetween   ?_)
    show V cS g (d + 4) mX6_loudestAt 35 [some (.ref 6), some (.int s), some (.int (nI (cB (bdP M0 hp wy n s) e))), some (.int (nI e)), none] [.int (wayF s (M0 12 e) (M0 1 5))] (M) Q
    refine V.istore dX6_loudestAt_35 (i := 4) (by decide) (fun _ h => by cases h; exact Or.inl rfl) rfl ?_
    refine V.aload_n dX6_loudestAt_37 rfl (i := 0) rfl ?_
    refine V.getR dX6_loudestAt_38 rfl flRX6_25 rfl ⟨by decide, by decide⟩ ?_
    refine V.iload_n dX6_loudestAt_41 rfl (i := 3) rfl ?_
    refine V.iload dX6_loudestAt_42 rfl ?_
    refine V.iconst dX6_loudestAt_44 (v := (-1)) (by decide) ?_
    refine V.invv (z := mX1_isNear) (As := [_, _, _]) dX6_loudestAt_45 rfl mlRX6_85 okX1_isNear npX1_isNear rfl rfl rfl ⟨by decide, by decide⟩ (Nat.le_of_ble_eq_true rfl) rfl (Nat.le_of_ble_eq_true rfl) (c_near hVM.cn hHM (by omega) ?_)
    show V cS g (d + 4) mX6_loudestAt 48 [some (.ref 6), some (.int s), some (.int (nI (cB (bdP M0 hp wy n s) e))), some (.int (nI e)), some (.int (wayF s (M0 12 e) (M0 1 5)))] [.int (b2i (anB (nrP hp wy (M 1 6) (fun b => M (30 + b) 4) e (wayF s (M0 12 e) (M0 1 5)) (-1)) n = true))] M Q
    refine V.top (x' := (b2i ((bdP M0 hp wy n s) e = true))) ((by rw [hnr])) ?_
    refine V.if_eq (tgt := 61) dX6_loudestAt_48 (by decide) (fun c48 => ?_) (fun c48 => ?_)
    · refine V.iinc dX6_loudestAt_61 rfl (v := (nI (e + 1))) (nI_1 _) (by decide) (fun _ h => by cases h; exact Or.inl rfl) rfl ?_
      refine V.goto dX6_loudestAt_64 (tgt := 4) (by decide) ?_
      first | exact V.lseq (ls' := [some (.ref 6), some (.int s), some (.int (nI (cB (bdP M0 hp wy n s) (e + 1)))), some (.int (nI (e + 1))), _]) (by rw [cB, if_neg (b2i_0.mp c48)]; rfl) (ih (e + 1) M be _ (by omega) he (fun i hi => by rw [cB, if_neg (b2i_0.mp c48)] at hi; exact ⟨(h1 i hi).1, by have := (h1 i hi).2.1; omega, (h1 i hi).2.2⟩) (fun x hx hb => by rw [cB, if_neg (b2i_0.mp c48)]; by_cases q : x = e; subst q; exact absurd hb (b2i_0.mp c48); exact h2 x (by omega) hb)) | exact V.lseq (ls' := [some (.ref 6), some (.int s), some (.int (nI (cB (bdP M0 hp wy n s) (e + 1)))), some (.int (nI (e + 1))), _]) (by rw [cB, if_pos (Classical.byContradiction fun z => c48 (b2i_f z))]; rfl) (ih (e + 1) _ (fun i => if i = cB (bdP M0 hp wy n s) e then e else be i) _ (by omega) (he.put (by decide)) (fun i hi => by rw [cB, if_pos (Classical.byContradiction fun z => c48 (b2i_f z))] at hi; (try dsimp only); by_cases q : i = cB (bdP M0 hp wy n s) e; rw [if_pos q, q]; exact ⟨put_s, by omega, Classical.byContradiction fun z => c48 (b2i_f z)⟩; rw [if_neg q, put_n (fun z => q z.2)]; exact ⟨(h1 i (by omega)).1, by have := (h1 i (by omega)).2.1; omega, (h1 i (by omega)).2.2⟩) (fun x hx hb => by rw [cB, if_pos (Classical.byContradiction fun z => c48 (b2i_f z))]; (try dsimp only); by_cases q : x = e; exact ⟨cB (bdP M0 hp wy n s) e, by omega, by rw [if_pos rfl, q]⟩; obtain ⟨i, hi1, hi2⟩ := h2 x (by omega) hb; exact ⟨i, by omega, by rw [if_neg (by omega)]; exact hi2⟩))
    · refine V.aload_n dX6_loudestAt_51 rfl (i := 0) rfl ?_
      refine V.getR dX6_loudestAt_52 rfl flRX6_15 rfl ⟨by decide, by decide⟩ ?_
      refine V.iload_n dX6_loudestAt_55 rfl (i := 2) rfl ?_
      refine V.iload_n dX6_loudestAt_56 rfl (i := 3) rfl ?_
      refine V.iastN dX6_loudestAt_57 rfl ⟨by decide, by decide⟩ (by first | assumption | decide | omega) (by decide) ?_
      refine V.iinc dX6_loudestAt_58 rfl (v := (nI ((cB (bdP M0 hp wy n s) e) + 1))) (nI_1 _) (by decide) (fun _ h => by cases h; exact Or.inl rfl) rfl ?_
      refine V.iinc dX6_loudestAt_61 rfl (v := (nI (e + 1))) (nI_1 _) (by decide) (fun _ h => by cases h; exact Or.inl rfl) rfl ?_
      refine V.goto dX6_loudestAt_64 (tgt := 4) (by decide) ?_
      first | exact V.lseq (ls' := [some (.ref 6), some (.int s), some (.int (nI (cB (bdP M0 hp wy n s) (e + 1)))), some (.int (nI (e + 1))), _]) (by rw [cB, if_neg (b2i_0.mp c48)]; rfl) (ih (e + 1) M be _ (by omega) he (fun i hi => by rw [cB, if_neg (b2i_0.mp c48)] at hi; exact ⟨(h1 i hi).1, by have := (h1 i hi).2.1; omega, (h1 i hi).2.2⟩) (fun x hx hb => by rw [cB, if_neg (b2i_0.mp c48)]; by_cases q : x = e; subst q; exact absurd hb (b2i_0.mp c48); exact h2 x (by omega) hb)) | exact V.lseq (ls' := [some (.ref 6), some (.int s), some (.int (nI (cB (bdP M0 hp wy n s) (e + 1)))), some (.int (nI (e + 1))), _]) (by rw [cB, if_pos (Classical.byContradiction fun z => c48 (b2i_f z))]; rfl) (ih (e + 1) _ (fun i => if i = cB (bdP M0 hp wy n s) e then e else be i) _ (by omega) (he.put (by decide)) (fun i hi => by rw [cB, if_pos (Classical.byContradiction fun z => c48 (b2i_f z))] at hi; (try dsimp only); by_cases q : i = cB (bdP M0 hp wy n s) e; rw [if_pos q, q]; exact ⟨put_s, by omega, Classical.byContradiction fun z => c48 (b2i_f z)⟩; rw [if_neg q, put_n (fun z => q z.2)]; exact ⟨(h1 i (by omega)).1, by have := (h1 i (by omega)).2.1; omega, (h1 i (by omega)).2.2⟩) (fun x hx hb => by rw [cB, if_pos (Classical.byContradiction fun z => c48 (b2i_f z))]; (try dsimp only); by_cases q : x = e; exact ⟨cB (bdP M0 hp wy n s) e, by omega, by rw [if_pos rfl, q]⟩; obtain ⟨i, hi1, hi2⟩ := h2 x (by omega) hb; exact ⟨i, by omega, by rw [if_neg (by omega)]; exact hi2⟩))
set_option maxHeartbeats 4000000 in
set_option maxRecDepth 100000 in
theorem l_la2 {g : GG} {d : Nat} {Q : Option Value → Mem → Prop} {M0 : Mem} {hp : Nat → Nat → Bool} {wy : Nat → Nat → Int32} {n ne : Nat} (hV : VB M0 n ne) (hH : Hd M0 hp wy n ne) {s : Int32} (hs : rg 0 99 s) {be : Nat → Nat} {M1 : Mem} (he1 : eqx [58] M0 M1) (h1 : ∀ i, i < cB (bdP M0 hp wy n s) ne → M1 58 i = nI (be i) ∧ be i < ne ∧ (bdP M0 hp wy n s) (be i) = true) (h2 : ∀ e, e < ne → (bdP M0 hp wy n s) e = true → ∃ i, i < cB (bdP M0 hp wy n s) ne ∧ be i = e) : ∀ (k : Nat) (M : Mem) (l4 : Option Value), k ≤ 100 → eqx [69, 70] M1 M → (∀ M', eqx [58, 69, 70] M0 M' → Q (some (.int (ldF (fun l => !anB (fun e => bdP M0 hp wy n s e && hpL M0 (nI l) s e) ne) k))) M') → V cS g (d + 4) mX6_loudestAt 70 [some (.ref 6), some (.int s), some (.int (nI (cB (bdP M0 hp wy n s) ne))), some (.int (nI k - 1)), l4] [] M Q := by
  intro k
  induction k with
  | zero =>
    intro M l4 hk he hQ
    refine V.fg (ls' := [some (.ref 6), some (.int s), some (.int (nI (cB (bdP M0 hp wy n s) ne))), some (.int (nI 0 - 1)), none]) ⟨rfl, rfl, rfl, rfl, trivial⟩ ?_
    refine V.iload_n dX6_loudestAt_70 rfl (i := 3) rfl ?_
    refine V.if_lt (tgt := 92) dX6_loudestAt_71 (by decide) (fun c71 => ?_) (fun q => absurd ((by decide)) q)
    refine V.iconst dX6_loudestAt_92 (v := (-1)) (by decide) ?_
    exact V.ret dX6_loudestAt_93 rfl (hQ M ((he1.up (by decide)).tr (he.up (by decide))))
  | succ k ih =>
    intro M l4 hk he hQ
    have h10 := hV.2.2.2.1
    have hV1 : VB M1 n ne := hV.eq he1 (by decide) (by decide) (by decide) (fun b hb => by simp; omega)
    have hVM : VB M n ne := hV1.eq he (by decide) (by decide) (by decide) (fun b hb => by simp; omega)
    have hcn := cB_le (bdP M0 hp wy n s) ne
    have hstr : strS M = strS M0 := by rw [strS_eq (he 14 (by decide)) (he 68 (by decide)) (he 10 (by decide)), strS_eq (he1 14 (by decide)) (he1 68 (by decide)) (he1 10 (by decide))]
    have hbe : ∀ i, i < cB (bdP M0 hp wy n s) ne → M 58 i = nI (be i) ∧ be i < ne := fun i hi => by rw [he 58 (by decide)]; exact ⟨(h1 i hi).1, (h1 i hi).2.1⟩
    have hany : anB (fun i => hpL M (nI k) s (be i)) (cB (bdP M0 hp wy n s) ne) = anB (fun e => bdP M0 hp wy n s e && hpL M0 (nI k) s e) ne := by
      have hl : ∀ x, hpL M (nI k) s x = hpL M0 (nI k) s x := fun x => by unfold hpL; rw [hstr, he 12 (by decide), he1 12 (by decide), he 1 (by decide), he1 1 (by decide)]
      rw [Bool.eq_iff_iff, anB_iff, anB_iff]
      constructor
      · rintro ⟨i, h3, h4⟩
        exact ⟨be i, (h1 i h3).2.1, by rw [(h1 i h3).2.2, Bool.true_and, ← hl]; exact h4⟩
      · rintro ⟨e, h3, h4⟩
        rw [Bool.and_eq_true] at h4
        obtain ⟨i, h5, h6⟩ := h2 e h3 h4.1
        exact ⟨i, h5, by rw [h6, hl]; exact h4.2⟩
    refine V.lseq (ls' := [some (.ref 6), some (.int s), some (.int (nI (cB (bdP M0 hp wy n s) ne))), some (.int (nI k)), l4]) (by rw [nI_pred]) ?_
    refine V.fg (ls' := [some (.ref 6), some (.int s), some (.int (nI (cB (bdP M0 hp wy n s) ne))), some (.int (nI k)), none]) ⟨rfl, rfl, rfl, rfl, trivial⟩ ?_
    refine V.iload_n dX6_loudestAt_70 rfl (i := 3) rfl ?_
    refine V.if_lt (tgt := 92) dX6_loudestAt_71 (by decide) (fun q => absurd q ((nI_pos (by omega)))) (fun c71 => ?_)
    refine V.aload_n dX6_loudestAt_74 rfl (i := 0) rfl ?_
    refine V.iload_n dX6_loudestAt_75 rfl (i := 2) rfl ?_
    refine V.iload_n dX6_loudestAt_76 rfl (i := 3) rfl ?_
    refine V.iload_n dX6_loudestAt_77 rfl (i := 1) rfl ?_
    refine V.invv (z := mX6_isHeardAtBad) (As := [_, _, _]) dX6_loudestAt_78 rfl mlRX6_89 okX6_isHeardAtBad npX6_isHeardAtBad rfl rfl rfl ⟨by decide, by decide⟩ (Nat.le_of_ble_eq_true rfl) rfl (Nat.le_of_ble_eq_true rfl) (c_hb hVM (by omega) hs hbe (fun M2 hM2 => ?_))
    show V cS g (d + 4) mX6_loudestAt 81 [some (.ref 6), some (.int s), some (.int (nI (cB (bdP M0 hp wy n s) ne))), some (.int (nI k)), none] [.int (b2i (anB (fun i => hpL M (nI k) s (be i)) (cB (bdP M0 hp wy n s) ne) = true))] M2 Q
    refine V.top (x' := (b2i (anB (fun e => bdP M0 hp wy n s e && hpL M0 (nI k) s e) ne = true))) ((by rw [hany])) ?_
    refine V.if_ne (tgt := 86) dX6_loudestAt_81 (by decide) (fun c81 => ?_) (fun c81 => ?_)
    · refine V.iinc dX6_loudestAt_86 rfl (v := (nI k - 1)) (by rw [Int32.sub_eq_add_neg]; rfl) (by decide) (fun _ h => by cases h; exact Or.inl rfl) rfl ?_
      refine V.goto dX6_loudestAt_89 (tgt := 70) (by decide) ?_
      exact ih M2 _ (by omega) (he.tr hM2) (fun M' h' => Qi (hQ M' h') (by rw [ldF, if_neg (by have : anB (fun e => bdP M0 hp wy n s e && hpL M0 (nI k) s e) ne = true := Classical.byContradiction fun z => c81 (b2i_f z); simp [this])]))
    · refine V.iload_n dX6_loudestAt_84 rfl (i := 3) rfl ?_
      exact V.ret dX6_loudestAt_85 rfl (Qi (hQ M2 ((he1.up (by decide)).tr ((he.tr hM2).up (by decide)))) (by rw [ldF, if_pos (by have := b2i_0.mp c81; simpa using this)]))
set_option maxHeartbeats 4000000 in
set_option maxRecDepth 100000 in
theorem c_la {g : GG} {d : Nat} {M : Mem} {Q : Option Value → Mem → Prop} {hp : Nat → Nat → Bool} {wy : Nat → Nat → Int32} {n ne : Nat} (hV : VB M n ne) (hH : Hd M hp wy n ne) {s : Int32} (hs : rg 0 99 s) (hQ : ∀ M', eqx [58, 69, 70] M M' → Q (some (.int (ldF (fun l => !anB (fun e => bdP M hp wy n s e && hpL M (nI l) s e) ne) 100))) M') : V cS g (d + 4) mX6_loudestAt 0 [some (.ref 6), some (.int s), none, none, none] [] M Q := by
  refine V.iconst dX6_loudestAt_0 (v := 0) (by decide) ?_
  refine V.istore_n dX6_loudestAt_1 rfl (i := 2) (by decide) (fun _ h => by cases h; exact Or.inl rfl) rfl ?_
  refine V.iconst dX6_loudestAt_2 (v := 0) (by decide) ?_
  refine V.istore_n dX6_loudestAt_3 rfl (i := 3) (by decide) (fun _ h => by cases h; exact Or.inl rfl) rfl ?_
  refine l_la1 hV hH hs (fun M1 be l4 he1 h1 h2 => ?_) ne 0 M (fun _ => 0) none (by omega) eqx.rf (fun i hi => absurd hi (Nat.not_lt_zero _)) (fun x hx => absurd hx (Nat.not_lt_zero _))
  refine V.fg (ls' := [some (.ref 6), some (.int s), some (.int (nI (cB (bdP M hp wy n s) ne))), some (.int (nI ne)), none]) ⟨rfl, rfl, rfl, rfl, trivial⟩ ?_
  refine V.bipush dX6_loudestAt_67 (v := 99) (by decide) ?_
  refine V.top (x' := (nI 100 - 1)) ((by decide)) ?_
  refine V.istore_n dX6_loudestAt_69 rfl (i := 3) (by decide) (fun _ h => by cases h; exact Or.inl rfl) rfl ?_
  exact l_la2 hV hH hs he1 h1 h2 100 M1 _ (by omega) eqx.rf hQ

