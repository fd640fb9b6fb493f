/-! ===== Trials: the best shift ===== -/
theorem sN_neg : ∀ v, v ≤ 300 → -(nI v) = sN (300 - v) := by decide +kernel
theorem sN_pos : ∀ v, v ≤ 300 → nI v = sN (300 + v) := by decide +kernel
theorem sN_0 : (0 : Int32) = sN 300 := by decide
theorem sN_300 (x : Nat) : sN x + 300 = nI x := sh_idx x
/-- the place of the best shift of at most k -/
def bsF (W : Nat → Int32) : Nat → Nat
  | 0 => 300
  | k + 1 => if W (300 + (k + 1)) < W (if W (300 - (k + 1)) < W (bsF W k) then 300 - (k + 1) else bsF W k) then 300 + (k + 1) else if W (300 - (k + 1)) < W (bsF W k) then 300 - (k + 1) else bsF W k
theorem bsF_le (W : Nat → Int32) : ∀ k, k ≤ 300 → bsF W k ≤ 600
  | 0, _ => by unfold bsF; omega
  | k + 1, h => by
    have := bsF_le W k (by omega)
    unfold bsF
    repeat' split
    all_goals omega

set_option maxHeartbeats 4000000 in
set_option maxRecDepth 100000 in
theorem c_wa {g : GG} {d : Nat} {M : Mem} {Q : Option Value → Mem → Prop} {x : Nat} (hx : x < 601) (hQ : Q (some (.int (bcF (M 59 x)))) (M)) : V cS g (d + 1) mX6_windsAgainst 0 [some (.ref 6), some (.int (sN x)), none] [] M Q := by
  refine V.iload_n dX6_windsAgainst_0 rfl (i := 1) rfl ?_
  refine V.sipush dX6_windsAgainst_1 (v := 300) (by decide) ?_
  refine V.iadd dX6_windsAgainst_4 ?_
  refine V.top (x' := (nI x)) ((sN_300 x)) ?_
  refine V.istore_n dX6_windsAgainst_5 rfl (i := 2) (by decide) (fun _ h => by cases h; exact Or.inl rfl) rfl ?_
  refine V.iload_n dX6_windsAgainst_6 rfl (i := 2) rfl ?_
  refine V.if_lt (tgt := 31) dX6_windsAgainst_7 (by decide) (fun q => absurd q ((fun z => absurd z (nI_pos (by omega))))) (fun c7 => ?_)
  refine V.iload_n dX6_windsAgainst_10 rfl (i := 2) rfl ?_
  refine V.aload_n dX6_windsAgainst_11 rfl (i := 0) rfl ?_
  refine V.getR dX6_windsAgainst_12 rfl flRX6_18 rfl ⟨by decide, by decide⟩ ?_
  refine V.alen dX6_windsAgainst_15 rfl (by decide) ⟨by decide, by decide⟩ ?_
  refine V.ic_ge (tgt := 31) dX6_windsAgainst_16 (by decide) (fun q => absurd q ((nI_ge (a := x) (b := 601) (by omega) (by omega)))) (fun c16 => ?_)
  refine V.aload_n dX6_windsAgainst_19 rfl (i := 0) rfl ?_
  refine V.getR dX6_windsAgainst_20 rfl flRX6_18 rfl ⟨by decide, by decide⟩ ?_
  refine V.iload_n dX6_windsAgainst_23 rfl (i := 2) rfl ?_
  refine V.ialdN dX6_windsAgainst_24 rfl ⟨by decide, by decide⟩ (by first | assumption | decide | omega) (by decide) ?_
  refine V.invs (z := mJ6_bitCount_0f7a4) (As := [_]) dX6_windsAgainst_25 rfl mlRX6_60 okJ6_bitCount_0f7a4 npJ6_bitCount_0f7a4 rfl (Nat.le_of_ble_eq_true rfl) rfl (Nat.le_of_ble_eq_true rfl) (c_bitCount   ?_)
  show V cS g (d + 1) mX6_windsAgainst 28 [some (.ref 6), some (.int (sN x)), some (.int (nI x))] [.int (bcF (M 59 x))] (M) Q
  refine V.goto dX6_windsAgainst_28 (tgt := 32) (by decide) ?_
  exact V.ret dX6_windsAgainst_32 rfl (hQ)
set_option maxHeartbeats 4000000 in
set_option maxRecDepth 100000 in
theorem l_bs2 {g : GG} {d : Nat} {M : Mem} {Q : Option Value → Mem → Prop} {v y : Nat} (hy : y < 601) (hv : v + 1 ≤ 300) (hc : V cS g (d + 2) mX6_bestShift 4 [some (.ref 6), some (.int (sN (if bcF (M 59 (300 + (v + 1))) < bcF (M 59 y) then 300 + (v + 1) else y))), some (.int (nI (v + 1 + 1)))] [] M Q) : V cS g (d + 2) mX6_bestShift 32 [some (.ref 6), some (.int (sN y)), some (.int (nI (v + 1)))] [] M Q := by
  have hp : 300 + (v + 1) < 601 := by omega
  refine V.aload_n dX6_bestShift_32 rfl (i := 0) rfl ?_
  refine V.iload_n dX6_bestShift_33 rfl (i := 2) rfl ?_
  refine V.top (x' := (sN (300 + (v + 1)))) ((sN_pos (v + 1) hv)) ?_
  refine V.invv (z := mX6_windsAgainst) (As := [_]) dX6_bestShift_34 rfl mlRX6_68 okX6_windsAgainst npX6_windsAgainst rfl rfl rfl ⟨by decide, by decide⟩ (Nat.le_of_ble_eq_true rfl) rfl (Nat.le_of_ble_eq_true rfl) (c_wa hp ?_)
  show V cS g (d + 2) mX6_bestShift 37 [some (.ref 6), some (.int (sN y)), some (.int (nI (v + 1)))] [.int (bcF (M 59 (300 + (v + 1))))] M Q
  refine V.aload_n dX6_bestShift_37 rfl (i := 0) rfl ?_
  refine V.iload_n dX6_bestShift_38 rfl (i := 1) rfl ?_
  refine V.invv (z := mX6_windsAgainst) (As := [_]) dX6_bestShift_39 rfl mlRX6_68 okX6_windsAgainst npX6_windsAgainst rfl rfl rfl ⟨by decide, by decide⟩ (Nat.le_of_ble_eq_true rfl) rfl (Nat.le_of_ble_eq_true rfl) (c_wa hy ?_)
  show V cS g (d + 2) mX6_bestShift 42 [some (.ref 6), some (.int (sN y)), some (.int (nI (v + 1)))] [.int (bcF (M 59 y)), .int (bcF (M 59 (300 + (v + 1))))] M Q
  refine V.ic_ge (tgt := 47) dX6_bestShift_42 (by decide) (fun c42 => ?_) (fun c42 => ?_)
  · refine V.lseq (ls' := [some (.ref 6), some (.int (sN (if bcF (M 59 (300 + (v + 1))) < bcF (M 59 y) then 300 + (v + 1) else y))), some (.int (nI (v + 1)))]) (by first | (rw [if_pos (Int32.not_le.mp c42)]; try rfl) | (rw [if_neg (Int32.not_lt.mpr c42)]; try rfl)) ?_
    refine V.iinc dX6_bestShift_47 rfl (v := (nI ((v + 1) + 1))) (nI_1 _) (by decide) (fun _ h => by cases h; exact Or.inl rfl) rfl ?_
    refine V.goto dX6_bestShift_50 (tgt := 4) (by decide) ?_
    exact hc
  · refine V.iload_n dX6_bestShift_45 rfl (i := 2) rfl ?_
    refine V.top (x' := (sN (300 + (v + 1)))) ((sN_pos (v + 1) hv)) ?_
    refine V.istore_n dX6_bestShift_46 rfl (i := 1) (by decide) (fun _ h => by cases h; exact Or.inl rfl) rfl ?_
    refine V.lseq (ls' := [some (.ref 6), some (.int (sN (if bcF (M 59 (300 + (v + 1))) < bcF (M 59 y) then 300 + (v + 1) else y))), some (.int (nI (v + 1)))]) (by first | (rw [if_pos (Int32.not_le.mp c42)]; try rfl) | (rw [if_neg (Int32.not_lt.mpr c42)]; try rfl)) ?_
    refine V.iinc dX6_bestShift_47 rfl (v := (nI ((v + 1) + 1))) (nI_1 _) (by decide) (fun _ h => by cases h; exact Or.inl rfl) rfl ?_
    refine V.goto dX6_bestShift_50 (tgt := 4) (by decide) ?_
    exact hc
set_option maxHeartbeats 4000000 in
set_option maxRecDepth 100000 in
theorem l_bs {g : GG} {d : Nat} {M : Mem} {Q : Option Value → Mem → Prop} {bd : Nat} (hb : M 1 7 = nI bd) (hd : bd ≤ 300) (hQ : Q (some (.int (sN (bsF (fun x => bcF (M 59 x)) bd)))) M) : ∀ (k v : Nat), v + k = bd → V cS g (d + 2) mX6_bestShift 4 [some (.ref 6), some (.int (sN (bsF (fun x => bcF (M 59 x)) v))), some (.int (nI (v + 1)))] [] M Q := by
  intro k
  induction k with
  | zero =>
    intro v hk
    obtain rfl : v = bd := by omega
    refine V.iload_n dX6_bestShift_4 rfl (i := 2) rfl ?_
    refine V.aload_n dX6_bestShift_5 rfl (i := 0) rfl ?_
    refine V.getR dX6_bestShift_6 rfl flRX6_21 rfl ⟨by decide, by decide⟩ ?_
    refine V.getI dX6_bestShift_9 rfl flRX6_65 rfl ⟨by decide, by decide⟩ ?_
    refine V.top (x' := (nI v)) (hb) ?_
    refine V.ic_gt (tgt := 53) dX6_bestShift_12 (by decide) (fun c12 => ?_) (fun q => absurd ((nI_lt (by omega) (by omega))) q)
    refine V.iload_n dX6_bestShift_53 rfl (i := 1) rfl ?_
    exact V.ret dX6_bestShift_54 rfl (hQ)
  | succ k ih =>
    intro v hk
    have hy := bsF_le (fun x => bcF (M 59 x)) v (by omega)
    have hy1 : bsF (fun x => bcF (M 59 x)) v < 601 := by omega
    have hm : 300 - (v + 1) < 601 := by omega
    have hp : 300 + (v + 1) < 601 := by omega
    refine V.iload_n dX6_bestShift_4 rfl (i := 2) rfl ?_
    refine V.aload_n dX6_bestShift_5 rfl (i := 0) rfl ?_
    refine V.getR dX6_bestShift_6 rfl flRX6_21 rfl ⟨by decide, by decide⟩ ?_
    refine V.getI dX6_bestShift_9 rfl flRX6_65 rfl ⟨by decide, by decide⟩ ?_
    refine V.top (x' := (nI bd)) (hb) ?_
    refine V.ic_gt (tgt := 53) dX6_bestShift_12 (by decide) (fun q => absurd q ((nI_nlt (by omega) (by omega)))) (fun c12 => ?_)
    refine V.aload_n dX6_bestShift_15 rfl (i := 0) rfl ?_
    refine V.iload_n dX6_bestShift_16 rfl (i := 2) rfl ?_
    refine V.ineg dX6_bestShift_17 ?_
    refine V.top (x' := (sN (300 - (v + 1)))) ((sN_neg (v + 1) (by omega))) ?_
    refine V.invv (z := mX6_windsAgainst) (As := [_]) dX6_bestShift_18 rfl mlRX6_68 okX6_windsAgainst npX6_windsAgainst rfl rfl rfl ⟨by decide, by decide⟩ (Nat.le_of_ble_eq_true rfl) rfl (Nat.le_of_ble_eq_true rfl) (c_wa hm ?_)
    show V cS g (d + 2) mX6_bestShift 21 [some (.ref 6), some (.int (sN (bsF (fun x => bcF (M 59 x)) v))), some (.int (nI (v + 1)))] [.int (bcF (M 59 (300 - (v + 1))))] M Q
    refine V.aload_n dX6_bestShift_21 rfl (i := 0) rfl ?_
    refine V.iload_n dX6_bestShift_22 rfl (i := 1) rfl ?_
    refine V.invv (z := mX6_windsAgainst) (As := [_]) dX6_bestShift_23 rfl mlRX6_68 okX6_windsAgainst npX6_windsAgainst rfl rfl rfl ⟨by decide, by decide⟩ (Nat.le_of_ble_eq_true rfl) rfl (Nat.le_of_ble_eq_true rfl) (c_wa hy1 ?_)
    show V cS g (d + 2) mX6_bestShift 26 [some (.ref 6), some (.int (sN (bsF (fun x => bcF (M 59 x)) v))), some (.int (nI (v + 1)))] [.int (bcF (M 59 (bsF (fun x => bcF (M 59 x)) v))), .int (bcF (M 59 (300 - (v + 1))))] M Q
    refine V.ic_ge (tgt := 32) dX6_bestShift_26 (by decide) (fun c26 => ?_) (fun c26 => ?_)
    · refine V.lseq (ls' := [some (.ref 6), some (.int (sN (if bcF (M 59 (300 - (v + 1))) < bcF (M 59 (bsF (fun x => bcF (M 59 x)) v)) then 300 - (v + 1) else bsF (fun x => bcF (M 59 x)) v))), some (.int (nI (v + 1)))]) (by first | (rw [if_pos (Int32.not_le.mp c26)]; try rfl) | (rw [if_neg (Int32.not_lt.mpr c26)]; try rfl)) (l_bs2 (by split <;> omega) (by omega) (ih (v + 1) (by omega)))
    · refine V.iload_n dX6_bestShift_29 rfl (i := 2) rfl ?_
      refine V.ineg dX6_bestShift_30 ?_
      refine V.top (x' := (sN (300 - (v + 1)))) ((sN_neg (v + 1) (by omega))) ?_
      refine V.istore_n dX6_bestShift_31 rfl (i := 1) (by decide) (fun _ h => by cases h; exact Or.inl rfl) rfl ?_
      refine V.lseq (ls' := [some (.ref 6), some (.int (sN (if bcF (M 59 (300 - (v + 1))) < bcF (M 59 (bsF (fun x => bcF (M 59 x)) v)) then 300 - (v + 1) else bsF (fun x => bcF (M 59 x)) v))), some (.int (nI (v + 1)))]) (by first | (rw [if_pos (Int32.not_le.mp c26)]; try rfl) | (rw [if_neg (Int32.not_lt.mpr c26)]; try rfl)) (l_bs2 (by split <;> omega) (by omega) (ih (v + 1) (by omega)))
set_option maxHeartbeats 4000000 in
set_option maxRecDepth 100000 in
theorem c_bs {g : GG} {d : Nat} {M : Mem} {Q : Option Value → Mem → Prop} {bd : Nat} (hb : M 1 7 = nI bd) (hd : bd ≤ 300) (hQ : Q (some (.int (sN (bsF (fun x => bcF (M 59 x)) bd)))) M) : V cS g (d + 2) mX6_bestShift 0 [some (.ref 6), none, none] [] M Q := by
  refine V.iconst dX6_bestShift_0 (v := 0) (by decide) ?_
  refine V.istore_n dX6_bestShift_1 rfl (i := 1) (by decide) (fun _ h => by cases h; exact Or.inl rfl) rfl ?_
  refine V.iconst dX6_bestShift_2 (v := 1) (by decide) ?_
  refine V.istore_n dX6_bestShift_3 rfl (i := 2) (by decide) (fun _ h => by cases h; exact Or.inl rfl) rfl ?_
  exact V.lseq (ls' := [some (.ref 6), some (.int (sN (bsF (fun x => bcF (M 59 x)) 0))), some (.int (nI (0 + 1)))]) (by rw [bsF, ← sN_0]; rfl) (l_bs hb hd hQ bd 0 (by omega))

