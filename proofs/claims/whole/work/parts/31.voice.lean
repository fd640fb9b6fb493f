/-! ===== Voices: whose body ===== -/
/-- the body by which a kind does an act -/
def bdN (k a : Nat) : Nat := (([[10, 11, 12, 13], [10, 20, 12, 13], [30, 11, 12, 13], [10, 11, 40, 13], [10, 50, 12, 13], [10, 20, 12, 60], [10, 11, 70, 71]] : List (List Nat)).getD k []).getD a 0
theorem lt4 {P : Nat → Prop} (h0 : P 0) (h1 : P 1) (h2 : P 2) (h3 : P 3) : ∀ j, j < 4 → P j := by
  intro j hj
  match j, hj with
  | 0, _ => exact h0
  | 1, _ => exact h1
  | 2, _ => exact h2
  | 3, _ => exact h3

set_option maxHeartbeats 4000000 in
set_option maxRecDepth 100000 in
theorem l_bd_0_0 {g : GG} {d : Nat} {M : Mem} {Q : Option Value → Mem → Prop} {f : Int32} {t : Nat} (ht : t ≤ 6) (hQ : Q (some (.int (10 : Int32))) M) : V cS g d mX8_bodyOf 4 [some (.int f), some (.int (0 : Int32)), some (.int (0 : Int32)), some (.int (nI t))] [] M Q := by
  refine V.iload_n dX8_bodyOf_4 rfl (i := 3) rfl ?_
  refine V.bipush dX8_bodyOf_5 (v := 7) (by decide) ?_
  refine V.ic_ge (tgt := 54) dX8_bodyOf_7 (by decide) (fun q => absurd q ((nI_ge (a := t) (b := 7) (by omega) (by omega)))) (fun c7 => ?_)
  refine V.iload_n dX8_bodyOf_10 rfl (i := 2) rfl ?_
  refine V.if_lt (tgt := 54) dX8_bodyOf_11 (by decide) (fun q => absurd q ((by decide))) (fun c11 => ?_)
  refine V.iload_n dX8_bodyOf_14 rfl (i := 2) rfl ?_
  refine V.bipush dX8_bodyOf_15 (v := 7) (by decide) ?_
  refine V.ic_ge (tgt := 54) dX8_bodyOf_17 (by decide) (fun q => absurd q ((by decide))) (fun c17 => ?_)
  refine V.gets (j := 3) dX8_bodyOf_20 rfl rfl slRX8_46 ?_
  refine V.iload_n dX8_bodyOf_23 rfl (i := 2) rfl ?_
  refine V.iconst dX8_bodyOf_24 (v := 4) (by decide) ?_
  refine V.imul dX8_bodyOf_25 ?_
  refine V.iload_n dX8_bodyOf_26 rfl (i := 1) rfl ?_
  refine V.iadd dX8_bodyOf_27 ?_
  refine V.iaTb (j := 3) dX8_bodyOf_28 rfl (by unfold vp_in; decide) ?_
  refine V.top (x' := (10 : Int32)) ((by decide)) ?_
  refine V.if_eq (tgt := 42) dX8_bodyOf_29 (by decide) (fun q => absurd q ((by decide))) (fun c29 => ?_)
  refine V.gets (j := 3) dX8_bodyOf_32 rfl rfl slRX8_46 ?_
  refine V.iload_n dX8_bodyOf_35 rfl (i := 2) rfl ?_
  refine V.iconst dX8_bodyOf_36 (v := 4) (by decide) ?_
  refine V.imul dX8_bodyOf_37 ?_
  refine V.iload_n dX8_bodyOf_38 rfl (i := 1) rfl ?_
  refine V.iadd dX8_bodyOf_39 ?_
  refine V.iaTb (j := 3) dX8_bodyOf_40 rfl (by unfold vp_in; decide) ?_
  refine V.top (x' := (10 : Int32)) ((by decide)) ?_
  exact V.ret dX8_bodyOf_41 rfl (hQ)
set_option maxHeartbeats 4000000 in
set_option maxRecDepth 100000 in
theorem l_bd_0_1 {g : GG} {d : Nat} {M : Mem} {Q : Option Value → Mem → Prop} {f : Int32} {t : Nat} (ht : t ≤ 6) (hQ : Q (some (.int (11 : Int32))) M) : V cS g d mX8_bodyOf 4 [some (.int f), some (.int (1 : Int32)), some (.int (0 : Int32)), some (.int (nI t))] [] M Q := by
  refine V.iload_n dX8_bodyOf_4 rfl (i := 3) rfl ?_
  refine V.bipush dX8_bodyOf_5 (v := 7) (by decide) ?_
  refine V.ic_ge (tgt := 54) dX8_bodyOf_7 (by decide) (fun q => absurd q ((nI_ge (a := t) (b := 7) (by omega) (by omega)))) (fun c7 => ?_)
  refine V.iload_n dX8_bodyOf_10 rfl (i := 2) rfl ?_
  refine V.if_lt (tgt := 54) dX8_bodyOf_11 (by decide) (fun q => absurd q ((by decide))) (fun c11 => ?_)
  refine V.iload_n dX8_bodyOf_14 rfl (i := 2) rfl ?_
  refine V.bipush dX8_bodyOf_15 (v := 7) (by decide) ?_
  refine V.ic_ge (tgt := 54) dX8_bodyOf_17 (by decide) (fun q => absurd q ((by decide))) (fun c17 => ?_)
  refine V.gets (j := 3) dX8_bodyOf_20 rfl rfl slRX8_46 ?_
  refine V.iload_n dX8_bodyOf_23 rfl (i := 2) rfl ?_
  refine V.iconst dX8_bodyOf_24 (v := 4) (by decide) ?_
  refine V.imul dX8_bodyOf_25 ?_
  refine V.iload_n dX8_bodyOf_26 rfl (i := 1) rfl ?_
  refine V.iadd dX8_bodyOf_27 ?_
  refine V.iaTb (j := 3) dX8_bodyOf_28 rfl (by unfold vp_in; decide) ?_
  refine V.top (x' := (11 : Int32)) ((by decide)) ?_
  refine V.if_eq (tgt := 42) dX8_bodyOf_29 (by decide) (fun q => absurd q ((by decide))) (fun c29 => ?_)
  refine V.gets (j := 3) dX8_bodyOf_32 rfl rfl slRX8_46 ?_
  refine V.iload_n dX8_bodyOf_35 rfl (i := 2) rfl ?_
  refine V.iconst dX8_bodyOf_36 (v := 4) (by decide) ?_
  refine V.imul dX8_bodyOf_37 ?_
  refine V.iload_n dX8_bodyOf_38 rfl (i := 1) rfl ?_
  refine V.iadd dX8_bodyOf_39 ?_
  refine V.iaTb (j := 3) dX8_bodyOf_40 rfl (by unfold vp_in; decide) ?_
  refine V.top (x' := (11 : Int32)) ((by decide)) ?_
  exact V.ret dX8_bodyOf_41 rfl (hQ)
set_option maxHeartbeats 4000000 in
set_option maxRecDepth 100000 in
theorem l_bd_0_2 {g : GG} {d : Nat} {M : Mem} {Q : Option Value → Mem → Prop} {f : Int32} {t : Nat} (ht : t ≤ 6) (hQ : Q (some (.int (12 : Int32))) M) : V cS g d mX8_bodyOf 4 [some (.int f), some (.int (2 : Int32)), some (.int (0 : Int32)), some (.int (nI t))] [] M Q := by
  refine V.iload_n dX8_bodyOf_4 rfl (i := 3) rfl ?_
  refine V.bipush dX8_bodyOf_5 (v := 7) (by decide) ?_
  refine V.ic_ge (tgt := 54) dX8_bodyOf_7 (by decide) (fun q => absurd q ((nI_ge (a := t) (b := 7) (by omega) (by omega)))) (fun c7 => ?_)
  refine V.iload_n dX8_bodyOf_10 rfl (i := 2) rfl ?_
  refine V.if_lt (tgt := 54) dX8_bodyOf_11 (by decide) (fun q => absurd q ((by decide))) (fun c11 => ?_)
  refine V.iload_n dX8_bodyOf_14 rfl (i := 2) rfl ?_
  refine V.bipush dX8_bodyOf_15 (v := 7) (by decide) ?_
  refine V.ic_ge (tgt := 54) dX8_bodyOf_17 (by decide) (fun q => absurd q ((by decide))) (fun c17 => ?_)
  refine V.gets (j := 3) dX8_bodyOf_20 rfl rfl slRX8_46 ?_
  refine V.iload_n dX8_bodyOf_23 rfl (i := 2) rfl ?_
  refine V.iconst dX8_bodyOf_24 (v := 4) (by decide) ?_
  refine V.imul dX8_bodyOf_25 ?_
  refine V.iload_n dX8_bodyOf_26 rfl (i := 1) rfl ?_
  refine V.iadd dX8_bodyOf_27 ?_
  refine V.iaTb (j := 3) dX8_bodyOf_28 rfl (by unfold vp_in; decide) ?_
  refine V.top (x' := (12 : Int32)) ((by decide)) ?_
  refine V.if_eq (tgt := 42) dX8_bodyOf_29 (by decide) (fun q => absurd q ((by decide))) (fun c29 => ?_)
  refine V.gets (j := 3) dX8_bodyOf_32 rfl rfl slRX8_46 ?_
  refine V.iload_n dX8_bodyOf_35 rfl (i := 2) rfl ?_
  refine V.iconst dX8_bodyOf_36 (v := 4) (by decide) ?_
  refine V.imul dX8_bodyOf_37 ?_
  refine V.iload_n dX8_bodyOf_38 rfl (i := 1) rfl ?_
  refine V.iadd dX8_bodyOf_39 ?_
  refine V.iaTb (j := 3) dX8_bodyOf_40 rfl (by unfold vp_in; decide) ?_
  refine V.top (x' := (12 : Int32)) ((by decide)) ?_
  exact V.ret dX8_bodyOf_41 rfl (hQ)
set_option maxHeartbeats 4000000 in
set_option maxRecDepth 100000 in
theorem l_bd_0_3 {g : GG} {d : Nat} {M : Mem} {Q : Option Value → Mem → Prop} {f : Int32} {t : Nat} (ht : t ≤ 6) (hQ : Q (some (.int (13 : Int32))) M) : V cS g d mX8_bodyOf 4 [some (.int f), some (.int (3 : Int32)), some (.int (0 : Int32)), some (.int (nI t))] [] M Q := by
  refine V.iload_n dX8_bodyOf_4 rfl (i := 3) rfl ?_
  refine V.bipush dX8_bodyOf_5 (v := 7) (by decide) ?_
  refine V.ic_ge (tgt := 54) dX8_bodyOf_7 (by decide) (fun q => absurd q ((nI_ge (a := t) (b := 7) (by omega) (by omega)))) (fun c7 => ?_)
  refine V.iload_n dX8_bodyOf_10 rfl (i := 2) rfl ?_
  refine V.if_lt (tgt := 54) dX8_bodyOf_11 (by decide) (fun q => absurd q ((by decide))) (fun c11 => ?_)
  refine V.iload_n dX8_bodyOf_14 rfl (i := 2) rfl ?_
  refine V.bipush dX8_bodyOf_15 (v := 7) (by decide) ?_
  refine V.ic_ge (tgt := 54) dX8_bodyOf_17 (by decide) (fun q => absurd q ((by decide))) (fun c17 => ?_)
  refine V.gets (j := 3) dX8_bodyOf_20 rfl rfl slRX8_46 ?_
  refine V.iload_n dX8_bodyOf_23 rfl (i := 2) rfl ?_
  refine V.iconst dX8_bodyOf_24 (v := 4) (by decide) ?_
  refine V.imul dX8_bodyOf_25 ?_
  refine V.iload_n dX8_bodyOf_26 rfl (i := 1) rfl ?_
  refine V.iadd dX8_bodyOf_27 ?_
  refine V.iaTb (j := 3) dX8_bodyOf_28 rfl (by unfold vp_in; decide) ?_
  refine V.top (x' := (13 : Int32)) ((by decide)) ?_
  refine V.if_eq (tgt := 42) dX8_bodyOf_29 (by decide) (fun q => absurd q ((by decide))) (fun c29 => ?_)
  refine V.gets (j := 3) dX8_bodyOf_32 rfl rfl slRX8_46 ?_
  refine V.iload_n dX8_bodyOf_35 rfl (i := 2) rfl ?_
  refine V.iconst dX8_bodyOf_36 (v := 4) (by decide) ?_
  refine V.imul dX8_bodyOf_37 ?_
  refine V.iload_n dX8_bodyOf_38 rfl (i := 1) rfl ?_
  refine V.iadd dX8_bodyOf_39 ?_
  refine V.iaTb (j := 3) dX8_bodyOf_40 rfl (by unfold vp_in; decide) ?_
  refine V.top (x' := (13 : Int32)) ((by decide)) ?_
  exact V.ret dX8_bodyOf_41 rfl (hQ)
set_option maxHeartbeats 4000000 in
set_option maxRecDepth 100000 in
theorem l_bd_1_0 {g : GG} {d : Nat} {M : Mem} {Q : Option Value → Mem → Prop} {f : Int32} {t : Nat} (ht : t ≤ 5) (hQ : Q (some (.int (10 : Int32))) M) : V cS g d mX8_bodyOf 4 [some (.int f), some (.int (0 : Int32)), some (.int (1 : Int32)), some (.int (nI t))] [] M Q := by
  refine V.iload_n dX8_bodyOf_4 rfl (i := 3) rfl ?_
  refine V.bipush dX8_bodyOf_5 (v := 7) (by decide) ?_
  refine V.ic_ge (tgt := 54) dX8_bodyOf_7 (by decide) (fun q => absurd q ((nI_ge (a := t) (b := 7) (by omega) (by omega)))) (fun c7 => ?_)
  refine V.iload_n dX8_bodyOf_10 rfl (i := 2) rfl ?_
  refine V.if_lt (tgt := 54) dX8_bodyOf_11 (by decide) (fun q => absurd q ((by decide))) (fun c11 => ?_)
  refine V.iload_n dX8_bodyOf_14 rfl (i := 2) rfl ?_
  refine V.bipush dX8_bodyOf_15 (v := 7) (by decide) ?_
  refine V.ic_ge (tgt := 54) dX8_bodyOf_17 (by decide) (fun q => absurd q ((by decide))) (fun c17 => ?_)
  refine V.gets (j := 3) dX8_bodyOf_20 rfl rfl slRX8_46 ?_
  refine V.iload_n dX8_bodyOf_23 rfl (i := 2) rfl ?_
  refine V.iconst dX8_bodyOf_24 (v := 4) (by decide) ?_
  refine V.imul dX8_bodyOf_25 ?_
  refine V.iload_n dX8_bodyOf_26 rfl (i := 1) rfl ?_
  refine V.iadd dX8_bodyOf_27 ?_
  refine V.iaTb (j := 3) dX8_bodyOf_28 rfl (by unfold vp_in; decide) ?_
  refine V.top (x' := (0 : Int32)) ((by decide)) ?_
  refine V.if_eq (tgt := 42) dX8_bodyOf_29 (by decide) (fun c29 => ?_) (fun q => absurd ((by decide)) q)
  refine V.getsN (j := 0) (host := "OneBreath") dX8_bodyOf_42 rfl rfl (by decide) ?_
  refine V.iload_n dX8_bodyOf_45 rfl (i := 2) rfl ?_
  refine V.iaTb (j := 0) dX8_bodyOf_46 rfl (by unfold vp_in; decide) ?_
  refine V.top (x' := (0 : Int32)) ((by decide)) ?_
  refine V.istore_n dX8_bodyOf_47 rfl (i := 2) (by decide) (fun _ h => by cases h; exact Or.inl rfl) rfl ?_
  refine V.iinc dX8_bodyOf_48 rfl (v := (nI (t + 1))) (nI_1 _) (by decide) (fun _ h => by cases h; exact Or.inl rfl) rfl ?_
  refine V.goto dX8_bodyOf_51 (tgt := 4) (by decide) ?_
  exact l_bd_0_0 (by omega) hQ
set_option maxHeartbeats 4000000 in
set_option maxRecDepth 100000 in
theorem l_bd_1_1 {g : GG} {d : Nat} {M : Mem} {Q : Option Value → Mem → Prop} {f : Int32} {t : Nat} (ht : t ≤ 5) (hQ : Q (some (.int (20 : Int32))) M) : V cS g d mX8_bodyOf 4 [some (.int f), some (.int (1 : Int32)), some (.int (1 : Int32)), some (.int (nI t))] [] M Q := by
  refine V.iload_n dX8_bodyOf_4 rfl (i := 3) rfl ?_
  refine V.bipush dX8_bodyOf_5 (v := 7) (by decide) ?_
  refine V.ic_ge (tgt := 54) dX8_bodyOf_7 (by decide) (fun q => absurd q ((nI_ge (a := t) (b := 7) (by omega) (by omega)))) (fun c7 => ?_)
  refine V.iload_n dX8_bodyOf_10 rfl (i := 2) rfl ?_
  refine V.if_lt (tgt := 54) dX8_bodyOf_11 (by decide) (fun q => absurd q ((by decide))) (fun c11 => ?_)
  refine V.iload_n dX8_bodyOf_14 rfl (i := 2) rfl ?_
  refine V.bipush dX8_bodyOf_15 (v := 7) (by decide) ?_
  refine V.ic_ge (tgt := 54) dX8_bodyOf_17 (by decide) (fun q => absurd q ((by decide))) (fun c17 => ?_)
  refine V.gets (j := 3) dX8_bodyOf_20 rfl rfl slRX8_46 ?_
  refine V.iload_n dX8_bodyOf_23 rfl (i := 2) rfl ?_
  refine V.iconst dX8_bodyOf_24 (v := 4) (by decide) ?_
  refine V.imul dX8_bodyOf_25 ?_
  refine V.iload_n dX8_bodyOf_26 rfl (i := 1) rfl ?_
  refine V.iadd dX8_bodyOf_27 ?_
  refine V.iaTb (j := 3) dX8_bodyOf_28 rfl (by unfold vp_in; decide) ?_
  refine V.top (x' := (20 : Int32)) ((by decide)) ?_
  refine V.if_eq (tgt := 42) dX8_bodyOf_29 (by decide) (fun q => absurd q ((by decide))) (fun c29 => ?_)
  refine V.gets (j := 3) dX8_bodyOf_32 rfl rfl slRX8_46 ?_
  refine V.iload_n dX8_bodyOf_35 rfl (i := 2) rfl ?_
  refine V.iconst dX8_bodyOf_36 (v := 4) (by decide) ?_
  refine V.imul dX8_bodyOf_37 ?_
  refine V.iload_n dX8_bodyOf_38 rfl (i := 1) rfl ?_
  refine V.iadd dX8_bodyOf_39 ?_
  refine V.iaTb (j := 3) dX8_bodyOf_40 rfl (by unfold vp_in; decide) ?_
  refine V.top (x' := (20 : Int32)) ((by decide)) ?_
  exact V.ret dX8_bodyOf_41 rfl (hQ)
set_option maxHeartbeats 4000000 in
set_option maxRecDepth 100000 in
theorem l_bd_1_2 {g : GG} {d : Nat} {M : Mem} {Q : Option Value → Mem → Prop} {f : Int32} {t : Nat} (ht : t ≤ 5) (hQ : Q (some (.int (12 : Int32))) M) : V cS g d mX8_bodyOf 4 [some (.int f), some (.int (2 : Int32)), some (.int (1 : Int32)), some (.int (nI t))] [] M Q := by
  refine V.iload_n dX8_bodyOf_4 rfl (i := 3) rfl ?_
  refine V.bipush dX8_bodyOf_5 (v := 7) (by decide) ?_
  refine V.ic_ge (tgt := 54) dX8_bodyOf_7 (by decide) (fun q => absurd q ((nI_ge (a := t) (b := 7) (by omega) (by omega)))) (fun c7 => ?_)
  refine V.iload_n dX8_bodyOf_10 rfl (i := 2) rfl ?_
  refine V.if_lt (tgt := 54) dX8_bodyOf_11 (by decide) (fun q => absurd q ((by decide))) (fun c11 => ?_)
  refine V.iload_n dX8_bodyOf_14 rfl (i := 2) rfl ?_
  refine V.bipush dX8_bodyOf_15 (v := 7) (by decide) ?_
  refine V.ic_ge (tgt := 54) dX8_bodyOf_17 (by decide) (fun q => absurd q ((by decide))) (fun c17 => ?_)
  refine V.gets (j := 3) dX8_bodyOf_20 rfl rfl slRX8_46 ?_
  refine V.iload_n dX8_bodyOf_23 rfl (i := 2) rfl ?_
  refine V.iconst dX8_bodyOf_24 (v := 4) (by decide) ?_
  refine V.imul dX8_bodyOf_25 ?_
  refine V.iload_n dX8_bodyOf_26 rfl (i := 1) rfl ?_
  refine V.iadd dX8_bodyOf_27 ?_
  refine V.iaTb (j := 3) dX8_bodyOf_28 rfl (by unfold vp_in; decide) ?_
  refine V.top (x' := (0 : Int32)) ((by decide)) ?_
  refine V.if_eq (tgt := 42) dX8_bodyOf_29 (by decide) (fun c29 => ?_) (fun q => absurd ((by decide)) q)
  refine V.getsN (j := 0) (host := "OneBreath") dX8_bodyOf_42 rfl rfl (by decide) ?_
  refine V.iload_n dX8_bodyOf_45 rfl (i := 2) rfl ?_
  refine V.iaTb (j := 0) dX8_bodyOf_46 rfl (by unfold vp_in; decide) ?_
  refine V.top (x' := (0 : Int32)) ((by decide)) ?_
  refine V.istore_n dX8_bodyOf_47 rfl (i := 2) (by decide) (fun _ h => by cases h; exact Or.inl rfl) rfl ?_
  refine V.iinc dX8_bodyOf_48 rfl (v := (nI (t + 1))) (nI_1 _) (by decide) (fun _ h => by cases h; exact Or.inl rfl) rfl ?_
  refine V.goto dX8_bodyOf_51 (tgt := 4) (by decide) ?_
  exact l_bd_0_2 (by omega) hQ
set_option maxHeartbeats 4000000 in
set_option maxRecDepth 100000 in
theorem l_bd_1_3 {g : GG} {d : Nat} {M : Mem} {Q : Option Value → Mem → Prop} {f : Int32} {t : Nat} (ht : t ≤ 5) (hQ : Q (some (.int (13 : Int32))) M) : V cS g d mX8_bodyOf 4 [some (.int f), some (.int (3 : Int32)), some (.int (1 : Int32)), some (.int (nI t))] [] M Q := by
  refine V.iload_n dX8_bodyOf_4 rfl (i := 3) rfl ?_
  refine V.bipush dX8_bodyOf_5 (v := 7) (by decide) ?_
  refine V.ic_ge (tgt := 54) dX8_bodyOf_7 (by decide) (fun q => absurd q ((nI_ge (a := t) (b := 7) (by omega) (by omega)))) (fun c7 => ?_)
  refine V.iload_n dX8_bodyOf_10 rfl (i := 2) rfl ?_
  refine V.if_lt (tgt := 54) dX8_bodyOf_11 (by decide) (fun q => absurd q ((by decide))) (fun c11 => ?_)
  refine V.iload_n dX8_bodyOf_14 rfl (i := 2) rfl ?_
  refine V.bipush dX8_bodyOf_15 (v := 7) (by decide) ?_
  refine V.ic_ge (tgt := 54) dX8_bodyOf_17 (by decide) (fun q => absurd q ((by decide))) (fun c17 => ?_)
  refine V.gets (j := 3) dX8_bodyOf_20 rfl rfl slRX8_46 ?_
  refine V.iload_n dX8_bodyOf_23 rfl (i := 2) rfl ?_
  refine V.iconst dX8_bodyOf_24 (v := 4) (by decide) ?_
  refine V.imul dX8_bodyOf_25 ?_
  refine V.iload_n dX8_bodyOf_26 rfl (i := 1) rfl ?_
  refine V.iadd dX8_bodyOf_27 ?_
  refine V.iaTb (j := 3) dX8_bodyOf_28 rfl (by unfold vp_in; decide) ?_
  refine V.top (x' := (0 : Int32)) ((by decide)) ?_
  refine V.if_eq (tgt := 42) dX8_bodyOf_29 (by decide) (fun c29 => ?_) (fun q => absurd ((by decide)) q)
  refine V.getsN (j := 0) (host := "OneBreath") dX8_bodyOf_42 rfl rfl (by decide) ?_
  refine V.iload_n dX8_bodyOf_45 rfl (i := 2) rfl ?_
  refine V.iaTb (j := 0) dX8_bodyOf_46 rfl (by unfold vp_in; decide) ?_
  refine V.top (x' := (0 : Int32)) ((by decide)) ?_
  refine V.istore_n dX8_bodyOf_47 rfl (i := 2) (by decide) (fun _ h => by cases h; exact Or.inl rfl) rfl ?_
  refine V.iinc dX8_bodyOf_48 rfl (v := (nI (t + 1))) (nI_1 _) (by decide) (fun _ h => by cases h; exact Or.inl rfl) rfl ?_
  refine V.goto dX8_bodyOf_51 (tgt := 4) (by decide) ?_
  exact l_bd_0_3 (by omega) hQ
set_option maxHeartbeats 4000000 in
set_option maxRecDepth 100000 in
theorem l_bd_2_0 {g : GG} {d : Nat} {M : Mem} {Q : Option Value → Mem → Prop} {f : Int32} {t : Nat} (ht : t ≤ 5) (hQ : Q (some (.int (30 : Int32))) M) : V cS g d mX8_bodyOf 4 [some (.int f), some (.int (0 : Int32)), some (.int (2 : Int32)), some (.int (nI t))] [] M Q := by
  refine V.iload_n dX8_bodyOf_4 rfl (i := 3) rfl ?_
  refine V.bipush dX8_bodyOf_5 (v := 7) (by decide) ?_
  refine V.ic_ge (tgt := 54) dX8_bodyOf_7 (by decide) (fun q => absurd q ((nI_ge (a := t) (b := 7) (by omega) (by omega)))) (fun c7 => ?_)
  refine V.iload_n dX8_bodyOf_10 rfl (i := 2) rfl ?_
  refine V.if_lt (tgt := 54) dX8_bodyOf_11 (by decide) (fun q => absurd q ((by decide))) (fun c11 => ?_)
  refine V.iload_n dX8_bodyOf_14 rfl (i := 2) rfl ?_
  refine V.bipush dX8_bodyOf_15 (v := 7) (by decide) ?_
  refine V.ic_ge (tgt := 54) dX8_bodyOf_17 (by decide) (fun q => absurd q ((by decide))) (fun c17 => ?_)
  refine V.gets (j := 3) dX8_bodyOf_20 rfl rfl slRX8_46 ?_
  refine V.iload_n dX8_bodyOf_23 rfl (i := 2) rfl ?_
  refine V.iconst dX8_bodyOf_24 (v := 4) (by decide) ?_
  refine V.imul dX8_bodyOf_25 ?_
  refine V.iload_n dX8_bodyOf_26 rfl (i := 1) rfl ?_
  refine V.iadd dX8_bodyOf_27 ?_
  refine V.iaTb (j := 3) dX8_bodyOf_28 rfl (by unfold vp_in; decide) ?_
  refine V.top (x' := (30 : Int32)) ((by decide)) ?_
  refine V.if_eq (tgt := 42) dX8_bodyOf_29 (by decide) (fun q => absurd q ((by decide))) (fun c29 => ?_)
  refine V.gets (j := 3) dX8_bodyOf_32 rfl rfl slRX8_46 ?_
  refine V.iload_n dX8_bodyOf_35 rfl (i := 2) rfl ?_
  refine V.iconst dX8_bodyOf_36 (v := 4) (by decide) ?_
  refine V.imul dX8_bodyOf_37 ?_
  refine V.iload_n dX8_bodyOf_38 rfl (i := 1) rfl ?_
  refine V.iadd dX8_bodyOf_39 ?_
  refine V.iaTb (j := 3) dX8_bodyOf_40 rfl (by unfold vp_in; decide) ?_
  refine V.top (x' := (30 : Int32)) ((by decide)) ?_
  exact V.ret dX8_bodyOf_41 rfl (hQ)
set_option maxHeartbeats 4000000 in
set_option maxRecDepth 100000 in
theorem l_bd_2_1 {g : GG} {d : Nat} {M : Mem} {Q : Option Value → Mem → Prop} {f : Int32} {t : Nat} (ht : t ≤ 5) (hQ : Q (some (.int (11 : Int32))) M) : V cS g d mX8_bodyOf 4 [some (.int f), some (.int (1 : Int32)), some (.int (2 : Int32)), some (.int (nI t))] [] M Q := by
  refine V.iload_n dX8_bodyOf_4 rfl (i := 3) rfl ?_
  refine V.bipush dX8_bodyOf_5 (v := 7) (by decide) ?_
  refine V.ic_ge (tgt := 54) dX8_bodyOf_7 (by decide) (fun q => absurd q ((nI_ge (a := t) (b := 7) (by omega) (by omega)))) (fun c7 => ?_)
  refine V.iload_n dX8_bodyOf_10 rfl (i := 2) rfl ?_
  refine V.if_lt (tgt := 54) dX8_bodyOf_11 (by decide) (fun q => absurd q ((by decide))) (fun c11 => ?_)
  refine V.iload_n dX8_bodyOf_14 rfl (i := 2) rfl ?_
  refine V.bipush dX8_bodyOf_15 (v := 7) (by decide) ?_
  refine V.ic_ge (tgt := 54) dX8_bodyOf_17 (by decide) (fun q => absurd q ((by decide))) (fun c17 => ?_)
  refine V.gets (j := 3) dX8_bodyOf_20 rfl rfl slRX8_46 ?_
  refine V.iload_n dX8_bodyOf_23 rfl (i := 2) rfl ?_
  refine V.iconst dX8_bodyOf_24 (v := 4) (by decide) ?_
  refine V.imul dX8_bodyOf_25 ?_
  refine V.iload_n dX8_bodyOf_26 rfl (i := 1) rfl ?_
  refine V.iadd dX8_bodyOf_27 ?_
  refine V.iaTb (j := 3) dX8_bodyOf_28 rfl (by unfold vp_in; decide) ?_
  refine V.top (x' := (0 : Int32)) ((by decide)) ?_
  refine V.if_eq (tgt := 42) dX8_bodyOf_29 (by decide) (fun c29 => ?_) (fun q => absurd ((by decide)) q)
  refine V.getsN (j := 0) (host := "OneBreath") dX8_bodyOf_42 rfl rfl (by decide) ?_
  refine V.iload_n dX8_bodyOf_45 rfl (i := 2) rfl ?_
  refine V.iaTb (j := 0) dX8_bodyOf_46 rfl (by unfold vp_in; decide) ?_
  refine V.top (x' := (0 : Int32)) ((by decide)) ?_
  refine V.istore_n dX8_bodyOf_47 rfl (i := 2) (by decide) (fun _ h => by cases h; exact Or.inl rfl) rfl ?_
  refine V.iinc dX8_bodyOf_48 rfl (v := (nI (t + 1))) (nI_1 _) (by decide) (fun _ h => by cases h; exact Or.inl rfl) rfl ?_
  refine V.goto dX8_bodyOf_51 (tgt := 4) (by decide) ?_
  exact l_bd_0_1 (by omega) hQ
set_option maxHeartbeats 4000000 in
set_option maxRecDepth 100000 in
theorem l_bd_2_2 {g : GG} {d : Nat} {M : Mem} {Q : Option Value → Mem → Prop} {f : Int32} {t : Nat} (ht : t ≤ 5) (hQ : Q (some (.int (12 : Int32))) M) : V cS g d mX8_bodyOf 4 [some (.int f), some (.int (2 : Int32)), some (.int (2 : Int32)), some (.int (nI t))] [] M Q := by
  refine V.iload_n dX8_bodyOf_4 rfl (i := 3) rfl ?_
  refine V.bipush dX8_bodyOf_5 (v := 7) (by decide) ?_
  refine V.ic_ge (tgt := 54) dX8_bodyOf_7 (by decide) (fun q => absurd q ((nI_ge (a := t) (b := 7) (by omega) (by omega)))) (fun c7 => ?_)
  refine V.iload_n dX8_bodyOf_10 rfl (i := 2) rfl ?_
  refine V.if_lt (tgt := 54) dX8_bodyOf_11 (by decide) (fun q => absurd q ((by decide))) (fun c11 => ?_)
  refine V.iload_n dX8_bodyOf_14 rfl (i := 2) rfl ?_
  refine V.bipush dX8_bodyOf_15 (v := 7) (by decide) ?_
  refine V.ic_ge (tgt := 54) dX8_bodyOf_17 (by decide) (fun q => absurd q ((by decide))) (fun c17 => ?_)
  refine V.gets (j := 3) dX8_bodyOf_20 rfl rfl slRX8_46 ?_
  refine V.iload_n dX8_bodyOf_23 rfl (i := 2) rfl ?_
  refine V.iconst dX8_bodyOf_24 (v := 4) (by decide) ?_
  refine V.imul dX8_bodyOf_25 ?_
  refine V.iload_n dX8_bodyOf_26 rfl (i := 1) rfl ?_
  refine V.iadd dX8_bodyOf_27 ?_
  refine V.iaTb (j := 3) dX8_bodyOf_28 rfl (by unfold vp_in; decide) ?_
  refine V.top (x' := (0 : Int32)) ((by decide)) ?_
  refine V.if_eq (tgt := 42) dX8_bodyOf_29 (by decide) (fun c29 => ?_) (fun q => absurd ((by decide)) q)
  refine V.getsN (j := 0) (host := "OneBreath") dX8_bodyOf_42 rfl rfl (by decide) ?_
  refine V.iload_n dX8_bodyOf_45 rfl (i := 2) rfl ?_
  refine V.iaTb (j := 0) dX8_bodyOf_46 rfl (by unfold vp_in; decide) ?_
  refine V.top (x' := (0 : Int32)) ((by decide)) ?_
  refine V.istore_n dX8_bodyOf_47 rfl (i := 2) (by decide) (fun _ h => by cases h; exact Or.inl rfl) rfl ?_
  refine V.iinc dX8_bodyOf_48 rfl (v := (nI (t + 1))) (nI_1 _) (by decide) (fun _ h => by cases h; exact Or.inl rfl) rfl ?_
  refine V.goto dX8_bodyOf_51 (tgt := 4) (by decide) ?_
  exact l_bd_0_2 (by omega) hQ
set_option maxHeartbeats 4000000 in
set_option maxRecDepth 100000 in
theorem l_bd_2_3 {g : GG} {d : Nat} {M : Mem} {Q : Option Value → Mem → Prop} {f : Int32} {t : Nat} (ht : t ≤ 5) (hQ : Q (some (.int (13 : Int32))) M) : V cS g d mX8_bodyOf 4 [some (.int f), some (.int (3 : Int32)), some (.int (2 : Int32)), some (.int (nI t))] [] M Q := by
  refine V.iload_n dX8_bodyOf_4 rfl (i := 3) rfl ?_
  refine V.bipush dX8_bodyOf_5 (v := 7) (by decide) ?_
  refine V.ic_ge (tgt := 54) dX8_bodyOf_7 (by decide) (fun q => absurd q ((nI_ge (a := t) (b := 7) (by omega) (by omega)))) (fun c7 => ?_)
  refine V.iload_n dX8_bodyOf_10 rfl (i := 2) rfl ?_
  refine V.if_lt (tgt := 54) dX8_bodyOf_11 (by decide) (fun q => absurd q ((by decide))) (fun c11 => ?_)
  refine V.iload_n dX8_bodyOf_14 rfl (i := 2) rfl ?_
  refine V.bipush dX8_bodyOf_15 (v := 7) (by decide) ?_
  refine V.ic_ge (tgt := 54) dX8_bodyOf_17 (by decide) (fun q => absurd q ((by decide))) (fun c17 => ?_)
  refine V.gets (j := 3) dX8_bodyOf_20 rfl rfl slRX8_46 ?_
  refine V.iload_n dX8_bodyOf_23 rfl (i := 2) rfl ?_
  refine V.iconst dX8_bodyOf_24 (v := 4) (by decide) ?_
  refine V.imul dX8_bodyOf_25 ?_
  refine V.iload_n dX8_bodyOf_26 rfl (i := 1) rfl ?_
  refine V.iadd dX8_bodyOf_27 ?_
  refine V.iaTb (j := 3) dX8_bodyOf_28 rfl (by unfold vp_in; decide) ?_
  refine V.top (x' := (0 : Int32)) ((by decide)) ?_
  refine V.if_eq (tgt := 42) dX8_bodyOf_29 (by decide) (fun c29 => ?_) (fun q => absurd ((by decide)) q)
  refine V.getsN (j := 0) (host := "OneBreath") dX8_bodyOf_42 rfl rfl (by decide) ?_
  refine V.iload_n dX8_bodyOf_45 rfl (i := 2) rfl ?_
  refine V.iaTb (j := 0) dX8_bodyOf_46 rfl (by unfold vp_in; decide) ?_
  refine V.top (x' := (0 : Int32)) ((by decide)) ?_
  refine V.istore_n dX8_bodyOf_47 rfl (i := 2) (by decide) (fun _ h => by cases h; exact Or.inl rfl) rfl ?_
  refine V.iinc dX8_bodyOf_48 rfl (v := (nI (t + 1))) (nI_1 _) (by decide) (fun _ h => by cases h; exact Or.inl rfl) rfl ?_
  refine V.goto dX8_bodyOf_51 (tgt := 4) (by decide) ?_
  exact l_bd_0_3 (by omega) hQ
set_option maxHeartbeats 4000000 in
set_option maxRecDepth 100000 in
theorem l_bd_3_0 {g : GG} {d : Nat} {M : Mem} {Q : Option Value → Mem → Prop} {f : Int32} {t : Nat} (ht : t ≤ 5) (hQ : Q (some (.int (10 : Int32))) M) : V cS g d mX8_bodyOf 4 [some (.int f), some (.int (0 : Int32)), some (.int (3 : Int32)), some (.int (nI t))] [] M Q := by
  refine V.iload_n dX8_bodyOf_4 rfl (i := 3) rfl ?_
  refine V.bipush dX8_bodyOf_5 (v := 7) (by decide) ?_
  refine V.ic_ge (tgt := 54) dX8_bodyOf_7 (by decide) (fun q => absurd q ((nI_ge (a := t) (b := 7) (by omega) (by omega)))) (fun c7 => ?_)
  refine V.iload_n dX8_bodyOf_10 rfl (i := 2) rfl ?_
  refine V.if_lt (tgt := 54) dX8_bodyOf_11 (by decide) (fun q => absurd q ((by decide))) (fun c11 => ?_)
  refine V.iload_n dX8_bodyOf_14 rfl (i := 2) rfl ?_
  refine V.bipush dX8_bodyOf_15 (v := 7) (by decide) ?_
  refine V.ic_ge (tgt := 54) dX8_bodyOf_17 (by decide) (fun q => absurd q ((by decide))) (fun c17 => ?_)
  refine V.gets (j := 3) dX8_bodyOf_20 rfl rfl slRX8_46 ?_
  refine V.iload_n dX8_bodyOf_23 rfl (i := 2) rfl ?_
  refine V.iconst dX8_bodyOf_24 (v := 4) (by decide) ?_
  refine V.imul dX8_bodyOf_25 ?_
  refine V.iload_n dX8_bodyOf_26 rfl (i := 1) rfl ?_
  refine V.iadd dX8_bodyOf_27 ?_
  refine V.iaTb (j := 3) dX8_bodyOf_28 rfl (by unfold vp_in; decide) ?_
  refine V.top (x' := (0 : Int32)) ((by decide)) ?_
  refine V.if_eq (tgt := 42) dX8_bodyOf_29 (by decide) (fun c29 => ?_) (fun q => absurd ((by decide)) q)
  refine V.getsN (j := 0) (host := "OneBreath") dX8_bodyOf_42 rfl rfl (by decide) ?_
  refine V.iload_n dX8_bodyOf_45 rfl (i := 2) rfl ?_
  refine V.iaTb (j := 0) dX8_bodyOf_46 rfl (by unfold vp_in; decide) ?_
  refine V.top (x' := (0 : Int32)) ((by decide)) ?_
  refine V.istore_n dX8_bodyOf_47 rfl (i := 2) (by decide) (fun _ h => by cases h; exact Or.inl rfl) rfl ?_
  refine V.iinc dX8_bodyOf_48 rfl (v := (nI (t + 1))) (nI_1 _) (by decide) (fun _ h => by cases h; exact Or.inl rfl) rfl ?_
  refine V.goto dX8_bodyOf_51 (tgt := 4) (by decide) ?_
  exact l_bd_0_0 (by omega) hQ
set_option maxHeartbeats 4000000 in
set_option maxRecDepth 100000 in
theorem l_bd_3_1 {g : GG} {d : Nat} {M : Mem} {Q : Option Value → Mem → Prop} {f : Int32} {t : Nat} (ht : t ≤ 5) (hQ : Q (some (.int (11 : Int32))) M) : V cS g d mX8_bodyOf 4 [some (.int f), some (.int (1 : Int32)), some (.int (3 : Int32)), some (.int (nI t))] [] M Q := by
  refine V.iload_n dX8_bodyOf_4 rfl (i := 3) rfl ?_
  refine V.bipush dX8_bodyOf_5 (v := 7) (by decide) ?_
  refine V.ic_ge (tgt := 54) dX8_bodyOf_7 (by decide) (fun q => absurd q ((nI_ge (a := t) (b := 7) (by omega) (by omega)))) (fun c7 => ?_)
  refine V.iload_n dX8_bodyOf_10 rfl (i := 2) rfl ?_
  refine V.if_lt (tgt := 54) dX8_bodyOf_11 (by decide) (fun q => absurd q ((by decide))) (fun c11 => ?_)
  refine V.iload_n dX8_bodyOf_14 rfl (i := 2) rfl ?_
  refine V.bipush dX8_bodyOf_15 (v := 7) (by decide) ?_
  refine V.ic_ge (tgt := 54) dX8_bodyOf_17 (by decide) (fun q => absurd q ((by decide))) (fun c17 => ?_)
  refine V.gets (j := 3) dX8_bodyOf_20 rfl rfl slRX8_46 ?_
  refine V.iload_n dX8_bodyOf_23 rfl (i := 2) rfl ?_
  refine V.iconst dX8_bodyOf_24 (v := 4) (by decide) ?_
  refine V.imul dX8_bodyOf_25 ?_
  refine V.iload_n dX8_bodyOf_26 rfl (i := 1) rfl ?_
  refine V.iadd dX8_bodyOf_27 ?_
  refine V.iaTb (j := 3) dX8_bodyOf_28 rfl (by unfold vp_in; decide) ?_
  refine V.top (x' := (0 : Int32)) ((by decide)) ?_
  refine V.if_eq (tgt := 42) dX8_bodyOf_29 (by decide) (fun c29 => ?_) (fun q => absurd ((by decide)) q)
  refine V.getsN (j := 0) (host := "OneBreath") dX8_bodyOf_42 rfl rfl (by decide) ?_
  refine V.iload_n dX8_bodyOf_45 rfl (i := 2) rfl ?_
  refine V.iaTb (j := 0) dX8_bodyOf_46 rfl (by unfold vp_in; decide) ?_
  refine V.top (x' := (0 : Int32)) ((by decide)) ?_
  refine V.istore_n dX8_bodyOf_47 rfl (i := 2) (by decide) (fun _ h => by cases h; exact Or.inl rfl) rfl ?_
  refine V.iinc dX8_bodyOf_48 rfl (v := (nI (t + 1))) (nI_1 _) (by decide) (fun _ h => by cases h; exact Or.inl rfl) rfl ?_
  refine V.goto dX8_bodyOf_51 (tgt := 4) (by decide) ?_
  exact l_bd_0_1 (by omega) hQ
set_option maxHeartbeats 4000000 in
set_option maxRecDepth 100000 in
theorem l_bd_3_2 {g : GG} {d : Nat} {M : Mem} {Q : Option Value → Mem → Prop} {f : Int32} {t : Nat} (ht : t ≤ 5) (hQ : Q (some (.int (40 : Int32))) M) : V cS g d mX8_bodyOf 4 [some (.int f), some (.int (2 : Int32)), some (.int (3 : Int32)), some (.int (nI t))] [] M Q := by
  refine V.iload_n dX8_bodyOf_4 rfl (i := 3) rfl ?_
  refine V.bipush dX8_bodyOf_5 (v := 7) (by decide) ?_
  refine V.ic_ge (tgt := 54) dX8_bodyOf_7 (by decide) (fun q => absurd q ((nI_ge (a := t) (b := 7) (by omega) (by omega)))) (fun c7 => ?_)
  refine V.iload_n dX8_bodyOf_10 rfl (i := 2) rfl ?_
  refine V.if_lt (tgt := 54) dX8_bodyOf_11 (by decide) (fun q => absurd q ((by decide))) (fun c11 => ?_)
  refine V.iload_n dX8_bodyOf_14 rfl (i := 2) rfl ?_
  refine V.bipush dX8_bodyOf_15 (v := 7) (by decide) ?_
  refine V.ic_ge (tgt := 54) dX8_bodyOf_17 (by decide) (fun q => absurd q ((by decide))) (fun c17 => ?_)
  refine V.gets (j := 3) dX8_bodyOf_20 rfl rfl slRX8_46 ?_
  refine V.iload_n dX8_bodyOf_23 rfl (i := 2) rfl ?_
  refine V.iconst dX8_bodyOf_24 (v := 4) (by decide) ?_
  refine V.imul dX8_bodyOf_25 ?_
  refine V.iload_n dX8_bodyOf_26 rfl (i := 1) rfl ?_
  refine V.iadd dX8_bodyOf_27 ?_
  refine V.iaTb (j := 3) dX8_bodyOf_28 rfl (by unfold vp_in; decide) ?_
  refine V.top (x' := (40 : Int32)) ((by decide)) ?_
  refine V.if_eq (tgt := 42) dX8_bodyOf_29 (by decide) (fun q => absurd q ((by decide))) (fun c29 => ?_)
  refine V.gets (j := 3) dX8_bodyOf_32 rfl rfl slRX8_46 ?_
  refine V.iload_n dX8_bodyOf_35 rfl (i := 2) rfl ?_
  refine V.iconst dX8_bodyOf_36 (v := 4) (by decide) ?_
  refine V.imul dX8_bodyOf_37 ?_
  refine V.iload_n dX8_bodyOf_38 rfl (i := 1) rfl ?_
  refine V.iadd dX8_bodyOf_39 ?_
  refine V.iaTb (j := 3) dX8_bodyOf_40 rfl (by unfold vp_in; decide) ?_
  refine V.top (x' := (40 : Int32)) ((by decide)) ?_
  exact V.ret dX8_bodyOf_41 rfl (hQ)
set_option maxHeartbeats 4000000 in
set_option maxRecDepth 100000 in
theorem l_bd_3_3 {g : GG} {d : Nat} {M : Mem} {Q : Option Value → Mem → Prop} {f : Int32} {t : Nat} (ht : t ≤ 5) (hQ : Q (some (.int (13 : Int32))) M) : V cS g d mX8_bodyOf 4 [some (.int f), some (.int (3 : Int32)), some (.int (3 : Int32)), some (.int (nI t))] [] M Q := by
  refine V.iload_n dX8_bodyOf_4 rfl (i := 3) rfl ?_
  refine V.bipush dX8_bodyOf_5 (v := 7) (by decide) ?_
  refine V.ic_ge (tgt := 54) dX8_bodyOf_7 (by decide) (fun q => absurd q ((nI_ge (a := t) (b := 7) (by omega) (by omega)))) (fun c7 => ?_)
  refine V.iload_n dX8_bodyOf_10 rfl (i := 2) rfl ?_
  refine V.if_lt (tgt := 54) dX8_bodyOf_11 (by decide) (fun q => absurd q ((by decide))) (fun c11 => ?_)
  refine V.iload_n dX8_bodyOf_14 rfl (i := 2) rfl ?_
  refine V.bipush dX8_bodyOf_15 (v := 7) (by decide) ?_
  refine V.ic_ge (tgt := 54) dX8_bodyOf_17 (by decide) (fun q => absurd q ((by decide))) (fun c17 => ?_)
  refine V.gets (j := 3) dX8_bodyOf_20 rfl rfl slRX8_46 ?_
  refine V.iload_n dX8_bodyOf_23 rfl (i := 2) rfl ?_
  refine V.iconst dX8_bodyOf_24 (v := 4) (by decide) ?_
  refine V.imul dX8_bodyOf_25 ?_
  refine V.iload_n dX8_bodyOf_26 rfl (i := 1) rfl ?_
  refine V.iadd dX8_bodyOf_27 ?_
  refine V.iaTb (j := 3) dX8_bodyOf_28 rfl (by unfold vp_in; decide) ?_
  refine V.top (x' := (0 : Int32)) ((by decide)) ?_
  refine V.if_eq (tgt := 42) dX8_bodyOf_29 (by decide) (fun c29 => ?_) (fun q => absurd ((by decide)) q)
  refine V.getsN (j := 0) (host := "OneBreath") dX8_bodyOf_42 rfl rfl (by decide) ?_
  refine V.iload_n dX8_bodyOf_45 rfl (i := 2) rfl ?_
  refine V.iaTb (j := 0) dX8_bodyOf_46 rfl (by unfold vp_in; decide) ?_
  refine V.top (x' := (0 : Int32)) ((by decide)) ?_
  refine V.istore_n dX8_bodyOf_47 rfl (i := 2) (by decide) (fun _ h => by cases h; exact Or.inl rfl) rfl ?_
  refine V.iinc dX8_bodyOf_48 rfl (v := (nI (t + 1))) (nI_1 _) (by decide) (fun _ h => by cases h; exact Or.inl rfl) rfl ?_
  refine V.goto dX8_bodyOf_51 (tgt := 4) (by decide) ?_
  exact l_bd_0_3 (by omega) hQ
set_option maxHeartbeats 4000000 in
set_option maxRecDepth 100000 in
theorem l_bd_4_0 {g : GG} {d : Nat} {M : Mem} {Q : Option Value → Mem → Prop} {f : Int32} {t : Nat} (ht : t ≤ 4) (hQ : Q (some (.int (10 : Int32))) M) : V cS g d mX8_bodyOf 4 [some (.int f), some (.int (0 : Int32)), some (.int (4 : Int32)), some (.int (nI t))] [] M Q := by
  refine V.iload_n dX8_bodyOf_4 rfl (i := 3) rfl ?_
  refine V.bipush dX8_bodyOf_5 (v := 7) (by decide) ?_
  refine V.ic_ge (tgt := 54) dX8_bodyOf_7 (by decide) (fun q => absurd q ((nI_ge (a := t) (b := 7) (by omega) (by omega)))) (fun c7 => ?_)
  refine V.iload_n dX8_bodyOf_10 rfl (i := 2) rfl ?_
  refine V.if_lt (tgt := 54) dX8_bodyOf_11 (by decide) (fun q => absurd q ((by decide))) (fun c11 => ?_)
  refine V.iload_n dX8_bodyOf_14 rfl (i := 2) rfl ?_
  refine V.bipush dX8_bodyOf_15 (v := 7) (by decide) ?_
  refine V.ic_ge (tgt := 54) dX8_bodyOf_17 (by decide) (fun q => absurd q ((by decide))) (fun c17 => ?_)
  refine V.gets (j := 3) dX8_bodyOf_20 rfl rfl slRX8_46 ?_
  refine V.iload_n dX8_bodyOf_23 rfl (i := 2) rfl ?_
  refine V.iconst dX8_bodyOf_24 (v := 4) (by decide) ?_
  refine V.imul dX8_bodyOf_25 ?_
  refine V.iload_n dX8_bodyOf_26 rfl (i := 1) rfl ?_
  refine V.iadd dX8_bodyOf_27 ?_
  refine V.iaTb (j := 3) dX8_bodyOf_28 rfl (by unfold vp_in; decide) ?_
  refine V.top (x' := (0 : Int32)) ((by decide)) ?_
  refine V.if_eq (tgt := 42) dX8_bodyOf_29 (by decide) (fun c29 => ?_) (fun q => absurd ((by decide)) q)
  refine V.getsN (j := 0) (host := "OneBreath") dX8_bodyOf_42 rfl rfl (by decide) ?_
  refine V.iload_n dX8_bodyOf_45 rfl (i := 2) rfl ?_
  refine V.iaTb (j := 0) dX8_bodyOf_46 rfl (by unfold vp_in; decide) ?_
  refine V.top (x' := (1 : Int32)) ((by decide)) ?_
  refine V.istore_n dX8_bodyOf_47 rfl (i := 2) (by decide) (fun _ h => by cases h; exact Or.inl rfl) rfl ?_
  refine V.iinc dX8_bodyOf_48 rfl (v := (nI (t + 1))) (nI_1 _) (by decide) (fun _ h => by cases h; exact Or.inl rfl) rfl ?_
  refine V.goto dX8_bodyOf_51 (tgt := 4) (by decide) ?_
  exact l_bd_1_0 (by omega) hQ
set_option maxHeartbeats 4000000 in
set_option maxRecDepth 100000 in
theorem l_bd_4_1 {g : GG} {d : Nat} {M : Mem} {Q : Option Value → Mem → Prop} {f : Int32} {t : Nat} (ht : t ≤ 4) (hQ : Q (some (.int (50 : Int32))) M) : V cS g d mX8_bodyOf 4 [some (.int f), some (.int (1 : Int32)), some (.int (4 : Int32)), some (.int (nI t))] [] M Q := by
  refine V.iload_n dX8_bodyOf_4 rfl (i := 3) rfl ?_
  refine V.bipush dX8_bodyOf_5 (v := 7) (by decide) ?_
  refine V.ic_ge (tgt := 54) dX8_bodyOf_7 (by decide) (fun q => absurd q ((nI_ge (a := t) (b := 7) (by omega) (by omega)))) (fun c7 => ?_)
  refine V.iload_n dX8_bodyOf_10 rfl (i := 2) rfl ?_
  refine V.if_lt (tgt := 54) dX8_bodyOf_11 (by decide) (fun q => absurd q ((by decide))) (fun c11 => ?_)
  refine V.iload_n dX8_bodyOf_14 rfl (i := 2) rfl ?_
  refine V.bipush dX8_bodyOf_15 (v := 7) (by decide) ?_
  refine V.ic_ge (tgt := 54) dX8_bodyOf_17 (by decide) (fun q => absurd q ((by decide))) (fun c17 => ?_)
  refine V.gets (j := 3) dX8_bodyOf_20 rfl rfl slRX8_46 ?_
  refine V.iload_n dX8_bodyOf_23 rfl (i := 2) rfl ?_
  refine V.iconst dX8_bodyOf_24 (v := 4) (by decide) ?_
  refine V.imul dX8_bodyOf_25 ?_
  refine V.iload_n dX8_bodyOf_26 rfl (i := 1) rfl ?_
  refine V.iadd dX8_bodyOf_27 ?_
  refine V.iaTb (j := 3) dX8_bodyOf_28 rfl (by unfold vp_in; decide) ?_
  refine V.top (x' := (50 : Int32)) ((by decide)) ?_
  refine V.if_eq (tgt := 42) dX8_bodyOf_29 (by decide) (fun q => absurd q ((by decide))) (fun c29 => ?_)
  refine V.gets (j := 3) dX8_bodyOf_32 rfl rfl slRX8_46 ?_
  refine V.iload_n dX8_bodyOf_35 rfl (i := 2) rfl ?_
  refine V.iconst dX8_bodyOf_36 (v := 4) (by decide) ?_
  refine V.imul dX8_bodyOf_37 ?_
  refine V.iload_n dX8_bodyOf_38 rfl (i := 1) rfl ?_
  refine V.iadd dX8_bodyOf_39 ?_
  refine V.iaTb (j := 3) dX8_bodyOf_40 rfl (by unfold vp_in; decide) ?_
  refine V.top (x' := (50 : Int32)) ((by decide)) ?_
  exact V.ret dX8_bodyOf_41 rfl (hQ)
set_option maxHeartbeats 4000000 in
set_option maxRecDepth 100000 in
theorem l_bd_4_2 {g : GG} {d : Nat} {M : Mem} {Q : Option Value → Mem → Prop} {f : Int32} {t : Nat} (ht : t ≤ 4) (hQ : Q (some (.int (12 : Int32))) M) : V cS g d mX8_bodyOf 4 [some (.int f), some (.int (2 : Int32)), some (.int (4 : Int32)), some (.int (nI t))] [] M Q := by
  refine V.iload_n dX8_bodyOf_4 rfl (i := 3) rfl ?_
  refine V.bipush dX8_bodyOf_5 (v := 7) (by decide) ?_
  refine V.ic_ge (tgt := 54) dX8_bodyOf_7 (by decide) (fun q => absurd q ((nI_ge (a := t) (b := 7) (by omega) (by omega)))) (fun c7 => ?_)
  refine V.iload_n dX8_bodyOf_10 rfl (i := 2) rfl ?_
  refine V.if_lt (tgt := 54) dX8_bodyOf_11 (by decide) (fun q => absurd q ((by decide))) (fun c11 => ?_)
  refine V.iload_n dX8_bodyOf_14 rfl (i := 2) rfl ?_
  refine V.bipush dX8_bodyOf_15 (v := 7) (by decide) ?_
  refine V.ic_ge (tgt := 54) dX8_bodyOf_17 (by decide) (fun q => absurd q ((by decide))) (fun c17 => ?_)
  refine V.gets (j := 3) dX8_bodyOf_20 rfl rfl slRX8_46 ?_
  refine V.iload_n dX8_bodyOf_23 rfl (i := 2) rfl ?_
  refine V.iconst dX8_bodyOf_24 (v := 4) (by decide) ?_
  refine V.imul dX8_bodyOf_25 ?_
  refine V.iload_n dX8_bodyOf_26 rfl (i := 1) rfl ?_
  refine V.iadd dX8_bodyOf_27 ?_
  refine V.iaTb (j := 3) dX8_bodyOf_28 rfl (by unfold vp_in; decide) ?_
  refine V.top (x' := (0 : Int32)) ((by decide)) ?_
  refine V.if_eq (tgt := 42) dX8_bodyOf_29 (by decide) (fun c29 => ?_) (fun q => absurd ((by decide)) q)
  refine V.getsN (j := 0) (host := "OneBreath") dX8_bodyOf_42 rfl rfl (by decide) ?_
  refine V.iload_n dX8_bodyOf_45 rfl (i := 2) rfl ?_
  refine V.iaTb (j := 0) dX8_bodyOf_46 rfl (by unfold vp_in; decide) ?_
  refine V.top (x' := (1 : Int32)) ((by decide)) ?_
  refine V.istore_n dX8_bodyOf_47 rfl (i := 2) (by decide) (fun _ h => by cases h; exact Or.inl rfl) rfl ?_
  refine V.iinc dX8_bodyOf_48 rfl (v := (nI (t + 1))) (nI_1 _) (by decide) (fun _ h => by cases h; exact Or.inl rfl) rfl ?_
  refine V.goto dX8_bodyOf_51 (tgt := 4) (by decide) ?_
  exact l_bd_1_2 (by omega) hQ
set_option maxHeartbeats 4000000 in
set_option maxRecDepth 100000 in
theorem l_bd_4_3 {g : GG} {d : Nat} {M : Mem} {Q : Option Value → Mem → Prop} {f : Int32} {t : Nat} (ht : t ≤ 4) (hQ : Q (some (.int (13 : Int32))) M) : V cS g d mX8_bodyOf 4 [some (.int f), some (.int (3 : Int32)), some (.int (4 : Int32)), some (.int (nI t))] [] M Q := by
  refine V.iload_n dX8_bodyOf_4 rfl (i := 3) rfl ?_
  refine V.bipush dX8_bodyOf_5 (v := 7) (by decide) ?_
  refine V.ic_ge (tgt := 54) dX8_bodyOf_7 (by decide) (fun q => absurd q ((nI_ge (a := t) (b := 7) (by omega) (by omega)))) (fun c7 => ?_)
  refine V.iload_n dX8_bodyOf_10 rfl (i := 2) rfl ?_
  refine V.if_lt (tgt := 54) dX8_bodyOf_11 (by decide) (fun q => absurd q ((by decide))) (fun c11 => ?_)
  refine V.iload_n dX8_bodyOf_14 rfl (i := 2) rfl ?_
  refine V.bipush dX8_bodyOf_15 (v := 7) (by decide) ?_
  refine V.ic_ge (tgt := 54) dX8_bodyOf_17 (by decide) (fun q => absurd q ((by decide))) (fun c17 => ?_)
  refine V.gets (j := 3) dX8_bodyOf_20 rfl rfl slRX8_46 ?_
  refine V.iload_n dX8_bodyOf_23 rfl (i := 2) rfl ?_
  refine V.iconst dX8_bodyOf_24 (v := 4) (by decide) ?_
  refine V.imul dX8_bodyOf_25 ?_
  refine V.iload_n dX8_bodyOf_26 rfl (i := 1) rfl ?_
  refine V.iadd dX8_bodyOf_27 ?_
  refine V.iaTb (j := 3) dX8_bodyOf_28 rfl (by unfold vp_in; decide) ?_
  refine V.top (x' := (0 : Int32)) ((by decide)) ?_
  refine V.if_eq (tgt := 42) dX8_bodyOf_29 (by decide) (fun c29 => ?_) (fun q => absurd ((by decide)) q)
  refine V.getsN (j := 0) (host := "OneBreath") dX8_bodyOf_42 rfl rfl (by decide) ?_
  refine V.iload_n dX8_bodyOf_45 rfl (i := 2) rfl ?_
  refine V.iaTb (j := 0) dX8_bodyOf_46 rfl (by unfold vp_in; decide) ?_
  refine V.top (x' := (1 : Int32)) ((by decide)) ?_
  refine V.istore_n dX8_bodyOf_47 rfl (i := 2) (by decide) (fun _ h => by cases h; exact Or.inl rfl) rfl ?_
  refine V.iinc dX8_bodyOf_48 rfl (v := (nI (t + 1))) (nI_1 _) (by decide) (fun _ h => by cases h; exact Or.inl rfl) rfl ?_
  refine V.goto dX8_bodyOf_51 (tgt := 4) (by decide) ?_
  exact l_bd_1_3 (by omega) hQ
set_option maxHeartbeats 4000000 in
set_option maxRecDepth 100000 in
theorem l_bd_5_0 {g : GG} {d : Nat} {M : Mem} {Q : Option Value → Mem → Prop} {f : Int32} {t : Nat} (ht : t ≤ 4) (hQ : Q (some (.int (10 : Int32))) M) : V cS g d mX8_bodyOf 4 [some (.int f), some (.int (0 : Int32)), some (.int (5 : Int32)), some (.int (nI t))] [] M Q := by
  refine V.iload_n dX8_bodyOf_4 rfl (i := 3) rfl ?_
  refine V.bipush dX8_bodyOf_5 (v := 7) (by decide) ?_
  refine V.ic_ge (tgt := 54) dX8_bodyOf_7 (by decide) (fun q => absurd q ((nI_ge (a := t) (b := 7) (by omega) (by omega)))) (fun c7 => ?_)
  refine V.iload_n dX8_bodyOf_10 rfl (i := 2) rfl ?_
  refine V.if_lt (tgt := 54) dX8_bodyOf_11 (by decide) (fun q => absurd q ((by decide))) (fun c11 => ?_)
  refine V.iload_n dX8_bodyOf_14 rfl (i := 2) rfl ?_
  refine V.bipush dX8_bodyOf_15 (v := 7) (by decide) ?_
  refine V.ic_ge (tgt := 54) dX8_bodyOf_17 (by decide) (fun q => absurd q ((by decide))) (fun c17 => ?_)
  refine V.gets (j := 3) dX8_bodyOf_20 rfl rfl slRX8_46 ?_
  refine V.iload_n dX8_bodyOf_23 rfl (i := 2) rfl ?_
  refine V.iconst dX8_bodyOf_24 (v := 4) (by decide) ?_
  refine V.imul dX8_bodyOf_25 ?_
  refine V.iload_n dX8_bodyOf_26 rfl (i := 1) rfl ?_
  refine V.iadd dX8_bodyOf_27 ?_
  refine V.iaTb (j := 3) dX8_bodyOf_28 rfl (by unfold vp_in; decide) ?_
  refine V.top (x' := (0 : Int32)) ((by decide)) ?_
  refine V.if_eq (tgt := 42) dX8_bodyOf_29 (by decide) (fun c29 => ?_) (fun q => absurd ((by decide)) q)
  refine V.getsN (j := 0) (host := "OneBreath") dX8_bodyOf_42 rfl rfl (by decide) ?_
  refine V.iload_n dX8_bodyOf_45 rfl (i := 2) rfl ?_
  refine V.iaTb (j := 0) dX8_bodyOf_46 rfl (by unfold vp_in; decide) ?_
  refine V.top (x' := (1 : Int32)) ((by decide)) ?_
  refine V.istore_n dX8_bodyOf_47 rfl (i := 2) (by decide) (fun _ h => by cases h; exact Or.inl rfl) rfl ?_
  refine V.iinc dX8_bodyOf_48 rfl (v := (nI (t + 1))) (nI_1 _) (by decide) (fun _ h => by cases h; exact Or.inl rfl) rfl ?_
  refine V.goto dX8_bodyOf_51 (tgt := 4) (by decide) ?_
  exact l_bd_1_0 (by omega) hQ
set_option maxHeartbeats 4000000 in
set_option maxRecDepth 100000 in
theorem l_bd_5_1 {g : GG} {d : Nat} {M : Mem} {Q : Option Value → Mem → Prop} {f : Int32} {t : Nat} (ht : t ≤ 4) (hQ : Q (some (.int (20 : Int32))) M) : V cS g d mX8_bodyOf 4 [some (.int f), some (.int (1 : Int32)), some (.int (5 : Int32)), some (.int (nI t))] [] M Q := by
  refine V.iload_n dX8_bodyOf_4 rfl (i := 3) rfl ?_
  refine V.bipush dX8_bodyOf_5 (v := 7) (by decide) ?_
  refine V.ic_ge (tgt := 54) dX8_bodyOf_7 (by decide) (fun q => absurd q ((nI_ge (a := t) (b := 7) (by omega) (by omega)))) (fun c7 => ?_)
  refine V.iload_n dX8_bodyOf_10 rfl (i := 2) rfl ?_
  refine V.if_lt (tgt := 54) dX8_bodyOf_11 (by decide) (fun q => absurd q ((by decide))) (fun c11 => ?_)
  refine V.iload_n dX8_bodyOf_14 rfl (i := 2) rfl ?_
  refine V.bipush dX8_bodyOf_15 (v := 7) (by decide) ?_
  refine V.ic_ge (tgt := 54) dX8_bodyOf_17 (by decide) (fun q => absurd q ((by decide))) (fun c17 => ?_)
  refine V.gets (j := 3) dX8_bodyOf_20 rfl rfl slRX8_46 ?_
  refine V.iload_n dX8_bodyOf_23 rfl (i := 2) rfl ?_
  refine V.iconst dX8_bodyOf_24 (v := 4) (by decide) ?_
  refine V.imul dX8_bodyOf_25 ?_
  refine V.iload_n dX8_bodyOf_26 rfl (i := 1) rfl ?_
  refine V.iadd dX8_bodyOf_27 ?_
  refine V.iaTb (j := 3) dX8_bodyOf_28 rfl (by unfold vp_in; decide) ?_
  refine V.top (x' := (0 : Int32)) ((by decide)) ?_
  refine V.if_eq (tgt := 42) dX8_bodyOf_29 (by decide) (fun c29 => ?_) (fun q => absurd ((by decide)) q)
  refine V.getsN (j := 0) (host := "OneBreath") dX8_bodyOf_42 rfl rfl (by decide) ?_
  refine V.iload_n dX8_bodyOf_45 rfl (i := 2) rfl ?_
  refine V.iaTb (j := 0) dX8_bodyOf_46 rfl (by unfold vp_in; decide) ?_
  refine V.top (x' := (1 : Int32)) ((by decide)) ?_
  refine V.istore_n dX8_bodyOf_47 rfl (i := 2) (by decide) (fun _ h => by cases h; exact Or.inl rfl) rfl ?_
  refine V.iinc dX8_bodyOf_48 rfl (v := (nI (t + 1))) (nI_1 _) (by decide) (fun _ h => by cases h; exact Or.inl rfl) rfl ?_
  refine V.goto dX8_bodyOf_51 (tgt := 4) (by decide) ?_
  exact l_bd_1_1 (by omega) hQ
set_option maxHeartbeats 4000000 in
set_option maxRecDepth 100000 in
theorem l_bd_5_2 {g : GG} {d : Nat} {M : Mem} {Q : Option Value → Mem → Prop} {f : Int32} {t : Nat} (ht : t ≤ 4) (hQ : Q (some (.int (12 : Int32))) M) : V cS g d mX8_bodyOf 4 [some (.int f), some (.int (2 : Int32)), some (.int (5 : Int32)), some (.int (nI t))] [] M Q := by
  refine V.iload_n dX8_bodyOf_4 rfl (i := 3) rfl ?_
  refine V.bipush dX8_bodyOf_5 (v := 7) (by decide) ?_
  refine V.ic_ge (tgt := 54) dX8_bodyOf_7 (by decide) (fun q => absurd q ((nI_ge (a := t) (b := 7) (by omega) (by omega)))) (fun c7 => ?_)
  refine V.iload_n dX8_bodyOf_10 rfl (i := 2) rfl ?_
  refine V.if_lt (tgt := 54) dX8_bodyOf_11 (by decide) (fun q => absurd q ((by decide))) (fun c11 => ?_)
  refine V.iload_n dX8_bodyOf_14 rfl (i := 2) rfl ?_
  refine V.bipush dX8_bodyOf_15 (v := 7) (by decide) ?_
  refine V.ic_ge (tgt := 54) dX8_bodyOf_17 (by decide) (fun q => absurd q ((by decide))) (fun c17 => ?_)
  refine V.gets (j := 3) dX8_bodyOf_20 rfl rfl slRX8_46 ?_
  refine V.iload_n dX8_bodyOf_23 rfl (i := 2) rfl ?_
  refine V.iconst dX8_bodyOf_24 (v := 4) (by decide) ?_
  refine V.imul dX8_bodyOf_25 ?_
  refine V.iload_n dX8_bodyOf_26 rfl (i := 1) rfl ?_
  refine V.iadd dX8_bodyOf_27 ?_
  refine V.iaTb (j := 3) dX8_bodyOf_28 rfl (by unfold vp_in; decide) ?_
  refine V.top (x' := (0 : Int32)) ((by decide)) ?_
  refine V.if_eq (tgt := 42) dX8_bodyOf_29 (by decide) (fun c29 => ?_) (fun q => absurd ((by decide)) q)
  refine V.getsN (j := 0) (host := "OneBreath") dX8_bodyOf_42 rfl rfl (by decide) ?_
  refine V.iload_n dX8_bodyOf_45 rfl (i := 2) rfl ?_
  refine V.iaTb (j := 0) dX8_bodyOf_46 rfl (by unfold vp_in; decide) ?_
  refine V.top (x' := (1 : Int32)) ((by decide)) ?_
  refine V.istore_n dX8_bodyOf_47 rfl (i := 2) (by decide) (fun _ h => by cases h; exact Or.inl rfl) rfl ?_
  refine V.iinc dX8_bodyOf_48 rfl (v := (nI (t + 1))) (nI_1 _) (by decide) (fun _ h => by cases h; exact Or.inl rfl) rfl ?_
  refine V.goto dX8_bodyOf_51 (tgt := 4) (by decide) ?_
  exact l_bd_1_2 (by omega) hQ
set_option maxHeartbeats 4000000 in
set_option maxRecDepth 100000 in
theorem l_bd_5_3 {g : GG} {d : Nat} {M : Mem} {Q : Option Value → Mem → Prop} {f : Int32} {t : Nat} (ht : t ≤ 4) (hQ : Q (some (.int (60 : Int32))) M) : V cS g d mX8_bodyOf 4 [some (.int f), some (.int (3 : Int32)), some (.int (5 : Int32)), some (.int (nI t))] [] M Q := by
  refine V.iload_n dX8_bodyOf_4 rfl (i := 3) rfl ?_
  refine V.bipush dX8_bodyOf_5 (v := 7) (by decide) ?_
  refine V.ic_ge (tgt := 54) dX8_bodyOf_7 (by decide) (fun q => absurd q ((nI_ge (a := t) (b := 7) (by omega) (by omega)))) (fun c7 => ?_)
  refine V.iload_n dX8_bodyOf_10 rfl (i := 2) rfl ?_
  refine V.if_lt (tgt := 54) dX8_bodyOf_11 (by decide) (fun q => absurd q ((by decide))) (fun c11 => ?_)
  refine V.iload_n dX8_bodyOf_14 rfl (i := 2) rfl ?_
  refine V.bipush dX8_bodyOf_15 (v := 7) (by decide) ?_
  refine V.ic_ge (tgt := 54) dX8_bodyOf_17 (by decide) (fun q => absurd q ((by decide))) (fun c17 => ?_)
  refine V.gets (j := 3) dX8_bodyOf_20 rfl rfl slRX8_46 ?_
  refine V.iload_n dX8_bodyOf_23 rfl (i := 2) rfl ?_
  refine V.iconst dX8_bodyOf_24 (v := 4) (by decide) ?_
  refine V.imul dX8_bodyOf_25 ?_
  refine V.iload_n dX8_bodyOf_26 rfl (i := 1) rfl ?_
  refine V.iadd dX8_bodyOf_27 ?_
  refine V.iaTb (j := 3) dX8_bodyOf_28 rfl (by unfold vp_in; decide) ?_
  refine V.top (x' := (60 : Int32)) ((by decide)) ?_
  refine V.if_eq (tgt := 42) dX8_bodyOf_29 (by decide) (fun q => absurd q ((by decide))) (fun c29 => ?_)
  refine V.gets (j := 3) dX8_bodyOf_32 rfl rfl slRX8_46 ?_
  refine V.iload_n dX8_bodyOf_35 rfl (i := 2) rfl ?_
  refine V.iconst dX8_bodyOf_36 (v := 4) (by decide) ?_
  refine V.imul dX8_bodyOf_37 ?_
  refine V.iload_n dX8_bodyOf_38 rfl (i := 1) rfl ?_
  refine V.iadd dX8_bodyOf_39 ?_
  refine V.iaTb (j := 3) dX8_bodyOf_40 rfl (by unfold vp_in; decide) ?_
  refine V.top (x' := (60 : Int32)) ((by decide)) ?_
  exact V.ret dX8_bodyOf_41 rfl (hQ)
set_option maxHeartbeats 4000000 in
set_option maxRecDepth 100000 in
theorem l_bd_6_0 {g : GG} {d : Nat} {M : Mem} {Q : Option Value → Mem → Prop} {f : Int32} {t : Nat} (ht : t ≤ 4) (hQ : Q (some (.int (10 : Int32))) M) : V cS g d mX8_bodyOf 4 [some (.int f), some (.int (0 : Int32)), some (.int (6 : Int32)), some (.int (nI t))] [] M Q := by
  refine V.iload_n dX8_bodyOf_4 rfl (i := 3) rfl ?_
  refine V.bipush dX8_bodyOf_5 (v := 7) (by decide) ?_
  refine V.ic_ge (tgt := 54) dX8_bodyOf_7 (by decide) (fun q => absurd q ((nI_ge (a := t) (b := 7) (by omega) (by omega)))) (fun c7 => ?_)
  refine V.iload_n dX8_bodyOf_10 rfl (i := 2) rfl ?_
  refine V.if_lt (tgt := 54) dX8_bodyOf_11 (by decide) (fun q => absurd q ((by decide))) (fun c11 => ?_)
  refine V.iload_n dX8_bodyOf_14 rfl (i := 2) rfl ?_
  refine V.bipush dX8_bodyOf_15 (v := 7) (by decide) ?_
  refine V.ic_ge (tgt := 54) dX8_bodyOf_17 (by decide) (fun q => absurd q ((by decide))) (fun c17 => ?_)
  refine V.gets (j := 3) dX8_bodyOf_20 rfl rfl slRX8_46 ?_
  refine V.iload_n dX8_bodyOf_23 rfl (i := 2) rfl ?_
  refine V.iconst dX8_bodyOf_24 (v := 4) (by decide) ?_
  refine V.imul dX8_bodyOf_25 ?_
  refine V.iload_n dX8_bodyOf_26 rfl (i := 1) rfl ?_
  refine V.iadd dX8_bodyOf_27 ?_
  refine V.iaTb (j := 3) dX8_bodyOf_28 rfl (by unfold vp_in; decide) ?_
  refine V.top (x' := (0 : Int32)) ((by decide)) ?_
  refine V.if_eq (tgt := 42) dX8_bodyOf_29 (by decide) (fun c29 => ?_) (fun q => absurd ((by decide)) q)
  refine V.getsN (j := 0) (host := "OneBreath") dX8_bodyOf_42 rfl rfl (by decide) ?_
  refine V.iload_n dX8_bodyOf_45 rfl (i := 2) rfl ?_
  refine V.iaTb (j := 0) dX8_bodyOf_46 rfl (by unfold vp_in; decide) ?_
  refine V.top (x' := (3 : Int32)) ((by decide)) ?_
  refine V.istore_n dX8_bodyOf_47 rfl (i := 2) (by decide) (fun _ h => by cases h; exact Or.inl rfl) rfl ?_
  refine V.iinc dX8_bodyOf_48 rfl (v := (nI (t + 1))) (nI_1 _) (by decide) (fun _ h => by cases h; exact Or.inl rfl) rfl ?_
  refine V.goto dX8_bodyOf_51 (tgt := 4) (by decide) ?_
  exact l_bd_3_0 (by omega) hQ
set_option maxHeartbeats 4000000 in
set_option maxRecDepth 100000 in
theorem l_bd_6_1 {g : GG} {d : Nat} {M : Mem} {Q : Option Value → Mem → Prop} {f : Int32} {t : Nat} (ht : t ≤ 4) (hQ : Q (some (.int (11 : Int32))) M) : V cS g d mX8_bodyOf 4 [some (.int f), some (.int (1 : Int32)), some (.int (6 : Int32)), some (.int (nI t))] [] M Q := by
  refine V.iload_n dX8_bodyOf_4 rfl (i := 3) rfl ?_
  refine V.bipush dX8_bodyOf_5 (v := 7) (by decide) ?_
  refine V.ic_ge (tgt := 54) dX8_bodyOf_7 (by decide) (fun q => absurd q ((nI_ge (a := t) (b := 7) (by omega) (by omega)))) (fun c7 => ?_)
  refine V.iload_n dX8_bodyOf_10 rfl (i := 2) rfl ?_
  refine V.if_lt (tgt := 54) dX8_bodyOf_11 (by decide) (fun q => absurd q ((by decide))) (fun c11 => ?_)
  refine V.iload_n dX8_bodyOf_14 rfl (i := 2) rfl ?_
  refine V.bipush dX8_bodyOf_15 (v := 7) (by decide) ?_
  refine V.ic_ge (tgt := 54) dX8_bodyOf_17 (by decide) (fun q => absurd q ((by decide))) (fun c17 => ?_)
  refine V.gets (j := 3) dX8_bodyOf_20 rfl rfl slRX8_46 ?_
  refine V.iload_n dX8_bodyOf_23 rfl (i := 2) rfl ?_
  refine V.iconst dX8_bodyOf_24 (v := 4) (by decide) ?_
  refine V.imul dX8_bodyOf_25 ?_
  refine V.iload_n dX8_bodyOf_26 rfl (i := 1) rfl ?_
  refine V.iadd dX8_bodyOf_27 ?_
  refine V.iaTb (j := 3) dX8_bodyOf_28 rfl (by unfold vp_in; decide) ?_
  refine V.top (x' := (0 : Int32)) ((by decide)) ?_
  refine V.if_eq (tgt := 42) dX8_bodyOf_29 (by decide) (fun c29 => ?_) (fun q => absurd ((by decide)) q)
  refine V.getsN (j := 0) (host := "OneBreath") dX8_bodyOf_42 rfl rfl (by decide) ?_
  refine V.iload_n dX8_bodyOf_45 rfl (i := 2) rfl ?_
  refine V.iaTb (j := 0) dX8_bodyOf_46 rfl (by unfold vp_in; decide) ?_
  refine V.top (x' := (3 : Int32)) ((by decide)) ?_
  refine V.istore_n dX8_bodyOf_47 rfl (i := 2) (by decide) (fun _ h => by cases h; exact Or.inl rfl) rfl ?_
  refine V.iinc dX8_bodyOf_48 rfl (v := (nI (t + 1))) (nI_1 _) (by decide) (fun _ h => by cases h; exact Or.inl rfl) rfl ?_
  refine V.goto dX8_bodyOf_51 (tgt := 4) (by decide) ?_
  exact l_bd_3_1 (by omega) hQ
set_option maxHeartbeats 4000000 in
set_option maxRecDepth 100000 in
theorem l_bd_6_2 {g : GG} {d : Nat} {M : Mem} {Q : Option Value → Mem → Prop} {f : Int32} {t : Nat} (ht : t ≤ 4) (hQ : Q (some (.int (70 : Int32))) M) : V cS g d mX8_bodyOf 4 [some (.int f), some (.int (2 : Int32)), some (.int (6 : Int32)), some (.int (nI t))] [] M Q := by
  refine V.iload_n dX8_bodyOf_4 rfl (i := 3) rfl ?_
  refine V.bipush dX8_bodyOf_5 (v := 7) (by decide) ?_
  refine V.ic_ge (tgt := 54) dX8_bodyOf_7 (by decide) (fun q => absurd q ((nI_ge (a := t) (b := 7) (by omega) (by omega)))) (fun c7 => ?_)
  refine V.iload_n dX8_bodyOf_10 rfl (i := 2) rfl ?_
  refine V.if_lt (tgt := 54) dX8_bodyOf_11 (by decide) (fun q => absurd q ((by decide))) (fun c11 => ?_)
  refine V.iload_n dX8_bodyOf_14 rfl (i := 2) rfl ?_
  refine V.bipush dX8_bodyOf_15 (v := 7) (by decide) ?_
  refine V.ic_ge (tgt := 54) dX8_bodyOf_17 (by decide) (fun q => absurd q ((by decide))) (fun c17 => ?_)
  refine V.gets (j := 3) dX8_bodyOf_20 rfl rfl slRX8_46 ?_
  refine V.iload_n dX8_bodyOf_23 rfl (i := 2) rfl ?_
  refine V.iconst dX8_bodyOf_24 (v := 4) (by decide) ?_
  refine V.imul dX8_bodyOf_25 ?_
  refine V.iload_n dX8_bodyOf_26 rfl (i := 1) rfl ?_
  refine V.iadd dX8_bodyOf_27 ?_
  refine V.iaTb (j := 3) dX8_bodyOf_28 rfl (by unfold vp_in; decide) ?_
  refine V.top (x' := (70 : Int32)) ((by decide)) ?_
  refine V.if_eq (tgt := 42) dX8_bodyOf_29 (by decide) (fun q => absurd q ((by decide))) (fun c29 => ?_)
  refine V.gets (j := 3) dX8_bodyOf_32 rfl rfl slRX8_46 ?_
  refine V.iload_n dX8_bodyOf_35 rfl (i := 2) rfl ?_
  refine V.iconst dX8_bodyOf_36 (v := 4) (by decide) ?_
  refine V.imul dX8_bodyOf_37 ?_
  refine V.iload_n dX8_bodyOf_38 rfl (i := 1) rfl ?_
  refine V.iadd dX8_bodyOf_39 ?_
  refine V.iaTb (j := 3) dX8_bodyOf_40 rfl (by unfold vp_in; decide) ?_
  refine V.top (x' := (70 : Int32)) ((by decide)) ?_
  exact V.ret dX8_bodyOf_41 rfl (hQ)
set_option maxHeartbeats 4000000 in
set_option maxRecDepth 100000 in
theorem l_bd_6_3 {g : GG} {d : Nat} {M : Mem} {Q : Option Value → Mem → Prop} {f : Int32} {t : Nat} (ht : t ≤ 4) (hQ : Q (some (.int (71 : Int32))) M) : V cS g d mX8_bodyOf 4 [some (.int f), some (.int (3 : Int32)), some (.int (6 : Int32)), some (.int (nI t))] [] M Q := by
  refine V.iload_n dX8_bodyOf_4 rfl (i := 3) rfl ?_
  refine V.bipush dX8_bodyOf_5 (v := 7) (by decide) ?_
  refine V.ic_ge (tgt := 54) dX8_bodyOf_7 (by decide) (fun q => absurd q ((nI_ge (a := t) (b := 7) (by omega) (by omega)))) (fun c7 => ?_)
  refine V.iload_n dX8_bodyOf_10 rfl (i := 2) rfl ?_
  refine V.if_lt (tgt := 54) dX8_bodyOf_11 (by decide) (fun q => absurd q ((by decide))) (fun c11 => ?_)
  refine V.iload_n dX8_bodyOf_14 rfl (i := 2) rfl ?_
  refine V.bipush dX8_bodyOf_15 (v := 7) (by decide) ?_
  refine V.ic_ge (tgt := 54) dX8_bodyOf_17 (by decide) (fun q => absurd q ((by decide))) (fun c17 => ?_)
  refine V.gets (j := 3) dX8_bodyOf_20 rfl rfl slRX8_46 ?_
  refine V.iload_n dX8_bodyOf_23 rfl (i := 2) rfl ?_
  refine V.iconst dX8_bodyOf_24 (v := 4) (by decide) ?_
  refine V.imul dX8_bodyOf_25 ?_
  refine V.iload_n dX8_bodyOf_26 rfl (i := 1) rfl ?_
  refine V.iadd dX8_bodyOf_27 ?_
  refine V.iaTb (j := 3) dX8_bodyOf_28 rfl (by unfold vp_in; decide) ?_
  refine V.top (x' := (71 : Int32)) ((by decide)) ?_
  refine V.if_eq (tgt := 42) dX8_bodyOf_29 (by decide) (fun q => absurd q ((by decide))) (fun c29 => ?_)
  refine V.gets (j := 3) dX8_bodyOf_32 rfl rfl slRX8_46 ?_
  refine V.iload_n dX8_bodyOf_35 rfl (i := 2) rfl ?_
  refine V.iconst dX8_bodyOf_36 (v := 4) (by decide) ?_
  refine V.imul dX8_bodyOf_37 ?_
  refine V.iload_n dX8_bodyOf_38 rfl (i := 1) rfl ?_
  refine V.iadd dX8_bodyOf_39 ?_
  refine V.iaTb (j := 3) dX8_bodyOf_40 rfl (by unfold vp_in; decide) ?_
  refine V.top (x' := (71 : Int32)) ((by decide)) ?_
  exact V.ret dX8_bodyOf_41 rfl (hQ)
set_option maxHeartbeats 4000000 in
set_option maxRecDepth 100000 in
theorem c_bdy {g : GG} {d : Nat} {M : Mem} {Q : Option Value → Mem → Prop} : ∀ k, k < 7 → ∀ a, a < 4 → Q (some (.int (nI (bdN k a)))) M → V cS g d mX8_bodyOf 0 [some (.int (nI k)), some (.int (nI a)), none, none] [] M Q := by
  have h : ∀ (k a : Int32), V cS g d mX8_bodyOf 4 [some (.int k), some (.int a), some (.int k), some (.int (nI 0))] [] M Q → V cS g d mX8_bodyOf 0 [some (.int k), some (.int a), none, none] [] M Q := by
    intro k a hc
    refine V.iload_n dX8_bodyOf_0 rfl (i := 0) rfl ?_
    refine V.istore_n dX8_bodyOf_1 rfl (i := 2) (by decide) (fun _ h => by cases h; exact Or.inl rfl) rfl ?_
    refine V.iconst dX8_bodyOf_2 (v := 0) (by decide) ?_
    refine V.istore_n dX8_bodyOf_3 rfl (i := 3) (by decide) (fun _ h => by cases h; exact Or.inl rfl) rfl ?_
    exact hc
  exact lt7 (lt4 (fun hQ => h 0 0 (l_bd_0_0 (by omega) hQ)) (fun hQ => h 0 1 (l_bd_0_1 (by omega) hQ)) (fun hQ => h 0 2 (l_bd_0_2 (by omega) hQ)) (fun hQ => h 0 3 (l_bd_0_3 (by omega) hQ))) (lt4 (fun hQ => h 1 0 (l_bd_1_0 (by omega) hQ)) (fun hQ => h 1 1 (l_bd_1_1 (by omega) hQ)) (fun hQ => h 1 2 (l_bd_1_2 (by omega) hQ)) (fun hQ => h 1 3 (l_bd_1_3 (by omega) hQ))) (lt4 (fun hQ => h 2 0 (l_bd_2_0 (by omega) hQ)) (fun hQ => h 2 1 (l_bd_2_1 (by omega) hQ)) (fun hQ => h 2 2 (l_bd_2_2 (by omega) hQ)) (fun hQ => h 2 3 (l_bd_2_3 (by omega) hQ))) (lt4 (fun hQ => h 3 0 (l_bd_3_0 (by omega) hQ)) (fun hQ => h 3 1 (l_bd_3_1 (by omega) hQ)) (fun hQ => h 3 2 (l_bd_3_2 (by omega) hQ)) (fun hQ => h 3 3 (l_bd_3_3 (by omega) hQ))) (lt4 (fun hQ => h 4 0 (l_bd_4_0 (by omega) hQ)) (fun hQ => h 4 1 (l_bd_4_1 (by omega) hQ)) (fun hQ => h 4 2 (l_bd_4_2 (by omega) hQ)) (fun hQ => h 4 3 (l_bd_4_3 (by omega) hQ))) (lt4 (fun hQ => h 5 0 (l_bd_5_0 (by omega) hQ)) (fun hQ => h 5 1 (l_bd_5_1 (by omega) hQ)) (fun hQ => h 5 2 (l_bd_5_2 (by omega) hQ)) (fun hQ => h 5 3 (l_bd_5_3 (by omega) hQ))) (lt4 (fun hQ => h 6 0 (l_bd_6_0 (by omega) hQ)) (fun hQ => h 6 1 (l_bd_6_1 (by omega) hQ)) (fun hQ => h 6 2 (l_bd_6_2 (by omega) hQ)) (fun hQ => h 6 3 (l_bd_6_3 (by omega) hQ)))

