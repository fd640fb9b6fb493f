/-! ===== Law's other acts, strength, grazing ===== -/
def lawC (M : Mem) (a b c d e : Int32) : Int32 := rpnRun (fun j => [a, b, c, d, e].getD j 0) ((List.range (M 14 1).toNatClampNeg).map (M 68)) []
def lawG (M : Mem) (a b c d e : Int32) : Int32 := rpnRun (fun j => [a, b, c, d, e].getD j 0) ((List.range (M 15 1).toNatClampNeg).map (M 71)) []
def sz50 (x : Int32) : Prop := ∃ n, n ≤ 50 ∧ x = nI n
theorem c_val14 {g : GG} {d : Nat} {M : Mem} {Q : Option Value → Mem → Prop} {a b c0 d0 e0 : Int32} (hw : sz50 (M 14 1)) (hQ : ∀ M', eqx [69, 70] M M' → Q (some (.int (lawC M a b c0 d0 e0))) M') : V cS g (d + 1) mX2_value 0 [some (.ref 14), some (.int a), some (.int b), some (.int c0), some (.int d0), some (.int e0), none, none, none] [] M Q := by
  obtain ⟨n, h1, h2⟩ := hw
  refine c_value14 h2 h1 (fun M' h => ?_)
  have := hQ M' h
  unfold lawC at this
  rw [h2, nI_clamp (by omega)] at this
  exact this
theorem c_val15 {g : GG} {d : Nat} {M : Mem} {Q : Option Value → Mem → Prop} {a b c0 d0 e0 : Int32} (hw : sz50 (M 15 1)) (hQ : ∀ M', eqx [72, 73] M M' → Q (some (.int (lawG M a b c0 d0 e0))) M') : V cS g (d + 1) mX2_value 0 [some (.ref 15), some (.int a), some (.int b), some (.int c0), some (.int d0), some (.int e0), none, none, none] [] M Q := by
  obtain ⟨n, h1, h2⟩ := hw
  refine c_value15 h2 h1 (fun M' h => ?_)
  have := hQ M' h
  unfold lawG at this
  rw [h2, nI_clamp (by omega)] at this
  exact this
theorem lawC_eq {M M' : Mem} (h1 : M' 14 = M 14) (h2 : M' 68 = M 68) : lawC M' = lawC M := by unfold lawC; rw [h1, h2]
theorem lawG_eq {M M' : Mem} (h1 : M' 15 = M 15) (h2 : M' 71 = M 71) : lawG M' = lawG M := by unfold lawG; rw [h1, h2]
def farF (f t : Int32) : Int32 := if 0 ≤ f - t then f - t else 0 - (f - t)
def hidF (hb : Nat → Int32) (f t : Nat) : Int32 := if f < t then (if f + 1 < t then hb t - hb (f + 1) else 0) else (if t + 1 < f then hb f - hb (t + 1) else 0)
def hidS (hb : Nat → Int32) (f t : Int32) : Int32 := hidF hb f.toNatClampNeg t.toNatClampNeg
def windS (f t w : Int32) : Int32 := if t ≤ f then (if f ≤ t then 0 else -w) else w
/-- within lo .. hi -/
def rg (lo hi x : Int32) : Prop := lo ≤ x ∧ x ≤ hi
theorem rg_n {x : Int32} (n : Nat) (hn : n < 2147483648) (h : rg 0 (nI n) x) : ∃ j : Nat, j ≤ n ∧ x = nI j := nI_of2 (nI_toInt (by omega)) (Int32.not_lt.mpr h.1) h.2
theorem rg_99 {x : Int32} (h : rg 0 99 x) : ∃ j : Nat, j < 100 ∧ x = nI j := by
  obtain ⟨j, h1, h2⟩ := rg_n 99 (by omega) h
  exact ⟨j, by omega, h2⟩
def strS (M : Mem) (k l f t w : Int32) : Int32 := lawC M l (farF f t) (hidS (M 10) f t) (windS f t w) k

set_option maxHeartbeats 4000000 in
set_option maxRecDepth 100000 in
theorem c_clear {g : GG} {d : Nat} {M : Mem} {Q : Option Value → Mem → Prop}   (hQ : Q none (put M 26 1 0)) : V cS g d mX2_clear 0 [some (.ref 26)] [] M Q := by
  refine V.aload_n dX2_clear_0 rfl (i := 0) rfl ?_
  refine V.iconst dX2_clear_1 (v := 0) (by decide) ?_
  refine V.putI dX2_clear_2 rfl fpRX2_21 rfl ⟨by decide, by decide⟩ ?_
  exact V.vret dX2_clear_5 rfl (hQ)
set_option maxHeartbeats 4000000 in
set_option maxRecDepth 100000 in
theorem c_add {g : GG} {d : Nat} {M : Mem} {Q : Option Value → Mem → Prop} {n : Nat} {x : Int32} (hn : M 26 1 = nI n) (h : n < 50) (hQ : Q none (put (put M 80 n x) 26 1 (nI (n + 1)))) : V cS g d mX2_add 0 [some (.ref 26), some (.int x)] [] M Q := by
  refine V.aload_n dX2_add_0 rfl (i := 0) rfl ?_
  refine V.getI dX2_add_1 rfl flRX2_21 rfl ⟨by decide, by decide⟩ ?_
  refine V.top (x' := (nI n)) (hn) ?_
  refine V.bipush dX2_add_4 (v := 50) (by decide) ?_
  refine V.ic_ge (tgt := 29) dX2_add_6 (by decide) (fun q => absurd q ((nI_ge (a := n) (b := 50) (by omega) (by omega)))) (fun c6 => ?_)
  refine V.aload_n dX2_add_9 rfl (i := 0) rfl ?_
  refine V.getR dX2_add_10 rfl flRX2_9 rfl ⟨by decide, by decide⟩ ?_
  refine V.aload_n dX2_add_13 rfl (i := 0) rfl ?_
  refine V.getI dX2_add_14 rfl flRX2_21 rfl ⟨by decide, by decide⟩ ?_
  refine V.top (x' := (nI n)) (hn) ?_
  refine V.iload_n dX2_add_17 rfl (i := 1) rfl ?_
  refine V.iastN dX2_add_18 rfl ⟨by decide, by decide⟩ (by first | assumption | decide | omega) (by decide) ?_
  refine V.aload_n dX2_add_19 rfl (i := 0) rfl ?_
  refine V.dup dX2_add_20 rfl ?_
  refine V.getI dX2_add_21 rfl flRX2_21 rfl ⟨by decide, by decide⟩ ?_
  refine V.top (x' := (nI n)) ((by simp [put, hn])) ?_
  refine V.iconst dX2_add_24 (v := 1) (by decide) ?_
  refine V.iadd dX2_add_25 ?_
  refine V.top (x' := (nI (n + 1))) (nI_add n 1) ?_
  refine V.putI dX2_add_26 rfl fpRX2_21 rfl ⟨by decide, by decide⟩ ?_
  exact V.vret dX2_add_29 rfl (hQ)
set_option maxHeartbeats 4000000 in
set_option maxRecDepth 100000 in
theorem c_addNumber {g : GG} {d : Nat} {M : Mem} {Q : Option Value → Mem → Prop} {n : Nat} {x : Int32} (hn : M 26 1 = nI n) (h : n < 50) (hQ : Q none (put (put M 80 n (x)) 26 1 (nI (n + 1)))) : V cS g (d + 1) mX2_addNumber 0 [some (.ref 26), some (.int x)] [] M Q := by
  refine V.aload_n dX2_addNumber_0 rfl (i := 0) rfl ?_
  refine V.iload_n dX2_addNumber_1 rfl (i := 1) rfl ?_
  refine V.invv (z := mX2_add) (As := [_]) dX2_addNumber_2 rfl mlRX2_31 okX2_add npX2_add rfl rfl rfl ⟨by decide, by decide⟩ (Nat.le_of_ble_eq_true rfl) rfl (Nat.le_of_ble_eq_true rfl) (c_add hn h ?_)
  show V cS g (d + 1) mX2_addNumber 5 [some (.ref 26), some (.int x)] [] (put (put M 80 n (x)) 26 1 (nI (n + 1))) Q
  exact V.vret dX2_addNumber_5 rfl (hQ)
set_option maxHeartbeats 4000000 in
set_option maxRecDepth 100000 in
theorem c_addName {g : GG} {d : Nat} {M : Mem} {Q : Option Value → Mem → Prop} {n : Nat} {x : Int32} (hn : M 26 1 = nI n) (h : n < 50) (hQ : Q none (put (put M 80 n (-1 - x)) 26 1 (nI (n + 1)))) : V cS g (d + 1) mX2_addName 0 [some (.ref 26), some (.int x)] [] M Q := by
  refine V.aload_n dX2_addName_0 rfl (i := 0) rfl ?_
  refine V.iconst dX2_addName_1 (v := (-1)) (by decide) ?_
  refine V.iload_n dX2_addName_2 rfl (i := 1) rfl ?_
  refine V.isub dX2_addName_3 ?_
  refine V.invv (z := mX2_add) (As := [_]) dX2_addName_4 rfl mlRX2_31 okX2_add npX2_add rfl rfl rfl ⟨by decide, by decide⟩ (Nat.le_of_ble_eq_true rfl) rfl (Nat.le_of_ble_eq_true rfl) (c_add hn h ?_)
  show V cS g (d + 1) mX2_addName 7 [some (.ref 26), some (.int x)] [] (put (put M 80 n (-1 - x)) 26 1 (nI (n + 1))) Q
  exact V.vret dX2_addName_7 rfl (hQ)
set_option maxHeartbeats 4000000 in
set_option maxRecDepth 100000 in
theorem c_addSign {g : GG} {d : Nat} {M : Mem} {Q : Option Value → Mem → Prop} {n : Nat} {x : Int32} (hn : M 26 1 = nI n) (h : n < 50) (hQ : Q none (put (put M 80 n (-x)) 26 1 (nI (n + 1)))) : V cS g (d + 1) mX2_addSign 0 [some (.ref 26), some (.int x)] [] M Q := by
  refine V.aload_n dX2_addSign_0 rfl (i := 0) rfl ?_
  refine V.iload_n dX2_addSign_1 rfl (i := 1) rfl ?_
  refine V.ineg dX2_addSign_2 ?_
  refine V.invv (z := mX2_add) (As := [_]) dX2_addSign_3 rfl mlRX2_31 okX2_add npX2_add rfl rfl rfl ⟨by decide, by decide⟩ (Nat.le_of_ble_eq_true rfl) rfl (Nat.le_of_ble_eq_true rfl) (c_add hn h ?_)
  show V cS g (d + 1) mX2_addSign 6 [some (.ref 26), some (.int x)] [] (put (put M 80 n (-x)) 26 1 (nI (n + 1))) Q
  exact V.vret dX2_addSign_6 rfl (hQ)
set_option maxHeartbeats 4000000 in
set_option maxRecDepth 100000 in
theorem c_lb_14_26 {g : GG} {d : Nat} {M : Mem} {Q : Option Value → Mem → Prop}   (hQ : Q none (put (um M 68 (va_cpy (M 80) (M 68) 0 0 50)) 14 1 (M 26 1))) : V cS g (d + 1) mX2_become 0 [some (.ref 14), some (.ref 26)] [] M Q := by
  refine V.aload_n dX2_become_0 rfl (i := 1) rfl ?_
  refine V.getR dX2_become_1 rfl flRX2_9 rfl ⟨by decide, by decide⟩ ?_
  refine V.iconst dX2_become_4 (v := 0) (by decide) ?_
  refine V.aload_n dX2_become_5 rfl (i := 0) rfl ?_
  refine V.getR dX2_become_6 rfl flRX2_9 rfl ⟨by decide, by decide⟩ ?_
  refine V.iconst dX2_become_9 (v := 0) (by decide) ?_
  refine V.bipush dX2_become_10 (v := 50) (by decide) ?_
  refine V.copyN (sp' := 0) (dp' := 0) (n' := 50) dX2_become_12 rfl mlRX2_25 ac_n ac_s ac_i rfl ⟨by decide, by decide⟩ rfl ⟨by decide, by decide⟩ (by first | rfl | decide) (by first | rfl | decide) (by first | rfl | decide) (by decide) (by decide) (by decide) (by decide) (Nat.le_of_ble_eq_true rfl) ?_
  refine V.aload_n dX2_become_15 rfl (i := 0) rfl ?_
  refine V.aload_n dX2_become_16 rfl (i := 1) rfl ?_
  refine V.getI dX2_become_17 rfl flRX2_21 rfl ⟨by decide, by decide⟩ ?_
  refine V.putI dX2_become_20 rfl fpRX2_21 rfl ⟨by decide, by decide⟩ ?_
  exact V.vret dX2_become_23 rfl (Qm hQ (by rw [um_cell (by decide : 26 ≠ 68)]))
set_option maxHeartbeats 4000000 in
set_option maxRecDepth 100000 in
theorem c_lb_15_26 {g : GG} {d : Nat} {M : Mem} {Q : Option Value → Mem → Prop}   (hQ : Q none (put (um M 71 (va_cpy (M 80) (M 71) 0 0 50)) 15 1 (M 26 1))) : V cS g (d + 1) mX2_become 0 [some (.ref 15), some (.ref 26)] [] M Q := by
  refine V.aload_n dX2_become_0 rfl (i := 1) rfl ?_
  refine V.getR dX2_become_1 rfl flRX2_9 rfl ⟨by decide, by decide⟩ ?_
  refine V.iconst dX2_become_4 (v := 0) (by decide) ?_
  refine V.aload_n dX2_become_5 rfl (i := 0) rfl ?_
  refine V.getR dX2_become_6 rfl flRX2_9 rfl ⟨by decide, by decide⟩ ?_
  refine V.iconst dX2_become_9 (v := 0) (by decide) ?_
  refine V.bipush dX2_become_10 (v := 50) (by decide) ?_
  refine V.copyN (sp' := 0) (dp' := 0) (n' := 50) dX2_become_12 rfl mlRX2_25 ac_n ac_s ac_i rfl ⟨by decide, by decide⟩ rfl ⟨by decide, by decide⟩ (by first | rfl | decide) (by first | rfl | decide) (by first | rfl | decide) (by decide) (by decide) (by decide) (by decide) (Nat.le_of_ble_eq_true rfl) ?_
  refine V.aload_n dX2_become_15 rfl (i := 0) rfl ?_
  refine V.aload_n dX2_become_16 rfl (i := 1) rfl ?_
  refine V.getI dX2_become_17 rfl flRX2_21 rfl ⟨by decide, by decide⟩ ?_
  refine V.putI dX2_become_20 rfl fpRX2_21 rfl ⟨by decide, by decide⟩ ?_
  exact V.vret dX2_become_23 rfl (Qm hQ (by rw [um_cell (by decide : 26 ≠ 71)]))
set_option maxHeartbeats 4000000 in
set_option maxRecDepth 100000 in
theorem c_lb_22_14 {g : GG} {d : Nat} {M : Mem} {Q : Option Value → Mem → Prop}   (hQ : Q none (put (um M 74 (va_cpy (M 68) (M 74) 0 0 50)) 22 1 (M 14 1))) : V cS g (d + 1) mX2_become 0 [some (.ref 22), some (.ref 14)] [] M Q := by
  refine V.aload_n dX2_become_0 rfl (i := 1) rfl ?_
  refine V.getR dX2_become_1 rfl flRX2_9 rfl ⟨by decide, by decide⟩ ?_
  refine V.iconst dX2_become_4 (v := 0) (by decide) ?_
  refine V.aload_n dX2_become_5 rfl (i := 0) rfl ?_
  refine V.getR dX2_become_6 rfl flRX2_9 rfl ⟨by decide, by decide⟩ ?_
  refine V.iconst dX2_become_9 (v := 0) (by decide) ?_
  refine V.bipush dX2_become_10 (v := 50) (by decide) ?_
  refine V.copyN (sp' := 0) (dp' := 0) (n' := 50) dX2_become_12 rfl mlRX2_25 ac_n ac_s ac_i rfl ⟨by decide, by decide⟩ rfl ⟨by decide, by decide⟩ (by first | rfl | decide) (by first | rfl | decide) (by first | rfl | decide) (by decide) (by decide) (by decide) (by decide) (Nat.le_of_ble_eq_true rfl) ?_
  refine V.aload_n dX2_become_15 rfl (i := 0) rfl ?_
  refine V.aload_n dX2_become_16 rfl (i := 1) rfl ?_
  refine V.getI dX2_become_17 rfl flRX2_21 rfl ⟨by decide, by decide⟩ ?_
  refine V.putI dX2_become_20 rfl fpRX2_21 rfl ⟨by decide, by decide⟩ ?_
  exact V.vret dX2_become_23 rfl (Qm hQ (by rw [um_cell (by decide : 14 ≠ 74)]))
set_option maxHeartbeats 4000000 in
set_option maxRecDepth 100000 in
theorem c_lb_23_15 {g : GG} {d : Nat} {M : Mem} {Q : Option Value → Mem → Prop}   (hQ : Q none (put (um M 77 (va_cpy (M 71) (M 77) 0 0 50)) 23 1 (M 15 1))) : V cS g (d + 1) mX2_become 0 [some (.ref 23), some (.ref 15)] [] M Q := by
  refine V.aload_n dX2_become_0 rfl (i := 1) rfl ?_
  refine V.getR dX2_become_1 rfl flRX2_9 rfl ⟨by decide, by decide⟩ ?_
  refine V.iconst dX2_become_4 (v := 0) (by decide) ?_
  refine V.aload_n dX2_become_5 rfl (i := 0) rfl ?_
  refine V.getR dX2_become_6 rfl flRX2_9 rfl ⟨by decide, by decide⟩ ?_
  refine V.iconst dX2_become_9 (v := 0) (by decide) ?_
  refine V.bipush dX2_become_10 (v := 50) (by decide) ?_
  refine V.copyN (sp' := 0) (dp' := 0) (n' := 50) dX2_become_12 rfl mlRX2_25 ac_n ac_s ac_i rfl ⟨by decide, by decide⟩ rfl ⟨by decide, by decide⟩ (by first | rfl | decide) (by first | rfl | decide) (by first | rfl | decide) (by decide) (by decide) (by decide) (by decide) (Nat.le_of_ble_eq_true rfl) ?_
  refine V.aload_n dX2_become_15 rfl (i := 0) rfl ?_
  refine V.aload_n dX2_become_16 rfl (i := 1) rfl ?_
  refine V.getI dX2_become_17 rfl flRX2_21 rfl ⟨by decide, by decide⟩ ?_
  refine V.putI dX2_become_20 rfl fpRX2_21 rfl ⟨by decide, by decide⟩ ?_
  exact V.vret dX2_become_23 rfl (Qm hQ (by rw [um_cell (by decide : 15 ≠ 77)]))
set_option maxHeartbeats 4000000 in
set_option maxRecDepth 100000 in
theorem c_lb_14_22 {g : GG} {d : Nat} {M : Mem} {Q : Option Value → Mem → Prop}   (hQ : Q none (put (um M 68 (va_cpy (M 74) (M 68) 0 0 50)) 14 1 (M 22 1))) : V cS g (d + 1) mX2_become 0 [some (.ref 14), some (.ref 22)] [] M Q := by
  refine V.aload_n dX2_become_0 rfl (i := 1) rfl ?_
  refine V.getR dX2_become_1 rfl flRX2_9 rfl ⟨by decide, by decide⟩ ?_
  refine V.iconst dX2_become_4 (v := 0) (by decide) ?_
  refine V.aload_n dX2_become_5 rfl (i := 0) rfl ?_
  refine V.getR dX2_become_6 rfl flRX2_9 rfl ⟨by decide, by decide⟩ ?_
  refine V.iconst dX2_become_9 (v := 0) (by decide) ?_
  refine V.bipush dX2_become_10 (v := 50) (by decide) ?_
  refine V.copyN (sp' := 0) (dp' := 0) (n' := 50) dX2_become_12 rfl mlRX2_25 ac_n ac_s ac_i rfl ⟨by decide, by decide⟩ rfl ⟨by decide, by decide⟩ (by first | rfl | decide) (by first | rfl | decide) (by first | rfl | decide) (by decide) (by decide) (by decide) (by decide) (Nat.le_of_ble_eq_true rfl) ?_
  refine V.aload_n dX2_become_15 rfl (i := 0) rfl ?_
  refine V.aload_n dX2_become_16 rfl (i := 1) rfl ?_
  refine V.getI dX2_become_17 rfl flRX2_21 rfl ⟨by decide, by decide⟩ ?_
  refine V.putI dX2_become_20 rfl fpRX2_21 rfl ⟨by decide, by decide⟩ ?_
  exact V.vret dX2_become_23 rfl (Qm hQ (by rw [um_cell (by decide : 22 ≠ 68)]))
set_option maxHeartbeats 4000000 in
set_option maxRecDepth 100000 in
theorem c_lb_15_23 {g : GG} {d : Nat} {M : Mem} {Q : Option Value → Mem → Prop}   (hQ : Q none (put (um M 71 (va_cpy (M 77) (M 71) 0 0 50)) 15 1 (M 23 1))) : V cS g (d + 1) mX2_become 0 [some (.ref 15), some (.ref 23)] [] M Q := by
  refine V.aload_n dX2_become_0 rfl (i := 1) rfl ?_
  refine V.getR dX2_become_1 rfl flRX2_9 rfl ⟨by decide, by decide⟩ ?_
  refine V.iconst dX2_become_4 (v := 0) (by decide) ?_
  refine V.aload_n dX2_become_5 rfl (i := 0) rfl ?_
  refine V.getR dX2_become_6 rfl flRX2_9 rfl ⟨by decide, by decide⟩ ?_
  refine V.iconst dX2_become_9 (v := 0) (by decide) ?_
  refine V.bipush dX2_become_10 (v := 50) (by decide) ?_
  refine V.copyN (sp' := 0) (dp' := 0) (n' := 50) dX2_become_12 rfl mlRX2_25 ac_n ac_s ac_i rfl ⟨by decide, by decide⟩ rfl ⟨by decide, by decide⟩ (by first | rfl | decide) (by first | rfl | decide) (by first | rfl | decide) (by decide) (by decide) (by decide) (by decide) (Nat.le_of_ble_eq_true rfl) ?_
  refine V.aload_n dX2_become_15 rfl (i := 0) rfl ?_
  refine V.aload_n dX2_become_16 rfl (i := 1) rfl ?_
  refine V.getI dX2_become_17 rfl flRX2_21 rfl ⟨by decide, by decide⟩ ?_
  refine V.putI dX2_become_20 rfl fpRX2_21 rfl ⟨by decide, by decide⟩ ?_
  exact V.vret dX2_become_23 rfl (Qm hQ (by rw [um_cell (by decide : 23 ≠ 71)]))
set_option maxHeartbeats 4000000 in
set_option maxRecDepth 100000 in
theorem c_strength {g : GG} {d : Nat} {M : Mem} {Q : Option Value → Mem → Prop} {k l f t w : Int32} (hw : sz50 (M 14 1)) (hf : rg 0 99 f) (ht : rg 0 99 t) (hQ : ∀ M', eqx [69, 70] M M' → Q (some (.int (strS M k l f t w))) M') : V cS g (d + 2) mX7_strength 0 [some (.ref 1), some (.int k), some (.int l), some (.int f), some (.int t), some (.int w), none] [] M Q := by
  obtain ⟨f, hf1, rfl⟩ := rg_99 hf
  obtain ⟨t, ht1, rfl⟩ := rg_99 ht
  refine V.iload dX7_strength_0 rfl ?_
  refine V.iload_n dX7_strength_2 rfl (i := 3) rfl ?_
  suffices kJ3 : V cS g (d + 2) mX7_strength 24 [some (.ref 1), some (.int k), some (.int l), some (.int (nI f)), some (.int (nI t)), some (.int w), none] [.int (if (nI t) ≤ (nI f) then (if (nI f) ≤ (nI t) then (0 : Int32) else (-w)) else w)] M Q by
    refine V.ic_le (tgt := 11) dX7_strength_3 (by decide) (fun c3 => ?_) (fun c3 => ?_)
    · refine V.iload dX7_strength_11 rfl ?_
      refine V.iload_n dX7_strength_13 rfl (i := 3) rfl ?_
      refine V.ic_ge (tgt := 23) dX7_strength_14 (by decide) (fun c14 => ?_) (fun c14 => ?_)
      · refine V.iconst dX7_strength_23 (v := 0) (by decide) ?_
        rw [if_pos c3, if_pos c14] at kJ3; exact kJ3
      · refine V.iload dX7_strength_17 rfl ?_
        refine V.ineg dX7_strength_19 ?_
        refine V.goto dX7_strength_20 (tgt := 24) (by decide) ?_
        rw [if_pos c3, if_neg c14] at kJ3; exact kJ3
    · refine V.iload dX7_strength_6 rfl ?_
      refine V.goto dX7_strength_8 (tgt := 24) (by decide) ?_
      rw [if_neg c3] at kJ3; exact kJ3
  refine V.istore dX7_strength_24 (i := 6) (by decide) (fun _ h => by cases h; exact Or.inl rfl) rfl ?_
  refine V.aload_n dX7_strength_26 rfl (i := 0) rfl ?_
  refine V.getR dX7_strength_27 rfl flRX7_37 rfl ⟨by decide, by decide⟩ ?_
  refine V.iload_n dX7_strength_30 rfl (i := 2) rfl ?_
  refine V.iload_n dX7_strength_31 rfl (i := 3) rfl ?_
  refine V.iload dX7_strength_32 rfl ?_
  refine V.isub dX7_strength_34 ?_
  refine V.mabs dX7_strength_35 rfl mlRX7_91 (Nat.le_of_ble_eq_true rfl) ?_
  refine V.aload_n dX7_strength_38 rfl (i := 0) rfl ?_
  refine V.iload_n dX7_strength_39 rfl (i := 3) rfl ?_
  refine V.iload dX7_strength_40 rfl ?_
  refine V.invv (z := mX7_hidBetween) (As := [_, _]) dX7_strength_42 rfl mlRX7_95 okX7_hidBetween npX7_hidBetween rfl rfl rfl ⟨by decide, by decide⟩ (Nat.le_of_ble_eq_true rfl) rfl (Nat.le_of_ble_eq_true rfl) (c_hid  (hf1) (ht1) ?_)
  show V cS g (d + 2) mX7_strength 45 [some (.ref 1), some (.int k), some (.int l), some (.int (nI f)), some (.int (nI t)), some (.int w), some (.int (if (nI t) ≤ (nI f) then (if (nI f) ≤ (nI t) then (0 : Int32) else (-w)) else w))] [.int (if f < t then (if f + 1 < t then M 10 t - M 10 (f + 1) else 0) else (if t + 1 < f then M 10 f - M 10 (t + 1) else 0)), .int (if 0 ≤ ((nI f) - (nI t)) then ((nI f) - (nI t)) else 0 - ((nI f) - (nI t))), .int l, .ref 14] M Q
  refine V.iload dX7_strength_45 rfl ?_
  refine V.iload_n dX7_strength_47 rfl (i := 1) rfl ?_
  refine V.invv (z := mX2_value) (As := [_, _, _, _, _]) dX7_strength_48 rfl mlRX7_98 okX2_value npX2_value rfl rfl rfl ⟨by decide, by decide⟩ (Nat.le_of_ble_eq_true rfl) rfl (Nat.le_of_ble_eq_true rfl) (c_val14  (hw) (fun M1 hM1 => ?_))
  show V cS g (d + 2) mX7_strength 51 [some (.ref 1), some (.int k), some (.int l), some (.int (nI f)), some (.int (nI t)), some (.int w), some (.int (if (nI t) ≤ (nI f) then (if (nI f) ≤ (nI t) then (0 : Int32) else (-w)) else w))] [.int (lawC M l (if 0 ≤ ((nI f) - (nI t)) then ((nI f) - (nI t)) else 0 - ((nI f) - (nI t))) (if f < t then (if f + 1 < t then M 10 t - M 10 (f + 1) else 0) else (if t + 1 < f then M 10 f - M 10 (t + 1) else 0)) (if (nI t) ≤ (nI f) then (if (nI f) ≤ (nI t) then (0 : Int32) else (-w)) else w) k)] M1 Q
  exact V.ret dX7_strength_51 rfl (Qi (hQ _ hM1) (by unfold strS hidS; rw [nI_clamp (by omega), nI_clamp (by omega)]; rfl))
set_option maxHeartbeats 4000000 in
set_option maxRecDepth 100000 in
theorem c_grazedSpot {g : GG} {d : Nat} {M : Mem} {Q : Option Value → Mem → Prop} {s r m : Int32} (hw : sz50 (M 15 1)) (hQ : ∀ M', eqx [72, 73] M M' → Q (some (.int (heldF (lawG M s r m 0 0) 0 99))) M') : V cS g (d + 2) mX7_grazedSpot 0 [some (.ref 1), some (.int s), some (.int r), some (.int m)] [] M Q := by
  refine V.aload_n dX7_grazedSpot_0 rfl (i := 0) rfl ?_
  refine V.getR dX7_grazedSpot_1 rfl flRX7_41 rfl ⟨by decide, by decide⟩ ?_
  refine V.iload_n dX7_grazedSpot_4 rfl (i := 1) rfl ?_
  refine V.iload_n dX7_grazedSpot_5 rfl (i := 2) rfl ?_
  refine V.iload_n dX7_grazedSpot_6 rfl (i := 3) rfl ?_
  refine V.iconst dX7_grazedSpot_7 (v := 0) (by decide) ?_
  refine V.iconst dX7_grazedSpot_8 (v := 0) (by decide) ?_
  refine V.invv (z := mX2_value) (As := [_, _, _, _, _]) dX7_grazedSpot_9 rfl mlRX7_98 okX2_value npX2_value rfl rfl rfl ⟨by decide, by decide⟩ (Nat.le_of_ble_eq_true rfl) rfl (Nat.le_of_ble_eq_true rfl) (c_val15  (hw) (fun M1 hM1 => ?_))
  show V cS g (d + 2) mX7_grazedSpot 12 [some (.ref 1), some (.int s), some (.int r), some (.int m)] [.int (lawG M s r m (0 : Int32) (0 : Int32))] M1 Q
  refine V.iconst dX7_grazedSpot_12 (v := 0) (by decide) ?_
  refine V.bipush dX7_grazedSpot_13 (v := 99) (by decide) ?_
  refine V.invsN (z := mX9_heldWithin) (As := [_, _, _]) (host := "OneBreath") dX7_grazedSpot_15 rfl (by decide +kernel) okX9_heldWithin npX9_heldWithin rfl (Nat.le_of_ble_eq_true rfl) rfl (Nat.le_of_ble_eq_true rfl) (c_heldWithin   ?_)
  show V cS g (d + 2) mX7_grazedSpot 18 [some (.ref 1), some (.int s), some (.int r), some (.int m)] [.int (heldF (lawG M s r m (0 : Int32) (0 : Int32)) (0 : Int32) (99 : Int32))] (M1) Q
  exact V.ret dX7_grazedSpot_18 rfl (hQ _ hM1)

