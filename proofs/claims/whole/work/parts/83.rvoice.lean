/-! ===== the reference: voices ===== -/
def wrR : Mem → Nat → List Nat → Mem
  | M, _, [] => M
  | M, t, b :: l => wrR (put (put M 97 t (nI b)) 83 22 (nI (t + 1))) (t + 1) l
theorem wrR_app : ∀ (l : List Nat) (M : Mem) (t : Nat) (l' : List Nat), wrR M t (l ++ l') = wrR (wrR M t l) (t + l.length) l'
  | [], _, _, _ => rfl
  | b :: l, M, t, l' => by
    show wrR _ (t + 1) (l ++ l') = wrR (wrR _ (t + 1) l) _ l'
    rw [wrR_app l, List.length_cons, Nat.add_assoc t 1, Nat.add_comm 1]
theorem wrR_83 {j : Nat} (hj : j ≠ 22) : ∀ (l : List Nat) (M : Mem) (t : Nat), wrR M t l 83 j = M 83 j
  | [], _, _ => rfl
  | b :: l, M, t => by
    show wrR _ (t + 1) l 83 j = _
    rw [wrR_83 hj l, put_n (fun z => hj z.2), put_cell (by decide)]
theorem wrR_b : ∀ (l : List Nat) (M : Mem) (t : Nat), M 83 22 = nI t → wrR M t l 83 22 = nI (t + l.length)
  | [], _, _, h => h
  | b :: l, M, t, h => by
    show wrR _ (t + 1) l 83 22 = _
    rw [wrR_b l _ _ put_s, List.length_cons, Nat.add_assoc t 1, Nat.add_comm 1]
theorem wrR_c {c : Nat} (h7 : c ≠ 83) (h60 : c ≠ 97) : ∀ (l : List Nat) (M : Mem) (t : Nat), wrR M t l c = M c
  | [], _, _ => rfl
  | b :: l, M, t => by
    show wrR _ (t + 1) l c = _
    rw [wrR_c h7 h60 l, put_cell h7, put_cell h60]
def vSr (M : Mem) (t k w : Nat) (m : Int32) : Prop := M 83 22 = nI t ∧ M 83 23 = nI w ∧ w < 8 ∧ M 84 (108 + 7 * w + 0) = nI k ∧ M 84 (108 + 7 * w + 1) = m
theorem vSr.wr {M : Mem} {t k w : Nat} {m : Int32} (h : vSr M t k w m) (l : List Nat) : vSr (wrR M t l) (t + l.length) k w m := ⟨wrR_b l M t h.1, (wrR_83 (by decide) l M t).trans h.2.1, h.2.2.1, by rw [wrR_c (by decide) (by decide)]; exact h.2.2.2.1, by rw [wrR_c (by decide) (by decide)]; exact h.2.2.2.2⟩
theorem vSr.one {M : Mem} {t k w : Nat} {m : Int32} (h : vSr M t k w m) (b : Nat) : vSr (put (put M 97 t (nI b)) 83 22 (nI (t + 1))) (t + 1) k w m := h.wr [b]

set_option maxHeartbeats 4000000 in
set_option maxRecDepth 100000 in
theorem c_ran {g : GG} {d : Nat} {M : Mem} {Q : Option Value → Mem → Prop} {t : Nat} {x : Int32} (ht : M 83 22 = nI t) (h : t < 40) (hQ : Q none (put (put M 97 t x) 83 22 (nI (t + 1)))) : V rS g d mX10_ran 0 [some (.ref 83), some (.int x)] [] M Q := by
  refine V.aload_n dX10_ran_0 rfl (i := 0) rfl ?_
  refine V.getI dX10_ran_1 rfl flRX10_290 rfl ⟨by decide, by decide⟩ ?_
  refine V.top (x' := (nI t)) (ht) ?_
  refine V.bipush dX10_ran_4 (v := 40) (by decide) ?_
  refine V.ic_ge (tgt := 29) dX10_ran_6 (by decide) (fun q => absurd q ((nI_ge (a := t) (b := 40) (by omega) (by omega)))) (fun c6 => ?_)
  refine V.aload_n dX10_ran_9 rfl (i := 0) rfl ?_
  refine V.getR dX10_ran_10 rfl flRX10_50 rfl ⟨by decide, by decide⟩ ?_
  refine V.aload_n dX10_ran_13 rfl (i := 0) rfl ?_
  refine V.getI dX10_ran_14 rfl flRX10_290 rfl ⟨by decide, by decide⟩ ?_
  refine V.top (x' := (nI t)) (ht) ?_
  refine V.iload_n dX10_ran_17 rfl (i := 1) rfl ?_
  refine V.iastN dX10_ran_18 rfl ⟨by decide, by decide⟩ (by first | assumption | decide | omega) (by decide) ?_
  refine V.aload_n dX10_ran_19 rfl (i := 0) rfl ?_
  refine V.dup dX10_ran_20 rfl ?_
  refine V.getI dX10_ran_21 rfl flRX10_290 rfl ⟨by decide, by decide⟩ ?_
  refine V.top (x' := (nI t)) ((by rw [put_cell (by decide)]; exact ht)) ?_
  refine V.iconst dX10_ran_24 (v := 1) (by decide) ?_
  refine V.iadd dX10_ran_25 ?_
  refine V.top (x' := (nI (t + 1))) (nI_add t 1) ?_
  refine V.putI dX10_ran_26 rfl fpRX10_290 rfl ⟨by decide, by decide⟩ ?_
  exact V.vret dX10_ran_29 rfl (hQ)
set_option maxHeartbeats 4000000 in
set_option maxRecDepth 100000 in
theorem c_above {g : GG} {d : Nat} {M : Mem} {Q : Option Value → Mem → Prop} {j : Int32}  (hQ : Q (some (.int (if j = 4 ∨ j = 5 then 1 else if j = 6 then 3 else 0))) (M)) : V rS g d mX10_above 0 [some (.int j)] [] M Q := by
  refine V.iload_n dX10_above_0 rfl (i := 0) rfl ?_
  refine V.iconst dX10_above_1 (v := 4) (by decide) ?_
  suffices kJ2 : V rS g d mX10_above 25 [some (.int j)] [.int (if j = (4 : Int32) then (1 : Int32) else (if j = (5 : Int32) then (1 : Int32) else (if j = (6 : Int32) then (3 : Int32) else (0 : Int32))))] M Q by
    refine V.ic_eq (tgt := 10) dX10_above_2 (by decide) (fun c2 => ?_) (fun c2 => ?_)
    · refine V.iconst dX10_above_10 (v := 1) (by decide) ?_
      refine V.goto dX10_above_11 (tgt := 25) (by decide) ?_
      rw [if_pos c2] at kJ2; exact kJ2
    · refine V.iload_n dX10_above_5 rfl (i := 0) rfl ?_
      refine V.iconst dX10_above_6 (v := 5) (by decide) ?_
      refine V.ic_ne (tgt := 14) dX10_above_7 (by decide) (fun c7 => ?_) (fun c7 => ?_)
      · refine V.iload_n dX10_above_14 rfl (i := 0) rfl ?_
        refine V.bipush dX10_above_15 (v := 6) (by decide) ?_
        refine V.ic_ne (tgt := 24) dX10_above_17 (by decide) (fun c17 => ?_) (fun c17 => ?_)
        · refine V.iconst dX10_above_24 (v := 0) (by decide) ?_
          rw [if_neg c2, if_neg c7, if_neg c17] at kJ2; exact kJ2
        · refine V.iconst dX10_above_20 (v := 3) (by decide) ?_
          refine V.goto dX10_above_21 (tgt := 25) (by decide) ?_
          rw [if_neg c2, if_neg c7, if_pos c17] at kJ2; exact kJ2
      · refine V.iconst dX10_above_10 (v := 1) (by decide) ?_
        refine V.goto dX10_above_11 (tgt := 25) (by decide) ?_
        rw [if_neg c2, if_pos c7] at kJ2; exact kJ2
  exact V.ret dX10_above_25 rfl (Qi hQ (by (repeat' split) <;> simp_all))
set_option maxHeartbeats 4000000 in
set_option maxRecDepth 100000 in
theorem c_ownR {g : GG} {d : Nat} {M : Mem} {Q : Option Value → Mem → Prop} {w : Nat} (hw : M 83 23 = nI w) (h8 : w < 8) (hQ : Q (some (.int (M 84 (108 + 7 * w + 0)))) (M)) : V rS g (d + 1) mX10_own 0 [some (.ref 83)] [] M Q := by
  refine V.aload_n dX10_own_0 rfl (i := 0) rfl ?_
  refine V.aload_n dX10_own_1 rfl (i := 0) rfl ?_
  refine V.getI dX10_own_2 rfl flRX10_293 rfl ⟨by decide, by decide⟩ ?_
  refine V.top (x' := (nI w)) (hw) ?_
  refine V.iconst dX10_own_5 (v := 0) (by decide) ?_
  refine V.invv (z := mX10_of) (As := [_, _]) dX10_own_6 rfl mlRX10_175 okX10_of npX10_of rfl rfl rfl ⟨by decide, by decide⟩ (Nat.le_of_ble_eq_true rfl) rfl (Nat.le_of_ble_eq_true rfl) (c_of  (by omega) (by decide) ?_)
  show V rS g (d + 1) mX10_own 9 [some (.ref 83)] [.int (M 84 (108 + 7 * w + 0))] (M) Q
  exact V.ret dX10_own_9 rfl (hQ)
def VA (k w : Nat) (m : Int32) (g : GG) (f a j : Nat) (y : XM) (ex : List (Option Value)) (dj : Nat) : Prop := ∀ (D t : Nat) (x : Int32) (M : Mem) (Q : Option Value → Mem → Prop), 4 * f + 3 + dj ≤ D → vok k f (bdN j a) = true → t + (vL k f (bdN j a)).length ≤ 40 → vSr M t k w m → Q (some (.int (vR k (nI w) m f (bdN j a) x))) (wrR M t (vL k f (bdN j a))) → V rS g D y 0 (some (.ref 83) :: some (.int (nI j)) :: some (.int x) :: ex) [] M Q
def VAll (k w : Nat) (m : Int32) (g : GG) (f : Nat) : Prop := (∀ j, j < 7 → VA k w m g f 0 j mX10_rings [] 2) ∧ (∀ j, j < 7 → VA k w m g f 1 j mX10_swings [none] 2) ∧ (∀ j, j < 7 → VA k w m g f 2 j mX10_hums [] 2) ∧ (∀ j, j < 7 → VA k w m g f 3 j mX10_tells [none] 2)
set_option maxHeartbeats 4000000 in
set_option maxRecDepth 100000 in
theorem v_0_0 {k w : Nat} {m : Int32} {g : GG} {f : Nat} (hk : k < 7) (hI : VAll k w m g f) : VA k w m g (f + 1) 0 0 mX10_rings [] 0 := by
  intro D t x M Q hD hv ht hS hQ
  obtain ⟨dd, rfl⟩ : ∃ dd, D = dd + 3 := ⟨D - 3, by omega⟩
  have hw8 := hS.2.2.1
  have ht2 : t + (10 :: ([])).length ≤ 40 := ht
  rw [List.length_cons] at ht2
  have hQ2 : Q (some (.int (x + nI w))) (wrR (put (put M 97 t (nI 10)) 83 22 (nI (t + 1))) (t + 1) ([])) := hQ
  have hS1 := hS.one 10
  refine V.iload_n dX10_rings_0 rfl (i := 1) rfl ?_
  refine V.lookup (off := 27) (tgt := 28) dX10_rings_1 (by decide) (by decide) (by decide) ?_
  refine V.aload_n dX10_rings_28 rfl (i := 0) rfl ?_
  refine V.bipush dX10_rings_29 (v := 10) (by decide) ?_
  refine V.invv (z := mX10_ran) (As := [_]) dX10_rings_31 rfl mlRX10_296 okX10_ran npX10_ran rfl rfl rfl ⟨by decide, by decide⟩ (Nat.le_of_ble_eq_true rfl) rfl (Nat.le_of_ble_eq_true rfl) (c_ran hS.1 (by omega) ?_)
  show V rS g (dd + 3) mX10_rings 34 [some (.ref 83), some (.int (nI 0)), some (.int x)] [] (put (put M 97 t (nI 10)) 83 22 (nI (t + 1))) Q
  refine V.iload_n dX10_rings_34 rfl (i := 2) rfl ?_
  refine V.aload_n dX10_rings_35 rfl (i := 0) rfl ?_
  refine V.getI dX10_rings_36 rfl flRX10_293 rfl ⟨by decide, by decide⟩ ?_
  refine V.top (x' := (nI w)) (hS1.2.1) ?_
  refine V.iadd dX10_rings_39 ?_
  exact V.ret dX10_rings_40 rfl (hQ2)
set_option maxHeartbeats 4000000 in
set_option maxRecDepth 100000 in
theorem v_0_1 {k w : Nat} {m : Int32} {g : GG} {f : Nat} (hk : k < 7) (hI : VAll k w m g f) : VA k w m g (f + 1) 0 1 mX10_rings [] 1 := by
  intro D t x M Q hD hv ht hS hQ
  obtain ⟨dd, rfl⟩ : ∃ dd, D = dd + 3 := ⟨D - 3, by omega⟩
  refine V.iload_n dX10_rings_0 rfl (i := 1) rfl ?_
  refine V.lookup (off := 58) (tgt := 59) dX10_rings_1 (by decide) (by decide) (by decide) ?_
  refine V.aload_n dX10_rings_59 rfl (i := 0) rfl ?_
  refine V.iload_n dX10_rings_60 rfl (i := 1) rfl ?_
  refine V.invs (z := mX10_above) (As := [_]) dX10_rings_61 rfl mlRX10_299 okX10_above npX10_above rfl (Nat.le_of_ble_eq_true rfl) rfl (Nat.le_of_ble_eq_true rfl) (c_above ?_)
  show V rS g (dd + 3) mX10_rings 64 [some (.ref 83), some (.int (nI 1)), some (.int x)] [.int (nI 0), .ref 83] M Q
  refine V.iload_n dX10_rings_64 rfl (i := 2) rfl ?_
  refine V.invv (z := mX10_rings) (As := [_, _]) dX10_rings_65 rfl mlRX10_302 okX10_rings npX10_rings rfl rfl rfl ⟨by decide, by decide⟩ (Nat.le_of_ble_eq_true rfl) rfl (Nat.le_of_ble_eq_true rfl) (v_0_0 hk hI (dd + 2) t x M _ (by omega) hv ht hS ?_)
  show V rS g (dd + 3) mX10_rings 68 [some (.ref 83), some (.int (nI 1)), some (.int x)] [.int (vR k (nI w) m (f + 1) (bdN 1 0) x)] (wrR M t (vL k (f + 1) (bdN 1 0))) Q
  exact V.ret dX10_rings_68 rfl (hQ)
set_option maxHeartbeats 4000000 in
set_option maxRecDepth 100000 in
theorem v_0_2 {k w : Nat} {m : Int32} {g : GG} {f : Nat} (hk : k < 7) (hI : VAll k w m g f) : VA k w m g (f + 1) 0 2 mX10_rings [] 1 := by
  intro D t x M Q hD hv ht hS hQ
  obtain ⟨dd, rfl⟩ : ∃ dd, D = dd + 3 := ⟨D - 3, by omega⟩
  have hw8 := hS.2.2.1
  have ht2 : t + (30 :: (vL k f (bdN 0 0))).length ≤ 40 := ht
  rw [List.length_cons] at ht2
  have hQ2 : Q (some (.int ((vR k (nI w) m f (bdN 0 0) x) * 3))) (wrR (put (put M 97 t (nI 30)) 83 22 (nI (t + 1))) (t + 1) (vL k f (bdN 0 0))) := hQ
  have hv0 : vok k f (bdN 0 0) = true := hv
  have hS1 := hS.one 30
  refine V.iload_n dX10_rings_0 rfl (i := 1) rfl ?_
  refine V.lookup (off := 40) (tgt := 41) dX10_rings_1 (by decide) (by decide) (by decide) ?_
  refine V.aload_n dX10_rings_41 rfl (i := 0) rfl ?_
  refine V.bipush dX10_rings_42 (v := 30) (by decide) ?_
  refine V.invv (z := mX10_ran) (As := [_]) dX10_rings_44 rfl mlRX10_296 okX10_ran npX10_ran rfl rfl rfl ⟨by decide, by decide⟩ (Nat.le_of_ble_eq_true rfl) rfl (Nat.le_of_ble_eq_true rfl) (c_ran hS.1 (by omega) ?_)
  show V rS g (dd + 3) mX10_rings 47 [some (.ref 83), some (.int (nI 2)), some (.int x)] [] (put (put M 97 t (nI 30)) 83 22 (nI (t + 1))) Q
  refine V.aload_n dX10_rings_47 rfl (i := 0) rfl ?_
  refine V.iconst dX10_rings_48 (v := 2) (by decide) ?_
  refine V.invs (z := mX10_above) (As := [_]) dX10_rings_49 rfl mlRX10_299 okX10_above npX10_above rfl (Nat.le_of_ble_eq_true rfl) rfl (Nat.le_of_ble_eq_true rfl) (c_above ?_)
  show V rS g (dd + 3) mX10_rings 52 [some (.ref 83), some (.int (nI 2)), some (.int x)] [.int (nI 0), .ref 83] (put (put M 97 t (nI 30)) 83 22 (nI (t + 1))) Q
  refine V.iload_n dX10_rings_52 rfl (i := 2) rfl ?_
  refine V.invv (z := mX10_rings) (As := [_, _]) dX10_rings_53 rfl mlRX10_302 okX10_rings npX10_rings rfl rfl rfl ⟨by decide, by decide⟩ (Nat.le_of_ble_eq_true rfl) rfl (Nat.le_of_ble_eq_true rfl) (hI.1 _ (by decide) (dd + 2) (t + 1) _ _ _ (by omega) hv0 (by omega) hS1 ?_)
  show V rS g (dd + 3) mX10_rings 56 [some (.ref 83), some (.int (nI 2)), some (.int x)] [.int (vR k (nI w) m f (bdN 0 0) x)] (wrR (put (put M 97 t (nI 30)) 83 22 (nI (t + 1))) (t + 1) (vL k f (bdN 0 0))) Q
  refine V.iconst dX10_rings_56 (v := 3) (by decide) ?_
  refine V.imul dX10_rings_57 ?_
  exact V.ret dX10_rings_58 rfl (hQ2)
set_option maxHeartbeats 4000000 in
set_option maxRecDepth 100000 in
theorem v_0_3 {k w : Nat} {m : Int32} {g : GG} {f : Nat} (hk : k < 7) (hI : VAll k w m g f) : VA k w m g (f + 1) 0 3 mX10_rings [] 1 := by
  intro D t x M Q hD hv ht hS hQ
  obtain ⟨dd, rfl⟩ : ∃ dd, D = dd + 3 := ⟨D - 3, by omega⟩
  refine V.iload_n dX10_rings_0 rfl (i := 1) rfl ?_
  refine V.lookup (off := 58) (tgt := 59) dX10_rings_1 (by decide) (by decide) (by decide) ?_
  refine V.aload_n dX10_rings_59 rfl (i := 0) rfl ?_
  refine V.iload_n dX10_rings_60 rfl (i := 1) rfl ?_
  refine V.invs (z := mX10_above) (As := [_]) dX10_rings_61 rfl mlRX10_299 okX10_above npX10_above rfl (Nat.le_of_ble_eq_true rfl) rfl (Nat.le_of_ble_eq_true rfl) (c_above ?_)
  show V rS g (dd + 3) mX10_rings 64 [some (.ref 83), some (.int (nI 3)), some (.int x)] [.int (nI 0), .ref 83] M Q
  refine V.iload_n dX10_rings_64 rfl (i := 2) rfl ?_
  refine V.invv (z := mX10_rings) (As := [_, _]) dX10_rings_65 rfl mlRX10_302 okX10_rings npX10_rings rfl rfl rfl ⟨by decide, by decide⟩ (Nat.le_of_ble_eq_true rfl) rfl (Nat.le_of_ble_eq_true rfl) (v_0_0 hk hI (dd + 2) t x M _ (by omega) hv ht hS ?_)
  show V rS g (dd + 3) mX10_rings 68 [some (.ref 83), some (.int (nI 3)), some (.int x)] [.int (vR k (nI w) m (f + 1) (bdN 3 0) x)] (wrR M t (vL k (f + 1) (bdN 3 0))) Q
  exact V.ret dX10_rings_68 rfl (hQ)
set_option maxHeartbeats 4000000 in
set_option maxRecDepth 100000 in
theorem v_0_4 {k w : Nat} {m : Int32} {g : GG} {f : Nat} (hk : k < 7) (hI : VAll k w m g f) : VA k w m g (f + 1) 0 4 mX10_rings [] 2 := by
  intro D t x M Q hD hv ht hS hQ
  obtain ⟨dd, rfl⟩ : ∃ dd, D = dd + 3 := ⟨D - 3, by omega⟩
  refine V.iload_n dX10_rings_0 rfl (i := 1) rfl ?_
  refine V.lookup (off := 58) (tgt := 59) dX10_rings_1 (by decide) (by decide) (by decide) ?_
  refine V.aload_n dX10_rings_59 rfl (i := 0) rfl ?_
  refine V.iload_n dX10_rings_60 rfl (i := 1) rfl ?_
  refine V.invs (z := mX10_above) (As := [_]) dX10_rings_61 rfl mlRX10_299 okX10_above npX10_above rfl (Nat.le_of_ble_eq_true rfl) rfl (Nat.le_of_ble_eq_true rfl) (c_above ?_)
  show V rS g (dd + 3) mX10_rings 64 [some (.ref 83), some (.int (nI 4)), some (.int x)] [.int (nI 1), .ref 83] M Q
  refine V.iload_n dX10_rings_64 rfl (i := 2) rfl ?_
  refine V.invv (z := mX10_rings) (As := [_, _]) dX10_rings_65 rfl mlRX10_302 okX10_rings npX10_rings rfl rfl rfl ⟨by decide, by decide⟩ (Nat.le_of_ble_eq_true rfl) rfl (Nat.le_of_ble_eq_true rfl) (v_0_1 hk hI (dd + 2) t x M _ (by omega) hv ht hS ?_)
  show V rS g (dd + 3) mX10_rings 68 [some (.ref 83), some (.int (nI 4)), some (.int x)] [.int (vR k (nI w) m (f + 1) (bdN 4 0) x)] (wrR M t (vL k (f + 1) (bdN 4 0))) Q
  exact V.ret dX10_rings_68 rfl (hQ)
set_option maxHeartbeats 4000000 in
set_option maxRecDepth 100000 in
theorem v_0_5 {k w : Nat} {m : Int32} {g : GG} {f : Nat} (hk : k < 7) (hI : VAll k w m g f) : VA k w m g (f + 1) 0 5 mX10_rings [] 2 := by
  intro D t x M Q hD hv ht hS hQ
  obtain ⟨dd, rfl⟩ : ∃ dd, D = dd + 3 := ⟨D - 3, by omega⟩
  refine V.iload_n dX10_rings_0 rfl (i := 1) rfl ?_
  refine V.lookup (off := 58) (tgt := 59) dX10_rings_1 (by decide) (by decide) (by decide) ?_
  refine V.aload_n dX10_rings_59 rfl (i := 0) rfl ?_
  refine V.iload_n dX10_rings_60 rfl (i := 1) rfl ?_
  refine V.invs (z := mX10_above) (As := [_]) dX10_rings_61 rfl mlRX10_299 okX10_above npX10_above rfl (Nat.le_of_ble_eq_true rfl) rfl (Nat.le_of_ble_eq_true rfl) (c_above ?_)
  show V rS g (dd + 3) mX10_rings 64 [some (.ref 83), some (.int (nI 5)), some (.int x)] [.int (nI 1), .ref 83] M Q
  refine V.iload_n dX10_rings_64 rfl (i := 2) rfl ?_
  refine V.invv (z := mX10_rings) (As := [_, _]) dX10_rings_65 rfl mlRX10_302 okX10_rings npX10_rings rfl rfl rfl ⟨by decide, by decide⟩ (Nat.le_of_ble_eq_true rfl) rfl (Nat.le_of_ble_eq_true rfl) (v_0_1 hk hI (dd + 2) t x M _ (by omega) hv ht hS ?_)
  show V rS g (dd + 3) mX10_rings 68 [some (.ref 83), some (.int (nI 5)), some (.int x)] [.int (vR k (nI w) m (f + 1) (bdN 5 0) x)] (wrR M t (vL k (f + 1) (bdN 5 0))) Q
  exact V.ret dX10_rings_68 rfl (hQ)
set_option maxHeartbeats 4000000 in
set_option maxRecDepth 100000 in
theorem v_0_6 {k w : Nat} {m : Int32} {g : GG} {f : Nat} (hk : k < 7) (hI : VAll k w m g f) : VA k w m g (f + 1) 0 6 mX10_rings [] 2 := by
  intro D t x M Q hD hv ht hS hQ
  obtain ⟨dd, rfl⟩ : ∃ dd, D = dd + 3 := ⟨D - 3, by omega⟩
  refine V.iload_n dX10_rings_0 rfl (i := 1) rfl ?_
  refine V.lookup (off := 58) (tgt := 59) dX10_rings_1 (by decide) (by decide) (by decide) ?_
  refine V.aload_n dX10_rings_59 rfl (i := 0) rfl ?_
  refine V.iload_n dX10_rings_60 rfl (i := 1) rfl ?_
  refine V.invs (z := mX10_above) (As := [_]) dX10_rings_61 rfl mlRX10_299 okX10_above npX10_above rfl (Nat.le_of_ble_eq_true rfl) rfl (Nat.le_of_ble_eq_true rfl) (c_above ?_)
  show V rS g (dd + 3) mX10_rings 64 [some (.ref 83), some (.int (nI 6)), some (.int x)] [.int (nI 3), .ref 83] M Q
  refine V.iload_n dX10_rings_64 rfl (i := 2) rfl ?_
  refine V.invv (z := mX10_rings) (As := [_, _]) dX10_rings_65 rfl mlRX10_302 okX10_rings npX10_rings rfl rfl rfl ⟨by decide, by decide⟩ (Nat.le_of_ble_eq_true rfl) rfl (Nat.le_of_ble_eq_true rfl) (v_0_3 hk hI (dd + 2) t x M _ (by omega) hv ht hS ?_)
  show V rS g (dd + 3) mX10_rings 68 [some (.ref 83), some (.int (nI 6)), some (.int x)] [.int (vR k (nI w) m (f + 1) (bdN 6 0) x)] (wrR M t (vL k (f + 1) (bdN 6 0))) Q
  exact V.ret dX10_rings_68 rfl (hQ)
set_option maxHeartbeats 4000000 in
set_option maxRecDepth 100000 in
theorem v_1_0 {k w : Nat} {m : Int32} {g : GG} {f : Nat} (hk : k < 7) (hI : VAll k w m g f) : VA k w m g (f + 1) 1 0 mX10_swings [none] 0 := by
  intro D t x M Q hD hv ht hS hQ
  obtain ⟨dd, rfl⟩ : ∃ dd, D = dd + 3 := ⟨D - 3, by omega⟩
  have hw8 := hS.2.2.1
  have ht2 : t + (11 :: (vL k f (bdN k 0))).length ≤ 40 := ht
  rw [List.length_cons] at ht2
  have hQ2 : Q (some (.int ((vR k (nI w) m f (bdN k 0) x) * 2))) (wrR (put (put M 97 t (nI 11)) 83 22 (nI (t + 1))) (t + 1) (vL k f (bdN k 0))) := hQ
  have hv0 : vok k f (bdN k 0) = true := hv
  have hS1 := hS.one 11
  refine V.iload_n dX10_swings_0 rfl (i := 1) rfl ?_
  refine V.tabIn (tgt := 36) dX10_swings_1 (by decide) (by decide) (by rfl) (by decide) ?_
  refine V.aload_n dX10_swings_36 rfl (i := 0) rfl ?_
  refine V.bipush dX10_swings_37 (v := 11) (by decide) ?_
  refine V.invv (z := mX10_ran) (As := [_]) dX10_swings_39 rfl mlRX10_296 okX10_ran npX10_ran rfl rfl rfl ⟨by decide, by decide⟩ (Nat.le_of_ble_eq_true rfl) rfl (Nat.le_of_ble_eq_true rfl) (c_ran hS.1 (by omega) ?_)
  show V rS g (dd + 3) mX10_swings 42 [some (.ref 83), some (.int (nI 0)), some (.int x), none] [] (put (put M 97 t (nI 11)) 83 22 (nI (t + 1))) Q
  refine V.aload_n dX10_swings_42 rfl (i := 0) rfl ?_
  refine V.aload_n dX10_swings_43 rfl (i := 0) rfl ?_
  refine V.invv (z := mX10_own) (As := []) dX10_swings_44 rfl mlRX10_305 okX10_own npX10_own rfl rfl rfl ⟨by decide, by decide⟩ (Nat.le_of_ble_eq_true rfl) rfl (Nat.le_of_ble_eq_true rfl) (c_ownR hS1.2.1 hw8 ?_)
  show V rS g (dd + 3) mX10_swings 47 [some (.ref 83), some (.int (nI 0)), some (.int x), none] [.int ((put (put M 97 t (nI 11)) 83 22 (nI (t + 1))) 84 (108 + 7 * w + 0)), .ref 83] (put (put M 97 t (nI 11)) 83 22 (nI (t + 1))) Q
  refine V.top (x' := (nI k)) (hS1.2.2.2.1) ?_
  refine V.iload_n dX10_swings_47 rfl (i := 2) rfl ?_
  refine V.invv (z := mX10_rings) (As := [_, _]) dX10_swings_48 rfl mlRX10_302 okX10_rings npX10_rings rfl rfl rfl ⟨by decide, by decide⟩ (Nat.le_of_ble_eq_true rfl) rfl (Nat.le_of_ble_eq_true rfl) (hI.1 _ hk (dd + 2) (t + 1) _ _ _ (by omega) hv0 (by omega) hS1 ?_)
  show V rS g (dd + 3) mX10_swings 51 [some (.ref 83), some (.int (nI 0)), some (.int x), none] [.int (vR k (nI w) m f (bdN k 0) x)] (wrR (put (put M 97 t (nI 11)) 83 22 (nI (t + 1))) (t + 1) (vL k f (bdN k 0))) Q
  refine V.iconst dX10_swings_51 (v := 2) (by decide) ?_
  refine V.imul dX10_swings_52 ?_
  exact V.ret dX10_swings_53 rfl (hQ2)
set_option maxHeartbeats 4000000 in
set_option maxRecDepth 100000 in
theorem v_1_1 {k w : Nat} {m : Int32} {g : GG} {f : Nat} (hk : k < 7) (hI : VAll k w m g f) : VA k w m g (f + 1) 1 1 mX10_swings [none] 1 := by
  intro D t x M Q hD hv ht hS hQ
  obtain ⟨dd, rfl⟩ : ∃ dd, D = dd + 3 := ⟨D - 3, by omega⟩
  have hw8 := hS.2.2.1
  have ht2 : t + (20 :: (vL k f (bdN 0 1) ++ vL k f (bdN k 2))).length ≤ 40 := ht
  rw [List.length_cons, List.length_append] at ht2
  have hQ2 : Q (some (.int ((vR k (nI w) m f (bdN 0 1) x) - (vR k (nI w) m f (bdN k 2) 1)))) (wrR (put (put M 97 t (nI 20)) 83 22 (nI (t + 1))) (t + 1) (vL k f (bdN 0 1) ++ vL k f (bdN k 2))) := hQ
  rw [wrR_app] at hQ2
  have hv2 : (vok k f (bdN 0 1) && vok k f (bdN k 2)) = true := hv
  rw [Bool.and_eq_true] at hv2
  have hv0 := hv2.1
  have hv1 := hv2.2
  have hS1 := hS.one 20
  have hS2 := hS1.wr (vL k f (bdN 0 1))
  refine V.iload_n dX10_swings_0 rfl (i := 1) rfl ?_
  refine V.tabIn (tgt := 54) dX10_swings_1 (by decide) (by decide) (by rfl) (by decide) ?_
  refine V.aload_n dX10_swings_54 rfl (i := 0) rfl ?_
  refine V.bipush dX10_swings_55 (v := 20) (by decide) ?_
  refine V.invv (z := mX10_ran) (As := [_]) dX10_swings_57 rfl mlRX10_296 okX10_ran npX10_ran rfl rfl rfl ⟨by decide, by decide⟩ (Nat.le_of_ble_eq_true rfl) rfl (Nat.le_of_ble_eq_true rfl) (c_ran hS.1 (by omega) ?_)
  show V rS g (dd + 3) mX10_swings 60 [some (.ref 83), some (.int (nI 1)), some (.int x), none] [] (put (put M 97 t (nI 20)) 83 22 (nI (t + 1))) Q
  refine V.aload_n dX10_swings_60 rfl (i := 0) rfl ?_
  refine V.iconst dX10_swings_61 (v := 1) (by decide) ?_
  refine V.invs (z := mX10_above) (As := [_]) dX10_swings_62 rfl mlRX10_299 okX10_above npX10_above rfl (Nat.le_of_ble_eq_true rfl) rfl (Nat.le_of_ble_eq_true rfl) (c_above ?_)
  show V rS g (dd + 3) mX10_swings 65 [some (.ref 83), some (.int (nI 1)), some (.int x), none] [.int (nI 0), .ref 83] (put (put M 97 t (nI 20)) 83 22 (nI (t + 1))) Q
  refine V.iload_n dX10_swings_65 rfl (i := 2) rfl ?_
  refine V.invv (z := mX10_swings) (As := [_, _]) dX10_swings_66 rfl mlRX10_308 okX10_swings npX10_swings rfl rfl rfl ⟨by decide, by decide⟩ (Nat.le_of_ble_eq_true rfl) rfl (Nat.le_of_ble_eq_true rfl) (hI.2.1 _ (by decide) (dd + 2) (t + 1) _ _ _ (by omega) hv0 (by omega) hS1 ?_)
  show V rS g (dd + 3) mX10_swings 69 [some (.ref 83), some (.int (nI 1)), some (.int x), none] [.int (vR k (nI w) m f (bdN 0 1) x)] (wrR (put (put M 97 t (nI 20)) 83 22 (nI (t + 1))) (t + 1) (vL k f (bdN 0 1))) Q
  refine V.istore_n dX10_swings_69 rfl (i := 3) (by decide) (fun _ h => by cases h; exact Or.inl rfl) rfl ?_
  refine V.iload_n dX10_swings_70 rfl (i := 3) rfl ?_
  refine V.aload_n dX10_swings_71 rfl (i := 0) rfl ?_
  refine V.aload_n dX10_swings_72 rfl (i := 0) rfl ?_
  refine V.invv (z := mX10_own) (As := []) dX10_swings_73 rfl mlRX10_305 okX10_own npX10_own rfl rfl rfl ⟨by decide, by decide⟩ (Nat.le_of_ble_eq_true rfl) rfl (Nat.le_of_ble_eq_true rfl) (c_ownR hS2.2.1 hw8 ?_)
  show V rS g (dd + 3) mX10_swings 76 [some (.ref 83), some (.int (nI 1)), some (.int x), some (.int (vR k (nI w) m f (bdN 0 1) x))] [.int ((wrR (put (put M 97 t (nI 20)) 83 22 (nI (t + 1))) (t + 1) (vL k f (bdN 0 1))) 84 (108 + 7 * w + 0)), .ref 83, .int (vR k (nI w) m f (bdN 0 1) x)] (wrR (put (put M 97 t (nI 20)) 83 22 (nI (t + 1))) (t + 1) (vL k f (bdN 0 1))) Q
  refine V.top (x' := (nI k)) (hS2.2.2.2.1) ?_
  refine V.iconst dX10_swings_76 (v := 1) (by decide) ?_
  refine V.invv (z := mX10_hums) (As := [_, _]) dX10_swings_77 rfl mlRX10_311 okX10_hums npX10_hums rfl rfl rfl ⟨by decide, by decide⟩ (Nat.le_of_ble_eq_true rfl) rfl (Nat.le_of_ble_eq_true rfl) (hI.2.2.1 _ hk (dd + 2) (t + 1 + (vL k f (bdN 0 1)).length) _ _ _ (by omega) hv1 (by omega) hS2 ?_)
  show V rS g (dd + 3) mX10_swings 80 [some (.ref 83), some (.int (nI 1)), some (.int x), some (.int (vR k (nI w) m f (bdN 0 1) x))] [.int (vR k (nI w) m f (bdN k 2) 1), .int (vR k (nI w) m f (bdN 0 1) x)] (wrR (wrR (put (put M 97 t (nI 20)) 83 22 (nI (t + 1))) (t + 1) (vL k f (bdN 0 1))) (t + 1 + (vL k f (bdN 0 1)).length) (vL k f (bdN k 2))) Q
  refine V.isub dX10_swings_80 ?_
  exact V.ret dX10_swings_81 rfl (hQ2)
set_option maxHeartbeats 4000000 in
set_option maxRecDepth 100000 in
theorem v_1_2 {k w : Nat} {m : Int32} {g : GG} {f : Nat} (hk : k < 7) (hI : VAll k w m g f) : VA k w m g (f + 1) 1 2 mX10_swings [none] 1 := by
  intro D t x M Q hD hv ht hS hQ
  obtain ⟨dd, rfl⟩ : ∃ dd, D = dd + 3 := ⟨D - 3, by omega⟩
  refine V.iload_n dX10_swings_0 rfl (i := 1) rfl ?_
  refine V.tabIn (tgt := 100) dX10_swings_1 (by decide) (by decide) (by rfl) (by decide) ?_
  refine V.aload_n dX10_swings_100 rfl (i := 0) rfl ?_
  refine V.iload_n dX10_swings_101 rfl (i := 1) rfl ?_
  refine V.invs (z := mX10_above) (As := [_]) dX10_swings_102 rfl mlRX10_299 okX10_above npX10_above rfl (Nat.le_of_ble_eq_true rfl) rfl (Nat.le_of_ble_eq_true rfl) (c_above ?_)
  show V rS g (dd + 3) mX10_swings 105 [some (.ref 83), some (.int (nI 2)), some (.int x), none] [.int (nI 0), .ref 83] M Q
  refine V.iload_n dX10_swings_105 rfl (i := 2) rfl ?_
  refine V.invv (z := mX10_swings) (As := [_, _]) dX10_swings_106 rfl mlRX10_308 okX10_swings npX10_swings rfl rfl rfl ⟨by decide, by decide⟩ (Nat.le_of_ble_eq_true rfl) rfl (Nat.le_of_ble_eq_true rfl) (v_1_0 hk hI (dd + 2) t x M _ (by omega) hv ht hS ?_)
  show V rS g (dd + 3) mX10_swings 109 [some (.ref 83), some (.int (nI 2)), some (.int x), none] [.int (vR k (nI w) m (f + 1) (bdN 2 1) x)] (wrR M t (vL k (f + 1) (bdN 2 1))) Q
  exact V.ret dX10_swings_109 rfl (hQ)
set_option maxHeartbeats 4000000 in
set_option maxRecDepth 100000 in
theorem v_1_3 {k w : Nat} {m : Int32} {g : GG} {f : Nat} (hk : k < 7) (hI : VAll k w m g f) : VA k w m g (f + 1) 1 3 mX10_swings [none] 1 := by
  intro D t x M Q hD hv ht hS hQ
  obtain ⟨dd, rfl⟩ : ∃ dd, D = dd + 3 := ⟨D - 3, by omega⟩
  refine V.iload_n dX10_swings_0 rfl (i := 1) rfl ?_
  refine V.tabIn (tgt := 100) dX10_swings_1 (by decide) (by decide) (by rfl) (by decide) ?_
  refine V.aload_n dX10_swings_100 rfl (i := 0) rfl ?_
  refine V.iload_n dX10_swings_101 rfl (i := 1) rfl ?_
  refine V.invs (z := mX10_above) (As := [_]) dX10_swings_102 rfl mlRX10_299 okX10_above npX10_above rfl (Nat.le_of_ble_eq_true rfl) rfl (Nat.le_of_ble_eq_true rfl) (c_above ?_)
  show V rS g (dd + 3) mX10_swings 105 [some (.ref 83), some (.int (nI 3)), some (.int x), none] [.int (nI 0), .ref 83] M Q
  refine V.iload_n dX10_swings_105 rfl (i := 2) rfl ?_
  refine V.invv (z := mX10_swings) (As := [_, _]) dX10_swings_106 rfl mlRX10_308 okX10_swings npX10_swings rfl rfl rfl ⟨by decide, by decide⟩ (Nat.le_of_ble_eq_true rfl) rfl (Nat.le_of_ble_eq_true rfl) (v_1_0 hk hI (dd + 2) t x M _ (by omega) hv ht hS ?_)
  show V rS g (dd + 3) mX10_swings 109 [some (.ref 83), some (.int (nI 3)), some (.int x), none] [.int (vR k (nI w) m (f + 1) (bdN 3 1) x)] (wrR M t (vL k (f + 1) (bdN 3 1))) Q
  exact V.ret dX10_swings_109 rfl (hQ)
set_option maxHeartbeats 4000000 in
set_option maxRecDepth 100000 in
theorem v_1_4 {k w : Nat} {m : Int32} {g : GG} {f : Nat} (hk : k < 7) (hI : VAll k w m g f) : VA k w m g (f + 1) 1 4 mX10_swings [none] 2 := by
  intro D t x M Q hD hv ht hS hQ
  obtain ⟨dd, rfl⟩ : ∃ dd, D = dd + 3 := ⟨D - 3, by omega⟩
  have hw8 := hS.2.2.1
  have ht2 : t + (50 :: (vL k f (bdN 1 1))).length ≤ 40 := ht
  rw [List.length_cons] at ht2
  have hQ2 : Q (some (.int (vR k (nI w) m f (bdN 1 1) (x + 1)))) (wrR (put (put M 97 t (nI 50)) 83 22 (nI (t + 1))) (t + 1) (vL k f (bdN 1 1))) := hQ
  have hv0 : vok k f (bdN 1 1) = true := hv
  have hS1 := hS.one 50
  refine V.iload_n dX10_swings_0 rfl (i := 1) rfl ?_
  refine V.tabIn (tgt := 82) dX10_swings_1 (by decide) (by decide) (by rfl) (by decide) ?_
  refine V.aload_n dX10_swings_82 rfl (i := 0) rfl ?_
  refine V.bipush dX10_swings_83 (v := 50) (by decide) ?_
  refine V.invv (z := mX10_ran) (As := [_]) dX10_swings_85 rfl mlRX10_296 okX10_ran npX10_ran rfl rfl rfl ⟨by decide, by decide⟩ (Nat.le_of_ble_eq_true rfl) rfl (Nat.le_of_ble_eq_true rfl) (c_ran hS.1 (by omega) ?_)
  show V rS g (dd + 3) mX10_swings 88 [some (.ref 83), some (.int (nI 4)), some (.int x), none] [] (put (put M 97 t (nI 50)) 83 22 (nI (t + 1))) Q
  refine V.aload_n dX10_swings_88 rfl (i := 0) rfl ?_
  refine V.iconst dX10_swings_89 (v := 4) (by decide) ?_
  refine V.invs (z := mX10_above) (As := [_]) dX10_swings_90 rfl mlRX10_299 okX10_above npX10_above rfl (Nat.le_of_ble_eq_true rfl) rfl (Nat.le_of_ble_eq_true rfl) (c_above ?_)
  show V rS g (dd + 3) mX10_swings 93 [some (.ref 83), some (.int (nI 4)), some (.int x), none] [.int (nI 1), .ref 83] (put (put M 97 t (nI 50)) 83 22 (nI (t + 1))) Q
  refine V.iload_n dX10_swings_93 rfl (i := 2) rfl ?_
  refine V.iconst dX10_swings_94 (v := 1) (by decide) ?_
  refine V.iadd dX10_swings_95 ?_
  refine V.invv (z := mX10_swings) (As := [_, _]) dX10_swings_96 rfl mlRX10_308 okX10_swings npX10_swings rfl rfl rfl ⟨by decide, by decide⟩ (Nat.le_of_ble_eq_true rfl) rfl (Nat.le_of_ble_eq_true rfl) (hI.2.1 _ (by decide) (dd + 2) (t + 1) _ _ _ (by omega) hv0 (by omega) hS1 ?_)
  show V rS g (dd + 3) mX10_swings 99 [some (.ref 83), some (.int (nI 4)), some (.int x), none] [.int (vR k (nI w) m f (bdN 1 1) (x + 1))] (wrR (put (put M 97 t (nI 50)) 83 22 (nI (t + 1))) (t + 1) (vL k f (bdN 1 1))) Q
  exact V.ret dX10_swings_99 rfl (hQ2)
set_option maxHeartbeats 4000000 in
set_option maxRecDepth 100000 in
theorem v_1_5 {k w : Nat} {m : Int32} {g : GG} {f : Nat} (hk : k < 7) (hI : VAll k w m g f) : VA k w m g (f + 1) 1 5 mX10_swings [none] 2 := by
  intro D t x M Q hD hv ht hS hQ
  obtain ⟨dd, rfl⟩ : ∃ dd, D = dd + 3 := ⟨D - 3, by omega⟩
  refine V.iload_n dX10_swings_0 rfl (i := 1) rfl ?_
  refine V.tabOut (tgt := 100) dX10_swings_1 (by decide) (by decide) ?_
  refine V.aload_n dX10_swings_100 rfl (i := 0) rfl ?_
  refine V.iload_n dX10_swings_101 rfl (i := 1) rfl ?_
  refine V.invs (z := mX10_above) (As := [_]) dX10_swings_102 rfl mlRX10_299 okX10_above npX10_above rfl (Nat.le_of_ble_eq_true rfl) rfl (Nat.le_of_ble_eq_true rfl) (c_above ?_)
  show V rS g (dd + 3) mX10_swings 105 [some (.ref 83), some (.int (nI 5)), some (.int x), none] [.int (nI 1), .ref 83] M Q
  refine V.iload_n dX10_swings_105 rfl (i := 2) rfl ?_
  refine V.invv (z := mX10_swings) (As := [_, _]) dX10_swings_106 rfl mlRX10_308 okX10_swings npX10_swings rfl rfl rfl ⟨by decide, by decide⟩ (Nat.le_of_ble_eq_true rfl) rfl (Nat.le_of_ble_eq_true rfl) (v_1_1 hk hI (dd + 2) t x M _ (by omega) hv ht hS ?_)
  show V rS g (dd + 3) mX10_swings 109 [some (.ref 83), some (.int (nI 5)), some (.int x), none] [.int (vR k (nI w) m (f + 1) (bdN 5 1) x)] (wrR M t (vL k (f + 1) (bdN 5 1))) Q
  exact V.ret dX10_swings_109 rfl (hQ)
set_option maxHeartbeats 4000000 in
set_option maxRecDepth 100000 in
theorem v_1_6 {k w : Nat} {m : Int32} {g : GG} {f : Nat} (hk : k < 7) (hI : VAll k w m g f) : VA k w m g (f + 1) 1 6 mX10_swings [none] 2 := by
  intro D t x M Q hD hv ht hS hQ
  obtain ⟨dd, rfl⟩ : ∃ dd, D = dd + 3 := ⟨D - 3, by omega⟩
  refine V.iload_n dX10_swings_0 rfl (i := 1) rfl ?_
  refine V.tabOut (tgt := 100) dX10_swings_1 (by decide) (by decide) ?_
  refine V.aload_n dX10_swings_100 rfl (i := 0) rfl ?_
  refine V.iload_n dX10_swings_101 rfl (i := 1) rfl ?_
  refine V.invs (z := mX10_above) (As := [_]) dX10_swings_102 rfl mlRX10_299 okX10_above npX10_above rfl (Nat.le_of_ble_eq_true rfl) rfl (Nat.le_of_ble_eq_true rfl) (c_above ?_)
  show V rS g (dd + 3) mX10_swings 105 [some (.ref 83), some (.int (nI 6)), some (.int x), none] [.int (nI 3), .ref 83] M Q
  refine V.iload_n dX10_swings_105 rfl (i := 2) rfl ?_
  refine V.invv (z := mX10_swings) (As := [_, _]) dX10_swings_106 rfl mlRX10_308 okX10_swings npX10_swings rfl rfl rfl ⟨by decide, by decide⟩ (Nat.le_of_ble_eq_true rfl) rfl (Nat.le_of_ble_eq_true rfl) (v_1_3 hk hI (dd + 2) t x M _ (by omega) hv ht hS ?_)
  show V rS g (dd + 3) mX10_swings 109 [some (.ref 83), some (.int (nI 6)), some (.int x), none] [.int (vR k (nI w) m (f + 1) (bdN 6 1) x)] (wrR M t (vL k (f + 1) (bdN 6 1))) Q
  exact V.ret dX10_swings_109 rfl (hQ)
set_option maxHeartbeats 4000000 in
set_option maxRecDepth 100000 in
theorem v_2_0 {k w : Nat} {m : Int32} {g : GG} {f : Nat} (hk : k < 7) (hI : VAll k w m g f) : VA k w m g (f + 1) 2 0 mX10_hums [] 0 := by
  intro D t x M Q hD hv ht hS hQ
  obtain ⟨dd, rfl⟩ : ∃ dd, D = dd + 3 := ⟨D - 3, by omega⟩
  have hw8 := hS.2.2.1
  have ht2 : t + (12 :: ([])).length ≤ 40 := ht
  rw [List.length_cons] at ht2
  have hQ2 : Q (some (.int (x - m))) (wrR (put (put M 97 t (nI 12)) 83 22 (nI (t + 1))) (t + 1) ([])) := hQ
  have hS1 := hS.one 12
  refine V.iload_n dX10_hums_0 rfl (i := 1) rfl ?_
  refine V.lookup (off := 35) (tgt := 36) dX10_hums_1 (by decide) (by decide) (by decide) ?_
  refine V.aload_n dX10_hums_36 rfl (i := 0) rfl ?_
  refine V.bipush dX10_hums_37 (v := 12) (by decide) ?_
  refine V.invv (z := mX10_ran) (As := [_]) dX10_hums_39 rfl mlRX10_296 okX10_ran npX10_ran rfl rfl rfl ⟨by decide, by decide⟩ (Nat.le_of_ble_eq_true rfl) rfl (Nat.le_of_ble_eq_true rfl) (c_ran hS.1 (by omega) ?_)
  show V rS g (dd + 3) mX10_hums 42 [some (.ref 83), some (.int (nI 0)), some (.int x)] [] (put (put M 97 t (nI 12)) 83 22 (nI (t + 1))) Q
  refine V.iload_n dX10_hums_42 rfl (i := 2) rfl ?_
  refine V.aload_n dX10_hums_43 rfl (i := 0) rfl ?_
  refine V.aload_n dX10_hums_44 rfl (i := 0) rfl ?_
  refine V.getI dX10_hums_45 rfl flRX10_293 rfl ⟨by decide, by decide⟩ ?_
  refine V.top (x' := (nI w)) (hS1.2.1) ?_
  refine V.iconst dX10_hums_48 (v := 1) (by decide) ?_
  refine V.invv (z := mX10_of) (As := [_, _]) dX10_hums_49 rfl mlRX10_175 okX10_of npX10_of rfl rfl rfl ⟨by decide, by decide⟩ (Nat.le_of_ble_eq_true rfl) rfl (Nat.le_of_ble_eq_true rfl) (c_of  (by omega) (by decide) ?_)
  show V rS g (dd + 3) mX10_hums 52 [some (.ref 83), some (.int (nI 0)), some (.int x)] [.int ((put (put M 97 t (nI 12)) 83 22 (nI (t + 1))) 84 (108 + 7 * w + 1)), .int x] ((put (put M 97 t (nI 12)) 83 22 (nI (t + 1)))) Q
  refine V.top (x' := m) (hS1.2.2.2.2) ?_
  refine V.isub dX10_hums_52 ?_
  exact V.ret dX10_hums_53 rfl (hQ2)
set_option maxHeartbeats 4000000 in
set_option maxRecDepth 100000 in
theorem v_2_1 {k w : Nat} {m : Int32} {g : GG} {f : Nat} (hk : k < 7) (hI : VAll k w m g f) : VA k w m g (f + 1) 2 1 mX10_hums [] 1 := by
  intro D t x M Q hD hv ht hS hQ
  obtain ⟨dd, rfl⟩ : ∃ dd, D = dd + 3 := ⟨D - 3, by omega⟩
  refine V.iload_n dX10_hums_0 rfl (i := 1) rfl ?_
  refine V.lookup (off := 92) (tgt := 93) dX10_hums_1 (by decide) (by decide) (by decide) ?_
  refine V.aload_n dX10_hums_93 rfl (i := 0) rfl ?_
  refine V.iload_n dX10_hums_94 rfl (i := 1) rfl ?_
  refine V.invs (z := mX10_above) (As := [_]) dX10_hums_95 rfl mlRX10_299 okX10_above npX10_above rfl (Nat.le_of_ble_eq_true rfl) rfl (Nat.le_of_ble_eq_true rfl) (c_above ?_)
  show V rS g (dd + 3) mX10_hums 98 [some (.ref 83), some (.int (nI 1)), some (.int x)] [.int (nI 0), .ref 83] M Q
  refine V.iload_n dX10_hums_98 rfl (i := 2) rfl ?_
  refine V.invv (z := mX10_hums) (As := [_, _]) dX10_hums_99 rfl mlRX10_311 okX10_hums npX10_hums rfl rfl rfl ⟨by decide, by decide⟩ (Nat.le_of_ble_eq_true rfl) rfl (Nat.le_of_ble_eq_true rfl) (v_2_0 hk hI (dd + 2) t x M _ (by omega) hv ht hS ?_)
  show V rS g (dd + 3) mX10_hums 102 [some (.ref 83), some (.int (nI 1)), some (.int x)] [.int (vR k (nI w) m (f + 1) (bdN 1 2) x)] (wrR M t (vL k (f + 1) (bdN 1 2))) Q
  exact V.ret dX10_hums_102 rfl (hQ)
set_option maxHeartbeats 4000000 in
set_option maxRecDepth 100000 in
theorem v_2_2 {k w : Nat} {m : Int32} {g : GG} {f : Nat} (hk : k < 7) (hI : VAll k w m g f) : VA k w m g (f + 1) 2 2 mX10_hums [] 1 := by
  intro D t x M Q hD hv ht hS hQ
  obtain ⟨dd, rfl⟩ : ∃ dd, D = dd + 3 := ⟨D - 3, by omega⟩
  refine V.iload_n dX10_hums_0 rfl (i := 1) rfl ?_
  refine V.lookup (off := 92) (tgt := 93) dX10_hums_1 (by decide) (by decide) (by decide) ?_
  refine V.aload_n dX10_hums_93 rfl (i := 0) rfl ?_
  refine V.iload_n dX10_hums_94 rfl (i := 1) rfl ?_
  refine V.invs (z := mX10_above) (As := [_]) dX10_hums_95 rfl mlRX10_299 okX10_above npX10_above rfl (Nat.le_of_ble_eq_true rfl) rfl (Nat.le_of_ble_eq_true rfl) (c_above ?_)
  show V rS g (dd + 3) mX10_hums 98 [some (.ref 83), some (.int (nI 2)), some (.int x)] [.int (nI 0), .ref 83] M Q
  refine V.iload_n dX10_hums_98 rfl (i := 2) rfl ?_
  refine V.invv (z := mX10_hums) (As := [_, _]) dX10_hums_99 rfl mlRX10_311 okX10_hums npX10_hums rfl rfl rfl ⟨by decide, by decide⟩ (Nat.le_of_ble_eq_true rfl) rfl (Nat.le_of_ble_eq_true rfl) (v_2_0 hk hI (dd + 2) t x M _ (by omega) hv ht hS ?_)
  show V rS g (dd + 3) mX10_hums 102 [some (.ref 83), some (.int (nI 2)), some (.int x)] [.int (vR k (nI w) m (f + 1) (bdN 2 2) x)] (wrR M t (vL k (f + 1) (bdN 2 2))) Q
  exact V.ret dX10_hums_102 rfl (hQ)
set_option maxHeartbeats 4000000 in
set_option maxRecDepth 100000 in
theorem v_2_3 {k w : Nat} {m : Int32} {g : GG} {f : Nat} (hk : k < 7) (hI : VAll k w m g f) : VA k w m g (f + 1) 2 3 mX10_hums [] 1 := by
  intro D t x M Q hD hv ht hS hQ
  obtain ⟨dd, rfl⟩ : ∃ dd, D = dd + 3 := ⟨D - 3, by omega⟩
  have hw8 := hS.2.2.1
  have ht2 : t + (40 :: (vL k f (bdN 0 2))).length ≤ 40 := ht
  rw [List.length_cons] at ht2
  have hQ2 : Q (some (.int (-(vR k (nI w) m f (bdN 0 2) x)))) (wrR (put (put M 97 t (nI 40)) 83 22 (nI (t + 1))) (t + 1) (vL k f (bdN 0 2))) := hQ
  have hv0 : vok k f (bdN 0 2) = true := hv
  have hS1 := hS.one 40
  refine V.iload_n dX10_hums_0 rfl (i := 1) rfl ?_
  refine V.lookup (off := 53) (tgt := 54) dX10_hums_1 (by decide) (by decide) (by decide) ?_
  refine V.aload_n dX10_hums_54 rfl (i := 0) rfl ?_
  refine V.bipush dX10_hums_55 (v := 40) (by decide) ?_
  refine V.invv (z := mX10_ran) (As := [_]) dX10_hums_57 rfl mlRX10_296 okX10_ran npX10_ran rfl rfl rfl ⟨by decide, by decide⟩ (Nat.le_of_ble_eq_true rfl) rfl (Nat.le_of_ble_eq_true rfl) (c_ran hS.1 (by omega) ?_)
  show V rS g (dd + 3) mX10_hums 60 [some (.ref 83), some (.int (nI 3)), some (.int x)] [] (put (put M 97 t (nI 40)) 83 22 (nI (t + 1))) Q
  refine V.aload_n dX10_hums_60 rfl (i := 0) rfl ?_
  refine V.iconst dX10_hums_61 (v := 3) (by decide) ?_
  refine V.invs (z := mX10_above) (As := [_]) dX10_hums_62 rfl mlRX10_299 okX10_above npX10_above rfl (Nat.le_of_ble_eq_true rfl) rfl (Nat.le_of_ble_eq_true rfl) (c_above ?_)
  show V rS g (dd + 3) mX10_hums 65 [some (.ref 83), some (.int (nI 3)), some (.int x)] [.int (nI 0), .ref 83] (put (put M 97 t (nI 40)) 83 22 (nI (t + 1))) Q
  refine V.iload_n dX10_hums_65 rfl (i := 2) rfl ?_
  refine V.invv (z := mX10_hums) (As := [_, _]) dX10_hums_66 rfl mlRX10_311 okX10_hums npX10_hums rfl rfl rfl ⟨by decide, by decide⟩ (Nat.le_of_ble_eq_true rfl) rfl (Nat.le_of_ble_eq_true rfl) (hI.2.2.1 _ (by decide) (dd + 2) (t + 1) _ _ _ (by omega) hv0 (by omega) hS1 ?_)
  show V rS g (dd + 3) mX10_hums 69 [some (.ref 83), some (.int (nI 3)), some (.int x)] [.int (vR k (nI w) m f (bdN 0 2) x)] (wrR (put (put M 97 t (nI 40)) 83 22 (nI (t + 1))) (t + 1) (vL k f (bdN 0 2))) Q
  refine V.ineg dX10_hums_69 ?_
  exact V.ret dX10_hums_70 rfl (hQ2)
set_option maxHeartbeats 4000000 in
set_option maxRecDepth 100000 in
theorem v_2_4 {k w : Nat} {m : Int32} {g : GG} {f : Nat} (hk : k < 7) (hI : VAll k w m g f) : VA k w m g (f + 1) 2 4 mX10_hums [] 2 := by
  intro D t x M Q hD hv ht hS hQ
  obtain ⟨dd, rfl⟩ : ∃ dd, D = dd + 3 := ⟨D - 3, by omega⟩
  refine V.iload_n dX10_hums_0 rfl (i := 1) rfl ?_
  refine V.lookup (off := 92) (tgt := 93) dX10_hums_1 (by decide) (by decide) (by decide) ?_
  refine V.aload_n dX10_hums_93 rfl (i := 0) rfl ?_
  refine V.iload_n dX10_hums_94 rfl (i := 1) rfl ?_
  refine V.invs (z := mX10_above) (As := [_]) dX10_hums_95 rfl mlRX10_299 okX10_above npX10_above rfl (Nat.le_of_ble_eq_true rfl) rfl (Nat.le_of_ble_eq_true rfl) (c_above ?_)
  show V rS g (dd + 3) mX10_hums 98 [some (.ref 83), some (.int (nI 4)), some (.int x)] [.int (nI 1), .ref 83] M Q
  refine V.iload_n dX10_hums_98 rfl (i := 2) rfl ?_
  refine V.invv (z := mX10_hums) (As := [_, _]) dX10_hums_99 rfl mlRX10_311 okX10_hums npX10_hums rfl rfl rfl ⟨by decide, by decide⟩ (Nat.le_of_ble_eq_true rfl) rfl (Nat.le_of_ble_eq_true rfl) (v_2_1 hk hI (dd + 2) t x M _ (by omega) hv ht hS ?_)
  show V rS g (dd + 3) mX10_hums 102 [some (.ref 83), some (.int (nI 4)), some (.int x)] [.int (vR k (nI w) m (f + 1) (bdN 4 2) x)] (wrR M t (vL k (f + 1) (bdN 4 2))) Q
  exact V.ret dX10_hums_102 rfl (hQ)
set_option maxHeartbeats 4000000 in
set_option maxRecDepth 100000 in
theorem v_2_5 {k w : Nat} {m : Int32} {g : GG} {f : Nat} (hk : k < 7) (hI : VAll k w m g f) : VA k w m g (f + 1) 2 5 mX10_hums [] 2 := by
  intro D t x M Q hD hv ht hS hQ
  obtain ⟨dd, rfl⟩ : ∃ dd, D = dd + 3 := ⟨D - 3, by omega⟩
  refine V.iload_n dX10_hums_0 rfl (i := 1) rfl ?_
  refine V.lookup (off := 92) (tgt := 93) dX10_hums_1 (by decide) (by decide) (by decide) ?_
  refine V.aload_n dX10_hums_93 rfl (i := 0) rfl ?_
  refine V.iload_n dX10_hums_94 rfl (i := 1) rfl ?_
  refine V.invs (z := mX10_above) (As := [_]) dX10_hums_95 rfl mlRX10_299 okX10_above npX10_above rfl (Nat.le_of_ble_eq_true rfl) rfl (Nat.le_of_ble_eq_true rfl) (c_above ?_)
  show V rS g (dd + 3) mX10_hums 98 [some (.ref 83), some (.int (nI 5)), some (.int x)] [.int (nI 1), .ref 83] M Q
  refine V.iload_n dX10_hums_98 rfl (i := 2) rfl ?_
  refine V.invv (z := mX10_hums) (As := [_, _]) dX10_hums_99 rfl mlRX10_311 okX10_hums npX10_hums rfl rfl rfl ⟨by decide, by decide⟩ (Nat.le_of_ble_eq_true rfl) rfl (Nat.le_of_ble_eq_true rfl) (v_2_1 hk hI (dd + 2) t x M _ (by omega) hv ht hS ?_)
  show V rS g (dd + 3) mX10_hums 102 [some (.ref 83), some (.int (nI 5)), some (.int x)] [.int (vR k (nI w) m (f + 1) (bdN 5 2) x)] (wrR M t (vL k (f + 1) (bdN 5 2))) Q
  exact V.ret dX10_hums_102 rfl (hQ)
set_option maxHeartbeats 4000000 in
set_option maxRecDepth 100000 in
theorem v_2_6 {k w : Nat} {m : Int32} {g : GG} {f : Nat} (hk : k < 7) (hI : VAll k w m g f) : VA k w m g (f + 1) 2 6 mX10_hums [] 2 := by
  intro D t x M Q hD hv ht hS hQ
  obtain ⟨dd, rfl⟩ : ∃ dd, D = dd + 3 := ⟨D - 3, by omega⟩
  have hw8 := hS.2.2.1
  have ht2 : t + (70 :: (vL k f (bdN 3 2))).length ≤ 40 := ht
  rw [List.length_cons] at ht2
  have hQ2 : Q (some (.int ((vR k (nI w) m f (bdN 3 2) x) ^^^ nI w))) (wrR (put (put M 97 t (nI 70)) 83 22 (nI (t + 1))) (t + 1) (vL k f (bdN 3 2))) := hQ
  have hv0 : vok k f (bdN 3 2) = true := hv
  have hS1 := hS.one 70
  refine V.iload_n dX10_hums_0 rfl (i := 1) rfl ?_
  refine V.lookup (off := 70) (tgt := 71) dX10_hums_1 (by decide) (by decide) (by decide) ?_
  refine V.aload_n dX10_hums_71 rfl (i := 0) rfl ?_
  refine V.bipush dX10_hums_72 (v := 70) (by decide) ?_
  refine V.invv (z := mX10_ran) (As := [_]) dX10_hums_74 rfl mlRX10_296 okX10_ran npX10_ran rfl rfl rfl ⟨by decide, by decide⟩ (Nat.le_of_ble_eq_true rfl) rfl (Nat.le_of_ble_eq_true rfl) (c_ran hS.1 (by omega) ?_)
  show V rS g (dd + 3) mX10_hums 77 [some (.ref 83), some (.int (nI 6)), some (.int x)] [] (put (put M 97 t (nI 70)) 83 22 (nI (t + 1))) Q
  refine V.aload_n dX10_hums_77 rfl (i := 0) rfl ?_
  refine V.bipush dX10_hums_78 (v := 6) (by decide) ?_
  refine V.invs (z := mX10_above) (As := [_]) dX10_hums_80 rfl mlRX10_299 okX10_above npX10_above rfl (Nat.le_of_ble_eq_true rfl) rfl (Nat.le_of_ble_eq_true rfl) (c_above ?_)
  show V rS g (dd + 3) mX10_hums 83 [some (.ref 83), some (.int (nI 6)), some (.int x)] [.int (nI 3), .ref 83] (put (put M 97 t (nI 70)) 83 22 (nI (t + 1))) Q
  refine V.iload_n dX10_hums_83 rfl (i := 2) rfl ?_
  refine V.invv (z := mX10_hums) (As := [_, _]) dX10_hums_84 rfl mlRX10_311 okX10_hums npX10_hums rfl rfl rfl ⟨by decide, by decide⟩ (Nat.le_of_ble_eq_true rfl) rfl (Nat.le_of_ble_eq_true rfl) (hI.2.2.1 _ (by decide) (dd + 2) (t + 1) _ _ _ (by omega) hv0 (by omega) hS1 ?_)
  show V rS g (dd + 3) mX10_hums 87 [some (.ref 83), some (.int (nI 6)), some (.int x)] [.int (vR k (nI w) m f (bdN 3 2) x)] (wrR (put (put M 97 t (nI 70)) 83 22 (nI (t + 1))) (t + 1) (vL k f (bdN 3 2))) Q
  refine V.aload_n dX10_hums_87 rfl (i := 0) rfl ?_
  refine V.getI dX10_hums_88 rfl flRX10_293 rfl ⟨by decide, by decide⟩ ?_
  refine V.top (x' := (nI w)) ((hS1.wr (vL k f (bdN 3 2))).2.1) ?_
  refine V.ixor dX10_hums_91 ?_
  exact V.ret dX10_hums_92 rfl (hQ2)
set_option maxHeartbeats 4000000 in
set_option maxRecDepth 100000 in
theorem v_3_0 {k w : Nat} {m : Int32} {g : GG} {f : Nat} (hk : k < 7) (hI : VAll k w m g f) : VA k w m g (f + 1) 3 0 mX10_tells [none] 0 := by
  intro D t x M Q hD hv ht hS hQ
  obtain ⟨dd, rfl⟩ : ∃ dd, D = dd + 3 := ⟨D - 3, by omega⟩
  have hw8 := hS.2.2.1
  have ht2 : t + (13 :: (vL k f (bdN k 1) ++ vL k f (bdN k 2))).length ≤ 40 := ht
  rw [List.length_cons, List.length_append] at ht2
  have hQ2 : Q (some (.int ((vR k (nI w) m f (bdN k 1) x) ^^^ (vR k (nI w) m f (bdN k 2) x)))) (wrR (put (put M 97 t (nI 13)) 83 22 (nI (t + 1))) (t + 1) (vL k f (bdN k 1) ++ vL k f (bdN k 2))) := hQ
  rw [wrR_app] at hQ2
  have hv2 : (vok k f (bdN k 1) && vok k f (bdN k 2)) = true := hv
  rw [Bool.and_eq_true] at hv2
  have hv0 := hv2.1
  have hv1 := hv2.2
  have hS1 := hS.one 13
  have hS2 := hS1.wr (vL k f (bdN k 1))
  refine V.iload_n dX10_tells_0 rfl (i := 1) rfl ?_
  refine V.lookup (off := 35) (tgt := 36) dX10_tells_1 (by decide) (by decide) (by decide) ?_
  refine V.aload_n dX10_tells_36 rfl (i := 0) rfl ?_
  refine V.bipush dX10_tells_37 (v := 13) (by decide) ?_
  refine V.invv (z := mX10_ran) (As := [_]) dX10_tells_39 rfl mlRX10_296 okX10_ran npX10_ran rfl rfl rfl ⟨by decide, by decide⟩ (Nat.le_of_ble_eq_true rfl) rfl (Nat.le_of_ble_eq_true rfl) (c_ran hS.1 (by omega) ?_)
  show V rS g (dd + 3) mX10_tells 42 [some (.ref 83), some (.int (nI 0)), some (.int x), none] [] (put (put M 97 t (nI 13)) 83 22 (nI (t + 1))) Q
  refine V.aload_n dX10_tells_42 rfl (i := 0) rfl ?_
  refine V.aload_n dX10_tells_43 rfl (i := 0) rfl ?_
  refine V.invv (z := mX10_own) (As := []) dX10_tells_44 rfl mlRX10_305 okX10_own npX10_own rfl rfl rfl ⟨by decide, by decide⟩ (Nat.le_of_ble_eq_true rfl) rfl (Nat.le_of_ble_eq_true rfl) (c_ownR hS1.2.1 hw8 ?_)
  show V rS g (dd + 3) mX10_tells 47 [some (.ref 83), some (.int (nI 0)), some (.int x), none] [.int ((put (put M 97 t (nI 13)) 83 22 (nI (t + 1))) 84 (108 + 7 * w + 0)), .ref 83] (put (put M 97 t (nI 13)) 83 22 (nI (t + 1))) Q
  refine V.top (x' := (nI k)) (hS1.2.2.2.1) ?_
  refine V.iload_n dX10_tells_47 rfl (i := 2) rfl ?_
  refine V.invv (z := mX10_swings) (As := [_, _]) dX10_tells_48 rfl mlRX10_308 okX10_swings npX10_swings rfl rfl rfl ⟨by decide, by decide⟩ (Nat.le_of_ble_eq_true rfl) rfl (Nat.le_of_ble_eq_true rfl) (hI.2.1 _ hk (dd + 2) (t + 1) _ _ _ (by omega) hv0 (by omega) hS1 ?_)
  show V rS g (dd + 3) mX10_tells 51 [some (.ref 83), some (.int (nI 0)), some (.int x), none] [.int (vR k (nI w) m f (bdN k 1) x)] (wrR (put (put M 97 t (nI 13)) 83 22 (nI (t + 1))) (t + 1) (vL k f (bdN k 1))) Q
  refine V.istore_n dX10_tells_51 rfl (i := 3) (by decide) (fun _ h => by cases h; exact Or.inl rfl) rfl ?_
  refine V.iload_n dX10_tells_52 rfl (i := 3) rfl ?_
  refine V.aload_n dX10_tells_53 rfl (i := 0) rfl ?_
  refine V.aload_n dX10_tells_54 rfl (i := 0) rfl ?_
  refine V.invv (z := mX10_own) (As := []) dX10_tells_55 rfl mlRX10_305 okX10_own npX10_own rfl rfl rfl ⟨by decide, by decide⟩ (Nat.le_of_ble_eq_true rfl) rfl (Nat.le_of_ble_eq_true rfl) (c_ownR hS2.2.1 hw8 ?_)
  show V rS g (dd + 3) mX10_tells 58 [some (.ref 83), some (.int (nI 0)), some (.int x), some (.int (vR k (nI w) m f (bdN k 1) x))] [.int ((wrR (put (put M 97 t (nI 13)) 83 22 (nI (t + 1))) (t + 1) (vL k f (bdN k 1))) 84 (108 + 7 * w + 0)), .ref 83, .int (vR k (nI w) m f (bdN k 1) x)] (wrR (put (put M 97 t (nI 13)) 83 22 (nI (t + 1))) (t + 1) (vL k f (bdN k 1))) Q
  refine V.top (x' := (nI k)) (hS2.2.2.2.1) ?_
  refine V.iload_n dX10_tells_58 rfl (i := 2) rfl ?_
  refine V.invv (z := mX10_hums) (As := [_, _]) dX10_tells_59 rfl mlRX10_311 okX10_hums npX10_hums rfl rfl rfl ⟨by decide, by decide⟩ (Nat.le_of_ble_eq_true rfl) rfl (Nat.le_of_ble_eq_true rfl) (hI.2.2.1 _ hk (dd + 2) (t + 1 + (vL k f (bdN k 1)).length) _ _ _ (by omega) hv1 (by omega) hS2 ?_)
  show V rS g (dd + 3) mX10_tells 62 [some (.ref 83), some (.int (nI 0)), some (.int x), some (.int (vR k (nI w) m f (bdN k 1) x))] [.int (vR k (nI w) m f (bdN k 2) x), .int (vR k (nI w) m f (bdN k 1) x)] (wrR (wrR (put (put M 97 t (nI 13)) 83 22 (nI (t + 1))) (t + 1) (vL k f (bdN k 1))) (t + 1 + (vL k f (bdN k 1)).length) (vL k f (bdN k 2))) Q
  refine V.ixor dX10_tells_62 ?_
  exact V.ret dX10_tells_63 rfl (hQ2)
set_option maxHeartbeats 4000000 in
set_option maxRecDepth 100000 in
theorem v_3_1 {k w : Nat} {m : Int32} {g : GG} {f : Nat} (hk : k < 7) (hI : VAll k w m g f) : VA k w m g (f + 1) 3 1 mX10_tells [none] 1 := by
  intro D t x M Q hD hv ht hS hQ
  obtain ⟨dd, rfl⟩ : ∃ dd, D = dd + 3 := ⟨D - 3, by omega⟩
  refine V.iload_n dX10_tells_0 rfl (i := 1) rfl ?_
  refine V.lookup (off := 120) (tgt := 121) dX10_tells_1 (by decide) (by decide) (by decide) ?_
  refine V.aload_n dX10_tells_121 rfl (i := 0) rfl ?_
  refine V.iload_n dX10_tells_122 rfl (i := 1) rfl ?_
  refine V.invs (z := mX10_above) (As := [_]) dX10_tells_123 rfl mlRX10_299 okX10_above npX10_above rfl (Nat.le_of_ble_eq_true rfl) rfl (Nat.le_of_ble_eq_true rfl) (c_above ?_)
  show V rS g (dd + 3) mX10_tells 126 [some (.ref 83), some (.int (nI 1)), some (.int x), none] [.int (nI 0), .ref 83] M Q
  refine V.iload_n dX10_tells_126 rfl (i := 2) rfl ?_
  refine V.invv (z := mX10_tells) (As := [_, _]) dX10_tells_127 rfl mlRX10_314 okX10_tells npX10_tells rfl rfl rfl ⟨by decide, by decide⟩ (Nat.le_of_ble_eq_true rfl) rfl (Nat.le_of_ble_eq_true rfl) (v_3_0 hk hI (dd + 2) t x M _ (by omega) hv ht hS ?_)
  show V rS g (dd + 3) mX10_tells 130 [some (.ref 83), some (.int (nI 1)), some (.int x), none] [.int (vR k (nI w) m (f + 1) (bdN 1 3) x)] (wrR M t (vL k (f + 1) (bdN 1 3))) Q
  exact V.ret dX10_tells_130 rfl (hQ)
set_option maxHeartbeats 4000000 in
set_option maxRecDepth 100000 in
theorem v_3_2 {k w : Nat} {m : Int32} {g : GG} {f : Nat} (hk : k < 7) (hI : VAll k w m g f) : VA k w m g (f + 1) 3 2 mX10_tells [none] 1 := by
  intro D t x M Q hD hv ht hS hQ
  obtain ⟨dd, rfl⟩ : ∃ dd, D = dd + 3 := ⟨D - 3, by omega⟩
  refine V.iload_n dX10_tells_0 rfl (i := 1) rfl ?_
  refine V.lookup (off := 120) (tgt := 121) dX10_tells_1 (by decide) (by decide) (by decide) ?_
  refine V.aload_n dX10_tells_121 rfl (i := 0) rfl ?_
  refine V.iload_n dX10_tells_122 rfl (i := 1) rfl ?_
  refine V.invs (z := mX10_above) (As := [_]) dX10_tells_123 rfl mlRX10_299 okX10_above npX10_above rfl (Nat.le_of_ble_eq_true rfl) rfl (Nat.le_of_ble_eq_true rfl) (c_above ?_)
  show V rS g (dd + 3) mX10_tells 126 [some (.ref 83), some (.int (nI 2)), some (.int x), none] [.int (nI 0), .ref 83] M Q
  refine V.iload_n dX10_tells_126 rfl (i := 2) rfl ?_
  refine V.invv (z := mX10_tells) (As := [_, _]) dX10_tells_127 rfl mlRX10_314 okX10_tells npX10_tells rfl rfl rfl ⟨by decide, by decide⟩ (Nat.le_of_ble_eq_true rfl) rfl (Nat.le_of_ble_eq_true rfl) (v_3_0 hk hI (dd + 2) t x M _ (by omega) hv ht hS ?_)
  show V rS g (dd + 3) mX10_tells 130 [some (.ref 83), some (.int (nI 2)), some (.int x), none] [.int (vR k (nI w) m (f + 1) (bdN 2 3) x)] (wrR M t (vL k (f + 1) (bdN 2 3))) Q
  exact V.ret dX10_tells_130 rfl (hQ)
set_option maxHeartbeats 4000000 in
set_option maxRecDepth 100000 in
theorem v_3_3 {k w : Nat} {m : Int32} {g : GG} {f : Nat} (hk : k < 7) (hI : VAll k w m g f) : VA k w m g (f + 1) 3 3 mX10_tells [none] 1 := by
  intro D t x M Q hD hv ht hS hQ
  obtain ⟨dd, rfl⟩ : ∃ dd, D = dd + 3 := ⟨D - 3, by omega⟩
  refine V.iload_n dX10_tells_0 rfl (i := 1) rfl ?_
  refine V.lookup (off := 120) (tgt := 121) dX10_tells_1 (by decide) (by decide) (by decide) ?_
  refine V.aload_n dX10_tells_121 rfl (i := 0) rfl ?_
  refine V.iload_n dX10_tells_122 rfl (i := 1) rfl ?_
  refine V.invs (z := mX10_above) (As := [_]) dX10_tells_123 rfl mlRX10_299 okX10_above npX10_above rfl (Nat.le_of_ble_eq_true rfl) rfl (Nat.le_of_ble_eq_true rfl) (c_above ?_)
  show V rS g (dd + 3) mX10_tells 126 [some (.ref 83), some (.int (nI 3)), some (.int x), none] [.int (nI 0), .ref 83] M Q
  refine V.iload_n dX10_tells_126 rfl (i := 2) rfl ?_
  refine V.invv (z := mX10_tells) (As := [_, _]) dX10_tells_127 rfl mlRX10_314 okX10_tells npX10_tells rfl rfl rfl ⟨by decide, by decide⟩ (Nat.le_of_ble_eq_true rfl) rfl (Nat.le_of_ble_eq_true rfl) (v_3_0 hk hI (dd + 2) t x M _ (by omega) hv ht hS ?_)
  show V rS g (dd + 3) mX10_tells 130 [some (.ref 83), some (.int (nI 3)), some (.int x), none] [.int (vR k (nI w) m (f + 1) (bdN 3 3) x)] (wrR M t (vL k (f + 1) (bdN 3 3))) Q
  exact V.ret dX10_tells_130 rfl (hQ)
set_option maxHeartbeats 4000000 in
set_option maxRecDepth 100000 in
theorem v_3_4 {k w : Nat} {m : Int32} {g : GG} {f : Nat} (hk : k < 7) (hI : VAll k w m g f) : VA k w m g (f + 1) 3 4 mX10_tells [none] 2 := by
  intro D t x M Q hD hv ht hS hQ
  obtain ⟨dd, rfl⟩ : ∃ dd, D = dd + 3 := ⟨D - 3, by omega⟩
  refine V.iload_n dX10_tells_0 rfl (i := 1) rfl ?_
  refine V.lookup (off := 120) (tgt := 121) dX10_tells_1 (by decide) (by decide) (by decide) ?_
  refine V.aload_n dX10_tells_121 rfl (i := 0) rfl ?_
  refine V.iload_n dX10_tells_122 rfl (i := 1) rfl ?_
  refine V.invs (z := mX10_above) (As := [_]) dX10_tells_123 rfl mlRX10_299 okX10_above npX10_above rfl (Nat.le_of_ble_eq_true rfl) rfl (Nat.le_of_ble_eq_true rfl) (c_above ?_)
  show V rS g (dd + 3) mX10_tells 126 [some (.ref 83), some (.int (nI 4)), some (.int x), none] [.int (nI 1), .ref 83] M Q
  refine V.iload_n dX10_tells_126 rfl (i := 2) rfl ?_
  refine V.invv (z := mX10_tells) (As := [_, _]) dX10_tells_127 rfl mlRX10_314 okX10_tells npX10_tells rfl rfl rfl ⟨by decide, by decide⟩ (Nat.le_of_ble_eq_true rfl) rfl (Nat.le_of_ble_eq_true rfl) (v_3_1 hk hI (dd + 2) t x M _ (by omega) hv ht hS ?_)
  show V rS g (dd + 3) mX10_tells 130 [some (.ref 83), some (.int (nI 4)), some (.int x), none] [.int (vR k (nI w) m (f + 1) (bdN 4 3) x)] (wrR M t (vL k (f + 1) (bdN 4 3))) Q
  exact V.ret dX10_tells_130 rfl (hQ)
set_option maxHeartbeats 4000000 in
set_option maxRecDepth 100000 in
theorem v_3_5 {k w : Nat} {m : Int32} {g : GG} {f : Nat} (hk : k < 7) (hI : VAll k w m g f) : VA k w m g (f + 1) 3 5 mX10_tells [none] 2 := by
  intro D t x M Q hD hv ht hS hQ
  obtain ⟨dd, rfl⟩ : ∃ dd, D = dd + 3 := ⟨D - 3, by omega⟩
  have hw8 := hS.2.2.1
  have ht2 : t + (60 :: (vL k f (bdN 1 3) ++ vL k f (bdN k 0))).length ≤ 40 := ht
  rw [List.length_cons, List.length_append] at ht2
  have hQ2 : Q (some (.int ((vR k (nI w) m f (bdN 1 3) x) - (vR k (nI w) m f (bdN k 0) 2)))) (wrR (put (put M 97 t (nI 60)) 83 22 (nI (t + 1))) (t + 1) (vL k f (bdN 1 3) ++ vL k f (bdN k 0))) := hQ
  rw [wrR_app] at hQ2
  have hv2 : (vok k f (bdN 1 3) && vok k f (bdN k 0)) = true := hv
  rw [Bool.and_eq_true] at hv2
  have hv0 := hv2.1
  have hv1 := hv2.2
  have hS1 := hS.one 60
  have hS2 := hS1.wr (vL k f (bdN 1 3))
  refine V.iload_n dX10_tells_0 rfl (i := 1) rfl ?_
  refine V.lookup (off := 63) (tgt := 64) dX10_tells_1 (by decide) (by decide) (by decide) ?_
  refine V.aload_n dX10_tells_64 rfl (i := 0) rfl ?_
  refine V.bipush dX10_tells_65 (v := 60) (by decide) ?_
  refine V.invv (z := mX10_ran) (As := [_]) dX10_tells_67 rfl mlRX10_296 okX10_ran npX10_ran rfl rfl rfl ⟨by decide, by decide⟩ (Nat.le_of_ble_eq_true rfl) rfl (Nat.le_of_ble_eq_true rfl) (c_ran hS.1 (by omega) ?_)
  show V rS g (dd + 3) mX10_tells 70 [some (.ref 83), some (.int (nI 5)), some (.int x), none] [] (put (put M 97 t (nI 60)) 83 22 (nI (t + 1))) Q
  refine V.aload_n dX10_tells_70 rfl (i := 0) rfl ?_
  refine V.iconst dX10_tells_71 (v := 5) (by decide) ?_
  refine V.invs (z := mX10_above) (As := [_]) dX10_tells_72 rfl mlRX10_299 okX10_above npX10_above rfl (Nat.le_of_ble_eq_true rfl) rfl (Nat.le_of_ble_eq_true rfl) (c_above ?_)
  show V rS g (dd + 3) mX10_tells 75 [some (.ref 83), some (.int (nI 5)), some (.int x), none] [.int (nI 1), .ref 83] (put (put M 97 t (nI 60)) 83 22 (nI (t + 1))) Q
  refine V.iload_n dX10_tells_75 rfl (i := 2) rfl ?_
  refine V.invv (z := mX10_tells) (As := [_, _]) dX10_tells_76 rfl mlRX10_314 okX10_tells npX10_tells rfl rfl rfl ⟨by decide, by decide⟩ (Nat.le_of_ble_eq_true rfl) rfl (Nat.le_of_ble_eq_true rfl) (hI.2.2.2 _ (by decide) (dd + 2) (t + 1) _ _ _ (by omega) hv0 (by omega) hS1 ?_)
  show V rS g (dd + 3) mX10_tells 79 [some (.ref 83), some (.int (nI 5)), some (.int x), none] [.int (vR k (nI w) m f (bdN 1 3) x)] (wrR (put (put M 97 t (nI 60)) 83 22 (nI (t + 1))) (t + 1) (vL k f (bdN 1 3))) Q
  refine V.istore_n dX10_tells_79 rfl (i := 3) (by decide) (fun _ h => by cases h; exact Or.inl rfl) rfl ?_
  refine V.iload_n dX10_tells_80 rfl (i := 3) rfl ?_
  refine V.aload_n dX10_tells_81 rfl (i := 0) rfl ?_
  refine V.aload_n dX10_tells_82 rfl (i := 0) rfl ?_
  refine V.invv (z := mX10_own) (As := []) dX10_tells_83 rfl mlRX10_305 okX10_own npX10_own rfl rfl rfl ⟨by decide, by decide⟩ (Nat.le_of_ble_eq_true rfl) rfl (Nat.le_of_ble_eq_true rfl) (c_ownR hS2.2.1 hw8 ?_)
  show V rS g (dd + 3) mX10_tells 86 [some (.ref 83), some (.int (nI 5)), some (.int x), some (.int (vR k (nI w) m f (bdN 1 3) x))] [.int ((wrR (put (put M 97 t (nI 60)) 83 22 (nI (t + 1))) (t + 1) (vL k f (bdN 1 3))) 84 (108 + 7 * w + 0)), .ref 83, .int (vR k (nI w) m f (bdN 1 3) x)] (wrR (put (put M 97 t (nI 60)) 83 22 (nI (t + 1))) (t + 1) (vL k f (bdN 1 3))) Q
  refine V.top (x' := (nI k)) (hS2.2.2.2.1) ?_
  refine V.iconst dX10_tells_86 (v := 2) (by decide) ?_
  refine V.invv (z := mX10_rings) (As := [_, _]) dX10_tells_87 rfl mlRX10_302 okX10_rings npX10_rings rfl rfl rfl ⟨by decide, by decide⟩ (Nat.le_of_ble_eq_true rfl) rfl (Nat.le_of_ble_eq_true rfl) (hI.1 _ hk (dd + 2) (t + 1 + (vL k f (bdN 1 3)).length) _ _ _ (by omega) hv1 (by omega) hS2 ?_)
  show V rS g (dd + 3) mX10_tells 90 [some (.ref 83), some (.int (nI 5)), some (.int x), some (.int (vR k (nI w) m f (bdN 1 3) x))] [.int (vR k (nI w) m f (bdN k 0) 2), .int (vR k (nI w) m f (bdN 1 3) x)] (wrR (wrR (put (put M 97 t (nI 60)) 83 22 (nI (t + 1))) (t + 1) (vL k f (bdN 1 3))) (t + 1 + (vL k f (bdN 1 3)).length) (vL k f (bdN k 0))) Q
  refine V.isub dX10_tells_90 ?_
  exact V.ret dX10_tells_91 rfl (hQ2)
set_option maxHeartbeats 4000000 in
set_option maxRecDepth 100000 in
theorem v_3_6 {k w : Nat} {m : Int32} {g : GG} {f : Nat} (hk : k < 7) (hI : VAll k w m g f) : VA k w m g (f + 1) 3 6 mX10_tells [none] 2 := by
  intro D t x M Q hD hv ht hS hQ
  obtain ⟨dd, rfl⟩ : ∃ dd, D = dd + 3 := ⟨D - 3, by omega⟩
  have hw8 := hS.2.2.1
  have ht2 : t + (71 :: (vL k f (bdN k 1) ++ vL k f (bdN 3 3))).length ≤ 40 := ht
  rw [List.length_cons, List.length_append] at ht2
  have hQ2 : Q (some (.int ((vR k (nI w) m f (bdN k 1) x) - (vR k (nI w) m f (bdN 3 3) x)))) (wrR (put (put M 97 t (nI 71)) 83 22 (nI (t + 1))) (t + 1) (vL k f (bdN k 1) ++ vL k f (bdN 3 3))) := hQ
  rw [wrR_app] at hQ2
  have hv2 : (vok k f (bdN k 1) && vok k f (bdN 3 3)) = true := hv
  rw [Bool.and_eq_true] at hv2
  have hv0 := hv2.1
  have hv1 := hv2.2
  have hS1 := hS.one 71
  have hS2 := hS1.wr (vL k f (bdN k 1))
  refine V.iload_n dX10_tells_0 rfl (i := 1) rfl ?_
  refine V.lookup (off := 91) (tgt := 92) dX10_tells_1 (by decide) (by decide) (by decide) ?_
  refine V.aload_n dX10_tells_92 rfl (i := 0) rfl ?_
  refine V.bipush dX10_tells_93 (v := 71) (by decide) ?_
  refine V.invv (z := mX10_ran) (As := [_]) dX10_tells_95 rfl mlRX10_296 okX10_ran npX10_ran rfl rfl rfl ⟨by decide, by decide⟩ (Nat.le_of_ble_eq_true rfl) rfl (Nat.le_of_ble_eq_true rfl) (c_ran hS.1 (by omega) ?_)
  show V rS g (dd + 3) mX10_tells 98 [some (.ref 83), some (.int (nI 6)), some (.int x), none] [] (put (put M 97 t (nI 71)) 83 22 (nI (t + 1))) Q
  refine V.aload_n dX10_tells_98 rfl (i := 0) rfl ?_
  refine V.aload_n dX10_tells_99 rfl (i := 0) rfl ?_
  refine V.invv (z := mX10_own) (As := []) dX10_tells_100 rfl mlRX10_305 okX10_own npX10_own rfl rfl rfl ⟨by decide, by decide⟩ (Nat.le_of_ble_eq_true rfl) rfl (Nat.le_of_ble_eq_true rfl) (c_ownR hS1.2.1 hw8 ?_)
  show V rS g (dd + 3) mX10_tells 103 [some (.ref 83), some (.int (nI 6)), some (.int x), none] [.int ((put (put M 97 t (nI 71)) 83 22 (nI (t + 1))) 84 (108 + 7 * w + 0)), .ref 83] (put (put M 97 t (nI 71)) 83 22 (nI (t + 1))) Q
  refine V.top (x' := (nI k)) (hS1.2.2.2.1) ?_
  refine V.iload_n dX10_tells_103 rfl (i := 2) rfl ?_
  refine V.invv (z := mX10_swings) (As := [_, _]) dX10_tells_104 rfl mlRX10_308 okX10_swings npX10_swings rfl rfl rfl ⟨by decide, by decide⟩ (Nat.le_of_ble_eq_true rfl) rfl (Nat.le_of_ble_eq_true rfl) (hI.2.1 _ hk (dd + 2) (t + 1) _ _ _ (by omega) hv0 (by omega) hS1 ?_)
  show V rS g (dd + 3) mX10_tells 107 [some (.ref 83), some (.int (nI 6)), some (.int x), none] [.int (vR k (nI w) m f (bdN k 1) x)] (wrR (put (put M 97 t (nI 71)) 83 22 (nI (t + 1))) (t + 1) (vL k f (bdN k 1))) Q
  refine V.istore_n dX10_tells_107 rfl (i := 3) (by decide) (fun _ h => by cases h; exact Or.inl rfl) rfl ?_
  refine V.iload_n dX10_tells_108 rfl (i := 3) rfl ?_
  refine V.aload_n dX10_tells_109 rfl (i := 0) rfl ?_
  refine V.bipush dX10_tells_110 (v := 6) (by decide) ?_
  refine V.invs (z := mX10_above) (As := [_]) dX10_tells_112 rfl mlRX10_299 okX10_above npX10_above rfl (Nat.le_of_ble_eq_true rfl) rfl (Nat.le_of_ble_eq_true rfl) (c_above ?_)
  show V rS g (dd + 3) mX10_tells 115 [some (.ref 83), some (.int (nI 6)), some (.int x), some (.int (vR k (nI w) m f (bdN k 1) x))] [.int (nI 3), .ref 83, .int (vR k (nI w) m f (bdN k 1) x)] (wrR (put (put M 97 t (nI 71)) 83 22 (nI (t + 1))) (t + 1) (vL k f (bdN k 1))) Q
  refine V.iload_n dX10_tells_115 rfl (i := 2) rfl ?_
  refine V.invv (z := mX10_tells) (As := [_, _]) dX10_tells_116 rfl mlRX10_314 okX10_tells npX10_tells rfl rfl rfl ⟨by decide, by decide⟩ (Nat.le_of_ble_eq_true rfl) rfl (Nat.le_of_ble_eq_true rfl) (hI.2.2.2 _ (by decide) (dd + 2) (t + 1 + (vL k f (bdN k 1)).length) _ _ _ (by omega) hv1 (by omega) hS2 ?_)
  show V rS g (dd + 3) mX10_tells 119 [some (.ref 83), some (.int (nI 6)), some (.int x), some (.int (vR k (nI w) m f (bdN k 1) x))] [.int (vR k (nI w) m f (bdN 3 3) x), .int (vR k (nI w) m f (bdN k 1) x)] (wrR (wrR (put (put M 97 t (nI 71)) 83 22 (nI (t + 1))) (t + 1) (vL k f (bdN k 1))) (t + 1 + (vL k f (bdN k 1)).length) (vL k f (bdN 3 3))) Q
  refine V.isub dX10_tells_119 ?_
  exact V.ret dX10_tells_120 rfl (hQ2)
theorem j7 {j : Nat} (h : j < 7) : j = 0 ∨ j = 1 ∨ j = 2 ∨ j = 3 ∨ j = 4 ∨ j = 5 ∨ j = 6 := by omega
theorem vAll {k w : Nat} {m : Int32} {g : GG} (hk : k < 7) : ∀ f, VAll k w m g f
  | 0 => ⟨fun j _ D t x M Q hD hv => absurd hv Bool.false_ne_true, fun j _ D t x M Q hD hv => absurd hv Bool.false_ne_true, fun j _ D t x M Q hD hv => absurd hv Bool.false_ne_true, fun j _ D t x M Q hD hv => absurd hv Bool.false_ne_true⟩
  | f + 1 => by
    have hI := vAll (w := w) (m := m) (g := g) hk f
    refine ⟨fun j hj => ?_, fun j hj => ?_, fun j hj => ?_, fun j hj => ?_⟩
    · rcases j7 hj with rfl | rfl | rfl | rfl | rfl | rfl | rfl
      · exact fun D t x M Q hD => v_0_0 hk hI D t x M Q (by omega)
      · exact fun D t x M Q hD => v_0_1 hk hI D t x M Q (by omega)
      · exact fun D t x M Q hD => v_0_2 hk hI D t x M Q (by omega)
      · exact fun D t x M Q hD => v_0_3 hk hI D t x M Q (by omega)
      · exact fun D t x M Q hD => v_0_4 hk hI D t x M Q (by omega)
      · exact fun D t x M Q hD => v_0_5 hk hI D t x M Q (by omega)
      · exact fun D t x M Q hD => v_0_6 hk hI D t x M Q (by omega)
    · rcases j7 hj with rfl | rfl | rfl | rfl | rfl | rfl | rfl
      · exact fun D t x M Q hD => v_1_0 hk hI D t x M Q (by omega)
      · exact fun D t x M Q hD => v_1_1 hk hI D t x M Q (by omega)
      · exact fun D t x M Q hD => v_1_2 hk hI D t x M Q (by omega)
      · exact fun D t x M Q hD => v_1_3 hk hI D t x M Q (by omega)
      · exact fun D t x M Q hD => v_1_4 hk hI D t x M Q (by omega)
      · exact fun D t x M Q hD => v_1_5 hk hI D t x M Q (by omega)
      · exact fun D t x M Q hD => v_1_6 hk hI D t x M Q (by omega)
    · rcases j7 hj with rfl | rfl | rfl | rfl | rfl | rfl | rfl
      · exact fun D t x M Q hD => v_2_0 hk hI D t x M Q (by omega)
      · exact fun D t x M Q hD => v_2_1 hk hI D t x M Q (by omega)
      · exact fun D t x M Q hD => v_2_2 hk hI D t x M Q (by omega)
      · exact fun D t x M Q hD => v_2_3 hk hI D t x M Q (by omega)
      · exact fun D t x M Q hD => v_2_4 hk hI D t x M Q (by omega)
      · exact fun D t x M Q hD => v_2_5 hk hI D t x M Q (by omega)
      · exact fun D t x M Q hD => v_2_6 hk hI D t x M Q (by omega)
    · rcases j7 hj with rfl | rfl | rfl | rfl | rfl | rfl | rfl
      · exact fun D t x M Q hD => v_3_0 hk hI D t x M Q (by omega)
      · exact fun D t x M Q hD => v_3_1 hk hI D t x M Q (by omega)
      · exact fun D t x M Q hD => v_3_2 hk hI D t x M Q (by omega)
      · exact fun D t x M Q hD => v_3_3 hk hI D t x M Q (by omega)
      · exact fun D t x M Q hD => v_3_4 hk hI D t x M Q (by omega)
      · exact fun D t x M Q hD => v_3_5 hk hI D t x M Q (by omega)
      · exact fun D t x M Q hD => v_3_6 hk hI D t x M Q (by omega)
set_option maxHeartbeats 4000000 in
set_option maxRecDepth 100000 in
theorem c10_voice {g : GG} {d : Nat} {M : Mem} {Q : Option Value → Mem → Prop} {a w v : Int32} {n : Nat} (hn : M 84 103 = nI n) (h8 : n ≤ 8) (hK : ∀ b, b < n → ∃ k, k < 7 ∧ M 84 (108 + 7 * b + 0) = nI k) (hbad : ¬ ((0 ≤ a ∧ a < nI n) ∧ 0 ≤ w ∧ w ≤ 3) → Q (some (.int (-1000000001))) (put M 87 1 (M 87 1 + 1))) (hok : ((0 ≤ a ∧ a < nI n) ∧ 0 ≤ w ∧ w ≤ 3) → ∀ b k c, b < n → k < 7 → c < 4 → a = nI b → w = nI c → M 84 (108 + 7 * b + 0) = nI k → Q (some (.int (vR k (nI b) (M 84 (108 + 7 * b + 1)) 12 (bdN k c) v))) (wrR (put (put M 83 22 0) 83 23 (nI b)) 0 (vL k 12 (bdN k c)))) : V rS g (d + 60) mX10_voice 0 [some (.ref 83), some (.int a), some (.int w), some (.int v), none] [] M Q := by
  by_cases h : ((0 ≤ a ∧ a < nI n) ∧ 0 ≤ w ∧ w ≤ 3)
  · obtain ⟨b, hb, rfl⟩ := nI_ex (n := n) (by omega) h.1.1 h.1.2
    obtain ⟨c, hc, rfl⟩ := nI_ex (n := 4) (by omega) h.2.1 (Int32.lt_of_le_of_lt h.2.2 (by decide))
    obtain ⟨k, hk, hkk⟩ := hK b hb
    have hv := vok_12 k hk
    have hS : vSr (put (put M 83 22 0) 83 23 (nI b)) 0 k b (M 84 (108 + 7 * b + 1)) := ⟨by rw [put_n (fun z => absurd z.2 (by decide)), put_s]; rfl, put_s, by omega, by rw [put_cell (by decide), put_cell (by decide)]; exact hkk, by rw [put_cell (by decide), put_cell (by decide)]⟩
    have hA := vAll (w := b) (m := M 84 (108 + 7 * b + 1)) (g := g) hk 12
    have hc4 : c = 0 ∨ c = 1 ∨ c = 2 ∨ c = 3 := by omega
    rcases hc4 with rfl | rfl | rfl | rfl
    · skip
      refine V.aload_n dX10_voice_0 rfl (i := 0) rfl ?_
      refine V.iload_n dX10_voice_1 rfl (i := 1) rfl ?_
      refine V.invv (z := mX10_isBell) (As := [_]) dX10_voice_2 rfl mlRX10_170 okX10_isBell npX10_isBell rfl rfl rfl ⟨by decide, by decide⟩ (Nat.le_of_ble_eq_true rfl) rfl (Nat.le_of_ble_eq_true rfl) (c_bellR hn h8 ?_)
      show V rS g (d + 60) mX10_voice 5 [some (.ref 83), some (.int (nI b)), some (.int (nI 0)), some (.int v), none] [.int (b2i (0 ≤ nI b ∧ nI b < nI n))] M Q
      refine V.if_eq (tgt := 20) dX10_voice_5 (by decide) (fun q => absurd q ((fun z => b2i_0.mp z h.1))) (fun c5 => ?_)
      refine V.iload_n dX10_voice_8 rfl (i := 2) rfl ?_
      refine V.i2l dX10_voice_9 ?_
      refine V.lconst dX10_voice_10 (v := 0) (by decide) ?_
      refine V.ldc2 dX10_voice_11 rfl clRX10_317 ?_
      refine V.invs (z := mX10_in) (As := [_, _, _]) dX10_voice_14 rfl mlRX10_66 okX10_in npX10_in rfl (Nat.le_of_ble_eq_true rfl) rfl (Nat.le_of_ble_eq_true rfl) (c_in32 (v := (nI 0)) (lo := (0 : Int32)) (hi := (3 : Int32)) (by first | rfl | decide) (by first | rfl | decide)   ?_)
      show V rS g (d + 60) mX10_voice 17 [some (.ref 83), some (.int (nI b)), some (.int (nI 0)), some (.int v), none] [.int (b2i ((0 : Int32) ≤ (nI 0) ∧ (nI 0) ≤ (3 : Int32)))] M Q
      refine V.if_ne (tgt := 26) dX10_voice_17 (by decide) (fun c17 => ?_) (fun q => absurd q ((fun z => b2i_0.mp z h.2)))
      refine V.aload_n dX10_voice_26 rfl (i := 0) rfl ?_
      refine V.iconst dX10_voice_27 (v := 0) (by decide) ?_
      refine V.putI dX10_voice_28 rfl fpRX10_290 rfl ⟨by decide, by decide⟩ ?_
      refine V.aload_n dX10_voice_31 rfl (i := 0) rfl ?_
      refine V.iload_n dX10_voice_32 rfl (i := 1) rfl ?_
      refine V.putI dX10_voice_33 rfl fpRX10_293 rfl ⟨by decide, by decide⟩ ?_
      refine V.aload_n dX10_voice_36 rfl (i := 0) rfl ?_
      refine V.invv (z := mX10_own) (As := []) dX10_voice_37 rfl mlRX10_305 okX10_own npX10_own rfl rfl rfl ⟨by decide, by decide⟩ (Nat.le_of_ble_eq_true rfl) rfl (Nat.le_of_ble_eq_true rfl) (c_ownR hS.2.1 (by omega) ?_)
      show V rS g (d + 60) mX10_voice 40 [some (.ref 83), some (.int (nI b)), some (.int (nI 0)), some (.int v), none] [.int ((put (put M 83 22 0) 83 23 (nI b)) 84 (108 + 7 * b + 0))] (put (put M 83 22 0) 83 23 (nI b)) Q
      refine V.top (x' := (nI k)) (hS.2.2.2.1) ?_
      refine V.istore dX10_voice_40 (i := 4) (by decide) (fun _ h => by cases h; exact Or.inl rfl) rfl ?_
      refine V.iload_n dX10_voice_42 rfl (i := 2) rfl ?_
      refine V.if_ne (tgt := 56) dX10_voice_43 (by decide) (fun q => absurd (rfl) q) (fun c43 => ?_)
      refine V.aload_n dX10_voice_46 rfl (i := 0) rfl ?_
      refine V.iload dX10_voice_47 rfl ?_
      refine V.iload_n dX10_voice_49 rfl (i := 3) rfl ?_
      refine V.invv (z := mX10_rings) (As := [_, _]) dX10_voice_50 rfl mlRX10_302 okX10_rings npX10_rings rfl rfl rfl ⟨by decide, by decide⟩ (Nat.le_of_ble_eq_true rfl) rfl (Nat.le_of_ble_eq_true rfl) (hA.1 k hk (d + 59) 0 v _ _ (by omega) (hv 0 (by decide)).1 (by rw [Nat.zero_add]; exact (hv 0 (by decide)).2) hS ?_)
      show V rS g (d + 60) mX10_voice 53 [some (.ref 83), some (.int (nI b)), some (.int (nI 0)), some (.int v), some (.int (nI k))] [.int (vR k (nI b) (M 84 (108 + 7 * b + 1)) 12 (bdN k 0) v)] (wrR (put (put M 83 22 0) 83 23 (nI b)) 0 (vL k 12 (bdN k 0))) Q
      refine V.goto dX10_voice_53 (tgt := 93) (by decide) ?_
      exact V.ret dX10_voice_93 rfl (hok h b k 0 hb hk (by decide) rfl rfl hkk)
    · skip
      refine V.aload_n dX10_voice_0 rfl (i := 0) rfl ?_
      refine V.iload_n dX10_voice_1 rfl (i := 1) rfl ?_
      refine V.invv (z := mX10_isBell) (As := [_]) dX10_voice_2 rfl mlRX10_170 okX10_isBell npX10_isBell rfl rfl rfl ⟨by decide, by decide⟩ (Nat.le_of_ble_eq_true rfl) rfl (Nat.le_of_ble_eq_true rfl) (c_bellR hn h8 ?_)
      show V rS g (d + 60) mX10_voice 5 [some (.ref 83), some (.int (nI b)), some (.int (nI 1)), some (.int v), none] [.int (b2i (0 ≤ nI b ∧ nI b < nI n))] M Q
      refine V.if_eq (tgt := 20) dX10_voice_5 (by decide) (fun q => absurd q ((fun z => b2i_0.mp z h.1))) (fun c5 => ?_)
      refine V.iload_n dX10_voice_8 rfl (i := 2) rfl ?_
      refine V.i2l dX10_voice_9 ?_
      refine V.lconst dX10_voice_10 (v := 0) (by decide) ?_
      refine V.ldc2 dX10_voice_11 rfl clRX10_317 ?_
      refine V.invs (z := mX10_in) (As := [_, _, _]) dX10_voice_14 rfl mlRX10_66 okX10_in npX10_in rfl (Nat.le_of_ble_eq_true rfl) rfl (Nat.le_of_ble_eq_true rfl) (c_in32 (v := (nI 1)) (lo := (0 : Int32)) (hi := (3 : Int32)) (by first | rfl | decide) (by first | rfl | decide)   ?_)
      show V rS g (d + 60) mX10_voice 17 [some (.ref 83), some (.int (nI b)), some (.int (nI 1)), some (.int v), none] [.int (b2i ((0 : Int32) ≤ (nI 1) ∧ (nI 1) ≤ (3 : Int32)))] M Q
      refine V.if_ne (tgt := 26) dX10_voice_17 (by decide) (fun c17 => ?_) (fun q => absurd q ((fun z => b2i_0.mp z h.2)))
      refine V.aload_n dX10_voice_26 rfl (i := 0) rfl ?_
      refine V.iconst dX10_voice_27 (v := 0) (by decide) ?_
      refine V.putI dX10_voice_28 rfl fpRX10_290 rfl ⟨by decide, by decide⟩ ?_
      refine V.aload_n dX10_voice_31 rfl (i := 0) rfl ?_
      refine V.iload_n dX10_voice_32 rfl (i := 1) rfl ?_
      refine V.putI dX10_voice_33 rfl fpRX10_293 rfl ⟨by decide, by decide⟩ ?_
      refine V.aload_n dX10_voice_36 rfl (i := 0) rfl ?_
      refine V.invv (z := mX10_own) (As := []) dX10_voice_37 rfl mlRX10_305 okX10_own npX10_own rfl rfl rfl ⟨by decide, by decide⟩ (Nat.le_of_ble_eq_true rfl) rfl (Nat.le_of_ble_eq_true rfl) (c_ownR hS.2.1 (by omega) ?_)
      show V rS g (d + 60) mX10_voice 40 [some (.ref 83), some (.int (nI b)), some (.int (nI 1)), some (.int v), none] [.int ((put (put M 83 22 0) 83 23 (nI b)) 84 (108 + 7 * b + 0))] (put (put M 83 22 0) 83 23 (nI b)) Q
      refine V.top (x' := (nI k)) (hS.2.2.2.1) ?_
      refine V.istore dX10_voice_40 (i := 4) (by decide) (fun _ h => by cases h; exact Or.inl rfl) rfl ?_
      refine V.iload_n dX10_voice_42 rfl (i := 2) rfl ?_
      refine V.if_ne (tgt := 56) dX10_voice_43 (by decide) (fun c43 => ?_) (fun q => absurd q ((by decide)))
      refine V.iload_n dX10_voice_56 rfl (i := 2) rfl ?_
      refine V.iconst dX10_voice_57 (v := 1) (by decide) ?_
      refine V.ic_ne (tgt := 71) dX10_voice_58 (by decide) (fun q => absurd (rfl) q) (fun c58 => ?_)
      refine V.aload_n dX10_voice_61 rfl (i := 0) rfl ?_
      refine V.iload dX10_voice_62 rfl ?_
      refine V.iload_n dX10_voice_64 rfl (i := 3) rfl ?_
      refine V.invv (z := mX10_swings) (As := [_, _]) dX10_voice_65 rfl mlRX10_308 okX10_swings npX10_swings rfl rfl rfl ⟨by decide, by decide⟩ (Nat.le_of_ble_eq_true rfl) rfl (Nat.le_of_ble_eq_true rfl) (hA.2.1 k hk (d + 59) 0 v _ _ (by omega) (hv 1 (by decide)).1 (by rw [Nat.zero_add]; exact (hv 1 (by decide)).2) hS ?_)
      show V rS g (d + 60) mX10_voice 68 [some (.ref 83), some (.int (nI b)), some (.int (nI 1)), some (.int v), some (.int (nI k))] [.int (vR k (nI b) (M 84 (108 + 7 * b + 1)) 12 (bdN k 1) v)] (wrR (put (put M 83 22 0) 83 23 (nI b)) 0 (vL k 12 (bdN k 1))) Q
      refine V.goto dX10_voice_68 (tgt := 93) (by decide) ?_
      exact V.ret dX10_voice_93 rfl (hok h b k 1 hb hk (by decide) rfl rfl hkk)
    · skip
      refine V.aload_n dX10_voice_0 rfl (i := 0) rfl ?_
      refine V.iload_n dX10_voice_1 rfl (i := 1) rfl ?_
      refine V.invv (z := mX10_isBell) (As := [_]) dX10_voice_2 rfl mlRX10_170 okX10_isBell npX10_isBell rfl rfl rfl ⟨by decide, by decide⟩ (Nat.le_of_ble_eq_true rfl) rfl (Nat.le_of_ble_eq_true rfl) (c_bellR hn h8 ?_)
      show V rS g (d + 60) mX10_voice 5 [some (.ref 83), some (.int (nI b)), some (.int (nI 2)), some (.int v), none] [.int (b2i (0 ≤ nI b ∧ nI b < nI n))] M Q
      refine V.if_eq (tgt := 20) dX10_voice_5 (by decide) (fun q => absurd q ((fun z => b2i_0.mp z h.1))) (fun c5 => ?_)
      refine V.iload_n dX10_voice_8 rfl (i := 2) rfl ?_
      refine V.i2l dX10_voice_9 ?_
      refine V.lconst dX10_voice_10 (v := 0) (by decide) ?_
      refine V.ldc2 dX10_voice_11 rfl clRX10_317 ?_
      refine V.invs (z := mX10_in) (As := [_, _, _]) dX10_voice_14 rfl mlRX10_66 okX10_in npX10_in rfl (Nat.le_of_ble_eq_true rfl) rfl (Nat.le_of_ble_eq_true rfl) (c_in32 (v := (nI 2)) (lo := (0 : Int32)) (hi := (3 : Int32)) (by first | rfl | decide) (by first | rfl | decide)   ?_)
      show V rS g (d + 60) mX10_voice 17 [some (.ref 83), some (.int (nI b)), some (.int (nI 2)), some (.int v), none] [.int (b2i ((0 : Int32) ≤ (nI 2) ∧ (nI 2) ≤ (3 : Int32)))] M Q
      refine V.if_ne (tgt := 26) dX10_voice_17 (by decide) (fun c17 => ?_) (fun q => absurd q ((fun z => b2i_0.mp z h.2)))
      refine V.aload_n dX10_voice_26 rfl (i := 0) rfl ?_
      refine V.iconst dX10_voice_27 (v := 0) (by decide) ?_
      refine V.putI dX10_voice_28 rfl fpRX10_290 rfl ⟨by decide, by decide⟩ ?_
      refine V.aload_n dX10_voice_31 rfl (i := 0) rfl ?_
      refine V.iload_n dX10_voice_32 rfl (i := 1) rfl ?_
      refine V.putI dX10_voice_33 rfl fpRX10_293 rfl ⟨by decide, by decide⟩ ?_
      refine V.aload_n dX10_voice_36 rfl (i := 0) rfl ?_
      refine V.invv (z := mX10_own) (As := []) dX10_voice_37 rfl mlRX10_305 okX10_own npX10_own rfl rfl rfl ⟨by decide, by decide⟩ (Nat.le_of_ble_eq_true rfl) rfl (Nat.le_of_ble_eq_true rfl) (c_ownR hS.2.1 (by omega) ?_)
      show V rS g (d + 60) mX10_voice 40 [some (.ref 83), some (.int (nI b)), some (.int (nI 2)), some (.int v), none] [.int ((put (put M 83 22 0) 83 23 (nI b)) 84 (108 + 7 * b + 0))] (put (put M 83 22 0) 83 23 (nI b)) Q
      refine V.top (x' := (nI k)) (hS.2.2.2.1) ?_
      refine V.istore dX10_voice_40 (i := 4) (by decide) (fun _ h => by cases h; exact Or.inl rfl) rfl ?_
      refine V.iload_n dX10_voice_42 rfl (i := 2) rfl ?_
      refine V.if_ne (tgt := 56) dX10_voice_43 (by decide) (fun c43 => ?_) (fun q => absurd q ((by decide)))
      refine V.iload_n dX10_voice_56 rfl (i := 2) rfl ?_
      refine V.iconst dX10_voice_57 (v := 1) (by decide) ?_
      refine V.ic_ne (tgt := 71) dX10_voice_58 (by decide) (fun c58 => ?_) (fun q => absurd q ((by decide)))
      refine V.iload_n dX10_voice_71 rfl (i := 2) rfl ?_
      refine V.iconst dX10_voice_72 (v := 2) (by decide) ?_
      refine V.ic_ne (tgt := 86) dX10_voice_73 (by decide) (fun q => absurd (rfl) q) (fun c73 => ?_)
      refine V.aload_n dX10_voice_76 rfl (i := 0) rfl ?_
      refine V.iload dX10_voice_77 rfl ?_
      refine V.iload_n dX10_voice_79 rfl (i := 3) rfl ?_
      refine V.invv (z := mX10_hums) (As := [_, _]) dX10_voice_80 rfl mlRX10_311 okX10_hums npX10_hums rfl rfl rfl ⟨by decide, by decide⟩ (Nat.le_of_ble_eq_true rfl) rfl (Nat.le_of_ble_eq_true rfl) (hA.2.2.1 k hk (d + 59) 0 v _ _ (by omega) (hv 2 (by decide)).1 (by rw [Nat.zero_add]; exact (hv 2 (by decide)).2) hS ?_)
      show V rS g (d + 60) mX10_voice 83 [some (.ref 83), some (.int (nI b)), some (.int (nI 2)), some (.int v), some (.int (nI k))] [.int (vR k (nI b) (M 84 (108 + 7 * b + 1)) 12 (bdN k 2) v)] (wrR (put (put M 83 22 0) 83 23 (nI b)) 0 (vL k 12 (bdN k 2))) Q
      refine V.goto dX10_voice_83 (tgt := 93) (by decide) ?_
      exact V.ret dX10_voice_93 rfl (hok h b k 2 hb hk (by decide) rfl rfl hkk)
    · skip
      refine V.aload_n dX10_voice_0 rfl (i := 0) rfl ?_
      refine V.iload_n dX10_voice_1 rfl (i := 1) rfl ?_
      refine V.invv (z := mX10_isBell) (As := [_]) dX10_voice_2 rfl mlRX10_170 okX10_isBell npX10_isBell rfl rfl rfl ⟨by decide, by decide⟩ (Nat.le_of_ble_eq_true rfl) rfl (Nat.le_of_ble_eq_true rfl) (c_bellR hn h8 ?_)
      show V rS g (d + 60) mX10_voice 5 [some (.ref 83), some (.int (nI b)), some (.int (nI 3)), some (.int v), none] [.int (b2i (0 ≤ nI b ∧ nI b < nI n))] M Q
      refine V.if_eq (tgt := 20) dX10_voice_5 (by decide) (fun q => absurd q ((fun z => b2i_0.mp z h.1))) (fun c5 => ?_)
      refine V.iload_n dX10_voice_8 rfl (i := 2) rfl ?_
      refine V.i2l dX10_voice_9 ?_
      refine V.lconst dX10_voice_10 (v := 0) (by decide) ?_
      refine V.ldc2 dX10_voice_11 rfl clRX10_317 ?_
      refine V.invs (z := mX10_in) (As := [_, _, _]) dX10_voice_14 rfl mlRX10_66 okX10_in npX10_in rfl (Nat.le_of_ble_eq_true rfl) rfl (Nat.le_of_ble_eq_true rfl) (c_in32 (v := (nI 3)) (lo := (0 : Int32)) (hi := (3 : Int32)) (by first | rfl | decide) (by first | rfl | decide)   ?_)
      show V rS g (d + 60) mX10_voice 17 [some (.ref 83), some (.int (nI b)), some (.int (nI 3)), some (.int v), none] [.int (b2i ((0 : Int32) ≤ (nI 3) ∧ (nI 3) ≤ (3 : Int32)))] M Q
      refine V.if_ne (tgt := 26) dX10_voice_17 (by decide) (fun c17 => ?_) (fun q => absurd q ((fun z => b2i_0.mp z h.2)))
      refine V.aload_n dX10_voice_26 rfl (i := 0) rfl ?_
      refine V.iconst dX10_voice_27 (v := 0) (by decide) ?_
      refine V.putI dX10_voice_28 rfl fpRX10_290 rfl ⟨by decide, by decide⟩ ?_
      refine V.aload_n dX10_voice_31 rfl (i := 0) rfl ?_
      refine V.iload_n dX10_voice_32 rfl (i := 1) rfl ?_
      refine V.putI dX10_voice_33 rfl fpRX10_293 rfl ⟨by decide, by decide⟩ ?_
      refine V.aload_n dX10_voice_36 rfl (i := 0) rfl ?_
      refine V.invv (z := mX10_own) (As := []) dX10_voice_37 rfl mlRX10_305 okX10_own npX10_own rfl rfl rfl ⟨by decide, by decide⟩ (Nat.le_of_ble_eq_true rfl) rfl (Nat.le_of_ble_eq_true rfl) (c_ownR hS.2.1 (by omega) ?_)
      show V rS g (d + 60) mX10_voice 40 [some (.ref 83), some (.int (nI b)), some (.int (nI 3)), some (.int v), none] [.int ((put (put M 83 22 0) 83 23 (nI b)) 84 (108 + 7 * b + 0))] (put (put M 83 22 0) 83 23 (nI b)) Q
      refine V.top (x' := (nI k)) (hS.2.2.2.1) ?_
      refine V.istore dX10_voice_40 (i := 4) (by decide) (fun _ h => by cases h; exact Or.inl rfl) rfl ?_
      refine V.iload_n dX10_voice_42 rfl (i := 2) rfl ?_
      refine V.if_ne (tgt := 56) dX10_voice_43 (by decide) (fun c43 => ?_) (fun q => absurd q ((by decide)))
      refine V.iload_n dX10_voice_56 rfl (i := 2) rfl ?_
      refine V.iconst dX10_voice_57 (v := 1) (by decide) ?_
      refine V.ic_ne (tgt := 71) dX10_voice_58 (by decide) (fun c58 => ?_) (fun q => absurd q ((by decide)))
      refine V.iload_n dX10_voice_71 rfl (i := 2) rfl ?_
      refine V.iconst dX10_voice_72 (v := 2) (by decide) ?_
      refine V.ic_ne (tgt := 86) dX10_voice_73 (by decide) (fun c73 => ?_) (fun q => absurd q ((by decide)))
      refine V.aload_n dX10_voice_86 rfl (i := 0) rfl ?_
      refine V.iload dX10_voice_87 rfl ?_
      refine V.iload_n dX10_voice_89 rfl (i := 3) rfl ?_
      refine V.invv (z := mX10_tells) (As := [_, _]) dX10_voice_90 rfl mlRX10_314 okX10_tells npX10_tells rfl rfl rfl ⟨by decide, by decide⟩ (Nat.le_of_ble_eq_true rfl) rfl (Nat.le_of_ble_eq_true rfl) (hA.2.2.2 k hk (d + 59) 0 v _ _ (by omega) (hv 3 (by decide)).1 (by rw [Nat.zero_add]; exact (hv 3 (by decide)).2) hS ?_)
      show V rS g (d + 60) mX10_voice 93 [some (.ref 83), some (.int (nI b)), some (.int (nI 3)), some (.int v), some (.int (nI k))] [.int (vR k (nI b) (M 84 (108 + 7 * b + 1)) 12 (bdN k 3) v)] (wrR (put (put M 83 22 0) 83 23 (nI b)) 0 (vL k 12 (bdN k 3))) Q
      exact V.ret dX10_voice_93 rfl (hok h b k 3 hb hk (by decide) rfl rfl hkk)
  · skip
    refine V.aload_n dX10_voice_0 rfl (i := 0) rfl ?_
    refine V.iload_n dX10_voice_1 rfl (i := 1) rfl ?_
    refine V.invv (z := mX10_isBell) (As := [_]) dX10_voice_2 rfl mlRX10_170 okX10_isBell npX10_isBell rfl rfl rfl ⟨by decide, by decide⟩ (Nat.le_of_ble_eq_true rfl) rfl (Nat.le_of_ble_eq_true rfl) (c_bellR hn h8 ?_)
    show V rS g (d + 60) mX10_voice 5 [some (.ref 83), some (.int a), some (.int w), some (.int v), none] [.int (b2i (0 ≤ a ∧ a < nI n))] M Q
    refine V.if_eq (tgt := 20) dX10_voice_5 (by decide) (fun c5 => ?_) (fun c5 => ?_)
    · refine V.aload_n dX10_voice_20 rfl (i := 0) rfl ?_
      refine V.iconst dX10_voice_21 (v := 1) (by decide) ?_
      refine V.invv (z := mX10_finds) (As := [_]) dX10_voice_22 rfl mlRX10_131 okX10_finds npX10_finds rfl rfl rfl ⟨by decide, by decide⟩ (Nat.le_of_ble_eq_true rfl) rfl (Nat.le_of_ble_eq_true rfl) (c_fnd1   ?_)
      show V rS g (d + 60) mX10_voice 25 [some (.ref 83), some (.int a), some (.int w), some (.int v), none] [.int (-1000000001 : Int32)] (put M 87 1 (M 87 1 + 1)) Q
      exact V.ret dX10_voice_25 rfl (hbad h)
    · refine V.iload_n dX10_voice_8 rfl (i := 2) rfl ?_
      refine V.i2l dX10_voice_9 ?_
      refine V.lconst dX10_voice_10 (v := 0) (by decide) ?_
      refine V.ldc2 dX10_voice_11 rfl clRX10_317 ?_
      refine V.invs (z := mX10_in) (As := [_, _, _]) dX10_voice_14 rfl mlRX10_66 okX10_in npX10_in rfl (Nat.le_of_ble_eq_true rfl) rfl (Nat.le_of_ble_eq_true rfl) (c_in32 (v := w) (lo := (0 : Int32)) (hi := (3 : Int32)) (by first | rfl | decide) (by first | rfl | decide)   ?_)
      show V rS g (d + 60) mX10_voice 17 [some (.ref 83), some (.int a), some (.int w), some (.int v), none] [.int (b2i ((0 : Int32) ≤ w ∧ w ≤ (3 : Int32)))] M Q
      refine V.if_ne (tgt := 26) dX10_voice_17 (by decide) (fun c17 => ?_) (fun c17 => ?_)
      · exact absurd ⟨(Classical.byContradiction fun z => c5 (b2i_f z)), (Classical.byContradiction fun z => c17 (b2i_f z))⟩ h
      · refine V.aload_n dX10_voice_20 rfl (i := 0) rfl ?_
        refine V.iconst dX10_voice_21 (v := 1) (by decide) ?_
        refine V.invv (z := mX10_finds) (As := [_]) dX10_voice_22 rfl mlRX10_131 okX10_finds npX10_finds rfl rfl rfl ⟨by decide, by decide⟩ (Nat.le_of_ble_eq_true rfl) rfl (Nat.le_of_ble_eq_true rfl) (c_fnd1   ?_)
        show V rS g (d + 60) mX10_voice 25 [some (.ref 83), some (.int a), some (.int w), some (.int v), none] [.int (-1000000001 : Int32)] (put M 87 1 (M 87 1 + 1)) Q
        exact V.ret dX10_voice_25 rfl (hbad h)
set_option maxHeartbeats 4000000 in
set_option maxRecDepth 100000 in
theorem c10_trace {g : GG} {d : Nat} {M : Mem} {Q : Option Value → Mem → Prop} {a : Int32} {t : Nat} (ht : M 83 22 = nI t) (h40 : t ≤ 40) (hbad : ¬ (0 ≤ a ∧ a < nI t) → Q (some (.int (-1000000002))) (put M 87 2 (M 87 2 + 1))) (hok : (0 ≤ a ∧ a < nI t) → ∀ k, k < t → a = nI k → Q (some (.int (M 97 k))) M) : V rS g (d + 1) mX10_trace 0 [some (.ref 83), some (.int a)] [] M Q := by
  by_cases h : (0 ≤ a ∧ a < nI t)
  · obtain ⟨k, hk, rfl⟩ := nI_ex (n := t) (by omega) h.1 h.2
    have hk40 : k < 40 := by omega
    refine V.iload_n dX10_trace_0 rfl (i := 1) rfl ?_
    refine V.i2l dX10_trace_1 ?_
    refine V.lconst dX10_trace_2 (v := 0) (by decide) ?_
    refine V.aload_n dX10_trace_3 rfl (i := 0) rfl ?_
    refine V.getI dX10_trace_4 rfl flRX10_290 rfl ⟨by decide, by decide⟩ ?_
    refine V.top (x' := (nI t)) (ht) ?_
    refine V.iconst dX10_trace_7 (v := 1) (by decide) ?_
    refine V.isub dX10_trace_8 ?_
    refine V.i2l dX10_trace_9 ?_
    refine V.invs (z := mX10_in) (As := [_, _, _]) dX10_trace_10 rfl mlRX10_66 okX10_in npX10_in rfl (Nat.le_of_ble_eq_true rfl) rfl (Nat.le_of_ble_eq_true rfl) (c_in32 (v := nI k) (lo := 0) (hi := nI t - 1) rfl rfl ?_)
    show V rS g (d + 1) mX10_trace 13 [some (.ref 83), some (.int (nI k))] [.int (b2i (0 ≤ nI k ∧ nI k ≤ nI t - 1))] M Q
    refine V.if_eq (tgt := 25) dX10_trace_13 (by decide) (fun q => absurd q ((fun z => b2i_0.mp z ⟨h.1, (le_pred (by omega)).mpr h.2⟩))) (fun c13 => ?_)
    refine V.aload_n dX10_trace_16 rfl (i := 0) rfl ?_
    refine V.getR dX10_trace_17 rfl flRX10_50 rfl ⟨by decide, by decide⟩ ?_
    refine V.iload_n dX10_trace_20 rfl (i := 1) rfl ?_
    refine V.ialdN dX10_trace_21 rfl ⟨by decide, by decide⟩ (by first | assumption | decide | omega) (by decide) ?_
    refine V.goto dX10_trace_22 (tgt := 30) (by decide) ?_
    exact V.ret dX10_trace_30 rfl (hok h k hk rfl)
  · skip
    refine V.iload_n dX10_trace_0 rfl (i := 1) rfl ?_
    refine V.i2l dX10_trace_1 ?_
    refine V.lconst dX10_trace_2 (v := 0) (by decide) ?_
    refine V.aload_n dX10_trace_3 rfl (i := 0) rfl ?_
    refine V.getI dX10_trace_4 rfl flRX10_290 rfl ⟨by decide, by decide⟩ ?_
    refine V.top (x' := (nI t)) (ht) ?_
    refine V.iconst dX10_trace_7 (v := 1) (by decide) ?_
    refine V.isub dX10_trace_8 ?_
    refine V.i2l dX10_trace_9 ?_
    refine V.invs (z := mX10_in) (As := [_, _, _]) dX10_trace_10 rfl mlRX10_66 okX10_in npX10_in rfl (Nat.le_of_ble_eq_true rfl) rfl (Nat.le_of_ble_eq_true rfl) (c_in32 (v := a) (lo := 0) (hi := nI t - 1) rfl rfl ?_)
    show V rS g (d + 1) mX10_trace 13 [some (.ref 83), some (.int a)] [.int (b2i (0 ≤ a ∧ a ≤ nI t - 1))] M Q
    refine V.if_eq (tgt := 25) dX10_trace_13 (by decide) (fun c13 => ?_) (fun q => absurd ((b2i_f (fun z => h ⟨z.1, (le_pred (by omega)).mp z.2⟩))) q)
    refine V.aload_n dX10_trace_25 rfl (i := 0) rfl ?_
    refine V.iconst dX10_trace_26 (v := 2) (by decide) ?_
    refine V.invv (z := mX10_finds) (As := [_]) dX10_trace_27 rfl mlRX10_131 okX10_finds npX10_finds rfl rfl rfl ⟨by decide, by decide⟩ (Nat.le_of_ble_eq_true rfl) rfl (Nat.le_of_ble_eq_true rfl) (c_fnd2   ?_)
    show V rS g (d + 1) mX10_trace 30 [some (.ref 83), some (.int a)] [.int (-1000000002 : Int32)] (put M 87 2 (M 87 2 + 1)) Q
    exact V.ret dX10_trace_30 rfl (hbad h)

