/-! ===== Voices: the bodies run ===== -/
def vW (k : Nat) (n m : Int32) (R : Nat → Int32 → Int32) (b : Nat) (x : Int32) : Int32 := if b = 10 then x + n else if b = 11 then (R (bdN k 0) x) * 2 else if b = 12 then x - m else if b = 13 then (R (bdN k 1) x) ^^^ (R (bdN k 2) x) else if b = 20 then (R (bdN 0 1) x) - (R (bdN k 2) 1) else if b = 30 then (R (bdN 0 0) x) * 3 else if b = 40 then -(R (bdN 0 2) x) else if b = 50 then R (bdN 1 1) (x + 1) else if b = 60 then (R (bdN 1 3) x) - (R (bdN k 0) 2) else if b = 70 then (R (bdN 3 2) x) ^^^ n else if b = 71 then (R (bdN k 1) x) - (R (bdN 3 3) x) else 0
def vR (k : Nat) (n m : Int32) : Nat → Nat → Int32 → Int32
  | 0, _, _ => 0
  | f + 1, b, x => vW k n m (vR k n m f) b x
def vN (k : Nat) (L : Nat → List Nat) (b : Nat) : List Nat := if b = 10 then [] else if b = 11 then L (bdN k 0) else if b = 12 then [] else if b = 13 then L (bdN k 1) ++ L (bdN k 2) else if b = 20 then L (bdN 0 1) ++ L (bdN k 2) else if b = 30 then L (bdN 0 0) else if b = 40 then L (bdN 0 2) else if b = 50 then L (bdN 1 1) else if b = 60 then L (bdN 1 3) ++ L (bdN k 0) else if b = 70 then L (bdN 3 2) else if b = 71 then L (bdN k 1) ++ L (bdN 3 3) else []
def vL (k : Nat) : Nat → Nat → List Nat
  | 0, _ => []
  | f + 1, b => b :: vN k (vL k f) b
def vK (k : Nat) (O : Nat → Bool) (b : Nat) : Bool := if b = 10 then true else if b = 11 then O (bdN k 0) else if b = 12 then true else if b = 13 then O (bdN k 1) && O (bdN k 2) else if b = 20 then O (bdN 0 1) && O (bdN k 2) else if b = 30 then O (bdN 0 0) else if b = 40 then O (bdN 0 2) else if b = 50 then O (bdN 1 1) else if b = 60 then O (bdN 1 3) && O (bdN k 0) else if b = 70 then O (bdN 3 2) else if b = 71 then O (bdN k 1) && O (bdN 3 3) else true
def vok (k : Nat) : Nat → Nat → Bool
  | 0, _ => false
  | f + 1, b => vK k (vok k f) b
/-- the bodies written down from place t on -/
def wr : Mem → Nat → List Nat → Mem
  | M, _, [] => M
  | M, t, b :: l => wr (put (put M 60 t (nI b)) 7 1 (nI (t + 1))) (t + 1) l
theorem wr_app : ∀ (l : List Nat) (M : Mem) (t : Nat) (l' : List Nat), wr M t (l ++ l') = wr (wr M t l) (t + l.length) l'
  | [], _, _, _ => rfl
  | b :: l, M, t, l' => by
    show wr _ (t + 1) (l ++ l') = wr (wr _ (t + 1) l) _ l'
    rw [wr_app l, List.length_cons, Nat.add_assoc t 1, Nat.add_comm 1]
theorem wr_7 {j : Nat} (hj : j ≠ 1) : ∀ (l : List Nat) (M : Mem) (t : Nat), wr M t l 7 j = M 7 j
  | [], _, _ => rfl
  | b :: l, M, t => by
    show wr _ (t + 1) l 7 j = _
    rw [wr_7 hj l, put_n (fun z => hj z.2), put_cell (by decide)]
theorem wr_b : ∀ (l : List Nat) (M : Mem) (t : Nat), M 7 1 = nI t → wr M t l 7 1 = nI (t + l.length)
  | [], _, _, h => h
  | b :: l, M, t, h => by
    show wr _ (t + 1) l 7 1 = _
    rw [wr_b l _ _ put_s, List.length_cons, Nat.add_assoc t 1, Nat.add_comm 1]
theorem wr_c {c : Nat} (h7 : c ≠ 7) (h60 : c ≠ 60) : ∀ (l : List Nat) (M : Mem) (t : Nat), wr M t l c = M c
  | [], _, _ => rfl
  | b :: l, M, t => by
    show wr _ (t + 1) l c = _
    rw [wr_c h7 h60 l, put_cell h7, put_cell h60]
def vS (M : Mem) (t k : Nat) (n m : Int32) : Prop := M 7 1 = nI t ∧ M 7 2 = nI k ∧ M 7 3 = n ∧ M 7 4 = m
theorem vS.wr {M : Mem} {t k : Nat} {n m : Int32} (h : vS M t k n m) (l : List Nat) : vS (wr M t l) (t + l.length) k n m := ⟨wr_b l M t h.1, (wr_7 (by decide) l M t).trans h.2.1, (wr_7 (by decide) l M t).trans h.2.2.1, (wr_7 (by decide) l M t).trans h.2.2.2⟩
theorem bdN_lt : ∀ k, k < 7 → ∀ a, a < 4 → bdN k a < 100 := by decide +kernel
def RunAt (k : Nat) (n m : Int32) (f : Nat) (g : GG) (d : Nat) : Prop := ∀ (M : Mem) (Q : Option Value → Mem → Prop) (b : Nat) (x : Int32) (dep t : Nat), b < 100 → vok k f b = true → dep + f ≤ 31 → t + (vL k f b).length ≤ 40 → vS M t k n m → Q (some (.int (vR k n m f b x))) (wr M t (vL k f b)) → V cS g d mX8_run 0 [some (.ref 7), some (.int (nI b)), some (.int x), some (.int (nI dep))] [] M Q

set_option maxHeartbeats 4000000 in
set_option maxRecDepth 100000 in
theorem c_own {g : GG} {d : Nat} {M : Mem} {Q : Option Value → Mem → Prop} {k f dep t : Nat} {n m x : Int32} (hr : RunAt k n m f g d) (hk : k < 7) {a : Nat} (ha : a < 4) (hv : vok k f (bdN k a) = true) (hd : dep + 1 + f ≤ 31) (ht : t + (vL k f (bdN k a)).length ≤ 40) (hS : vS M t k n m) (hQ : Q (some (.int (vR k n m f (bdN k a) x))) (wr M t (vL k f (bdN k a)))) : V cS g (d + 1) mX8_own 0 [some (.ref 7), some (.int (nI a)), some (.int x), some (.int (nI dep))] [] M Q := by
  refine V.aload_n dX8_own_0 rfl (i := 0) rfl ?_
  refine V.aload_n dX8_own_1 rfl (i := 0) rfl ?_
  refine V.getI dX8_own_2 rfl flRX8_24 rfl ⟨by decide, by decide⟩ ?_
  refine V.top (x' := (nI k)) (hS.2.1) ?_
  refine V.iload_n dX8_own_5 rfl (i := 1) rfl ?_
  refine V.invs (z := mX8_bodyOf) (As := [_, _]) dX8_own_6 rfl mlRX8_36 okX8_bodyOf npX8_bodyOf rfl (Nat.le_of_ble_eq_true rfl) rfl (Nat.le_of_ble_eq_true rfl) (c_bdy k hk a ha ?_)
  show V cS g (d + 1) mX8_own 9 [some (.ref 7), some (.int (nI a)), some (.int x), some (.int (nI dep))] [.int (nI (bdN k a)), .ref 7] M Q
  refine V.iload_n dX8_own_9 rfl (i := 2) rfl ?_
  refine V.iload_n dX8_own_10 rfl (i := 3) rfl ?_
  refine V.iconst dX8_own_11 (v := 1) (by decide) ?_
  refine V.iadd dX8_own_12 ?_
  refine V.top (x' := (nI (dep + 1))) (nI_add dep 1) ?_
  refine V.invv (z := mX8_run) (As := [_, _, _]) dX8_own_13 rfl mlRX8_40 okX8_run npX8_run rfl rfl rfl ⟨by decide, by decide⟩ (Nat.le_of_ble_eq_true rfl) rfl (Nat.le_of_ble_eq_true rfl) (hr M _ (bdN k a) x (dep + 1) t (bdN_lt k hk a ha) hv hd ht hS ?_)
  show V cS g (d + 1) mX8_own 16 [some (.ref 7), some (.int (nI a)), some (.int x), some (.int (nI dep))] [.int (vR k n m f (bdN k a) x)] (wr M t (vL k f (bdN k a))) Q
  exact V.ret dX8_own_16 rfl (hQ)
set_option maxHeartbeats 4000000 in
set_option maxRecDepth 100000 in
theorem c_abv1 {g : GG} {d : Nat} {M : Mem} {Q : Option Value → Mem → Prop} {k f dep t : Nat} {n m x : Int32} (hr : RunAt k n m f g d) (hk : k < 7) {a : Nat} (ha : a < 4) (hv : vok k f (bdN 0 a) = true) (hd : dep + 1 + f ≤ 31) (ht : t + (vL k f (bdN 0 a)).length ≤ 40) (hS : vS M t k n m) (hQ : Q (some (.int (vR k n m f (bdN 0 a) x))) (wr M t (vL k f (bdN 0 a)))) : V cS g (d + 1) mX8_above 0 [some (.ref 7), some (.int (1 : Int32)), some (.int (nI a)), some (.int x), some (.int (nI dep))] [] M Q := by
  refine V.aload_n dX8_above_0 rfl (i := 0) rfl ?_
  refine V.getsN (j := 0) (host := "OneBreath") dX8_above_1 rfl rfl (by decide) ?_
  refine V.iload_n dX8_above_4 rfl (i := 1) rfl ?_
  refine V.iaTb (j := 0) dX8_above_5 rfl (by unfold vp_in; decide) ?_
  refine V.top (x' := (nI 0)) ((by decide)) ?_
  refine V.iload_n dX8_above_6 rfl (i := 2) rfl ?_
  refine V.invs (z := mX8_bodyOf) (As := [_, _]) dX8_above_7 rfl mlRX8_36 okX8_bodyOf npX8_bodyOf rfl (Nat.le_of_ble_eq_true rfl) rfl (Nat.le_of_ble_eq_true rfl) (c_bdy 0 (by decide) a ha ?_)
  show V cS g (d + 1) mX8_above 10 [some (.ref 7), some (.int (1 : Int32)), some (.int (nI a)), some (.int x), some (.int (nI dep))] [.int (nI (bdN 0 a)), .ref 7] M Q
  refine V.iload_n dX8_above_10 rfl (i := 3) rfl ?_
  refine V.iload dX8_above_11 rfl ?_
  refine V.iconst dX8_above_13 (v := 1) (by decide) ?_
  refine V.iadd dX8_above_14 ?_
  refine V.top (x' := (nI (dep + 1))) (nI_add dep 1) ?_
  refine V.invv (z := mX8_run) (As := [_, _, _]) dX8_above_15 rfl mlRX8_40 okX8_run npX8_run rfl rfl rfl ⟨by decide, by decide⟩ (Nat.le_of_ble_eq_true rfl) rfl (Nat.le_of_ble_eq_true rfl) (hr M _ (bdN 0 a) x (dep + 1) t (bdN_lt 0 (by decide) a ha) hv hd ht hS ?_)
  show V cS g (d + 1) mX8_above 18 [some (.ref 7), some (.int (1 : Int32)), some (.int (nI a)), some (.int x), some (.int (nI dep))] [.int (vR k n m f (bdN 0 a) x)] (wr M t (vL k f (bdN 0 a))) Q
  exact V.ret dX8_above_18 rfl (hQ)
set_option maxHeartbeats 4000000 in
set_option maxRecDepth 100000 in
theorem c_abv2 {g : GG} {d : Nat} {M : Mem} {Q : Option Value → Mem → Prop} {k f dep t : Nat} {n m x : Int32} (hr : RunAt k n m f g d) (hk : k < 7) {a : Nat} (ha : a < 4) (hv : vok k f (bdN 0 a) = true) (hd : dep + 1 + f ≤ 31) (ht : t + (vL k f (bdN 0 a)).length ≤ 40) (hS : vS M t k n m) (hQ : Q (some (.int (vR k n m f (bdN 0 a) x))) (wr M t (vL k f (bdN 0 a)))) : V cS g (d + 1) mX8_above 0 [some (.ref 7), some (.int (2 : Int32)), some (.int (nI a)), some (.int x), some (.int (nI dep))] [] M Q := by
  refine V.aload_n dX8_above_0 rfl (i := 0) rfl ?_
  refine V.getsN (j := 0) (host := "OneBreath") dX8_above_1 rfl rfl (by decide) ?_
  refine V.iload_n dX8_above_4 rfl (i := 1) rfl ?_
  refine V.iaTb (j := 0) dX8_above_5 rfl (by unfold vp_in; decide) ?_
  refine V.top (x' := (nI 0)) ((by decide)) ?_
  refine V.iload_n dX8_above_6 rfl (i := 2) rfl ?_
  refine V.invs (z := mX8_bodyOf) (As := [_, _]) dX8_above_7 rfl mlRX8_36 okX8_bodyOf npX8_bodyOf rfl (Nat.le_of_ble_eq_true rfl) rfl (Nat.le_of_ble_eq_true rfl) (c_bdy 0 (by decide) a ha ?_)
  show V cS g (d + 1) mX8_above 10 [some (.ref 7), some (.int (2 : Int32)), some (.int (nI a)), some (.int x), some (.int (nI dep))] [.int (nI (bdN 0 a)), .ref 7] M Q
  refine V.iload_n dX8_above_10 rfl (i := 3) rfl ?_
  refine V.iload dX8_above_11 rfl ?_
  refine V.iconst dX8_above_13 (v := 1) (by decide) ?_
  refine V.iadd dX8_above_14 ?_
  refine V.top (x' := (nI (dep + 1))) (nI_add dep 1) ?_
  refine V.invv (z := mX8_run) (As := [_, _, _]) dX8_above_15 rfl mlRX8_40 okX8_run npX8_run rfl rfl rfl ⟨by decide, by decide⟩ (Nat.le_of_ble_eq_true rfl) rfl (Nat.le_of_ble_eq_true rfl) (hr M _ (bdN 0 a) x (dep + 1) t (bdN_lt 0 (by decide) a ha) hv hd ht hS ?_)
  show V cS g (d + 1) mX8_above 18 [some (.ref 7), some (.int (2 : Int32)), some (.int (nI a)), some (.int x), some (.int (nI dep))] [.int (vR k n m f (bdN 0 a) x)] (wr M t (vL k f (bdN 0 a))) Q
  exact V.ret dX8_above_18 rfl (hQ)
set_option maxHeartbeats 4000000 in
set_option maxRecDepth 100000 in
theorem c_abv3 {g : GG} {d : Nat} {M : Mem} {Q : Option Value → Mem → Prop} {k f dep t : Nat} {n m x : Int32} (hr : RunAt k n m f g d) (hk : k < 7) {a : Nat} (ha : a < 4) (hv : vok k f (bdN 0 a) = true) (hd : dep + 1 + f ≤ 31) (ht : t + (vL k f (bdN 0 a)).length ≤ 40) (hS : vS M t k n m) (hQ : Q (some (.int (vR k n m f (bdN 0 a) x))) (wr M t (vL k f (bdN 0 a)))) : V cS g (d + 1) mX8_above 0 [some (.ref 7), some (.int (3 : Int32)), some (.int (nI a)), some (.int x), some (.int (nI dep))] [] M Q := by
  refine V.aload_n dX8_above_0 rfl (i := 0) rfl ?_
  refine V.getsN (j := 0) (host := "OneBreath") dX8_above_1 rfl rfl (by decide) ?_
  refine V.iload_n dX8_above_4 rfl (i := 1) rfl ?_
  refine V.iaTb (j := 0) dX8_above_5 rfl (by unfold vp_in; decide) ?_
  refine V.top (x' := (nI 0)) ((by decide)) ?_
  refine V.iload_n dX8_above_6 rfl (i := 2) rfl ?_
  refine V.invs (z := mX8_bodyOf) (As := [_, _]) dX8_above_7 rfl mlRX8_36 okX8_bodyOf npX8_bodyOf rfl (Nat.le_of_ble_eq_true rfl) rfl (Nat.le_of_ble_eq_true rfl) (c_bdy 0 (by decide) a ha ?_)
  show V cS g (d + 1) mX8_above 10 [some (.ref 7), some (.int (3 : Int32)), some (.int (nI a)), some (.int x), some (.int (nI dep))] [.int (nI (bdN 0 a)), .ref 7] M Q
  refine V.iload_n dX8_above_10 rfl (i := 3) rfl ?_
  refine V.iload dX8_above_11 rfl ?_
  refine V.iconst dX8_above_13 (v := 1) (by decide) ?_
  refine V.iadd dX8_above_14 ?_
  refine V.top (x' := (nI (dep + 1))) (nI_add dep 1) ?_
  refine V.invv (z := mX8_run) (As := [_, _, _]) dX8_above_15 rfl mlRX8_40 okX8_run npX8_run rfl rfl rfl ⟨by decide, by decide⟩ (Nat.le_of_ble_eq_true rfl) rfl (Nat.le_of_ble_eq_true rfl) (hr M _ (bdN 0 a) x (dep + 1) t (bdN_lt 0 (by decide) a ha) hv hd ht hS ?_)
  show V cS g (d + 1) mX8_above 18 [some (.ref 7), some (.int (3 : Int32)), some (.int (nI a)), some (.int x), some (.int (nI dep))] [.int (vR k n m f (bdN 0 a) x)] (wr M t (vL k f (bdN 0 a))) Q
  exact V.ret dX8_above_18 rfl (hQ)
set_option maxHeartbeats 4000000 in
set_option maxRecDepth 100000 in
theorem c_abv4 {g : GG} {d : Nat} {M : Mem} {Q : Option Value → Mem → Prop} {k f dep t : Nat} {n m x : Int32} (hr : RunAt k n m f g d) (hk : k < 7) {a : Nat} (ha : a < 4) (hv : vok k f (bdN 1 a) = true) (hd : dep + 1 + f ≤ 31) (ht : t + (vL k f (bdN 1 a)).length ≤ 40) (hS : vS M t k n m) (hQ : Q (some (.int (vR k n m f (bdN 1 a) x))) (wr M t (vL k f (bdN 1 a)))) : V cS g (d + 1) mX8_above 0 [some (.ref 7), some (.int (4 : Int32)), some (.int (nI a)), some (.int x), some (.int (nI dep))] [] M Q := by
  refine V.aload_n dX8_above_0 rfl (i := 0) rfl ?_
  refine V.getsN (j := 0) (host := "OneBreath") dX8_above_1 rfl rfl (by decide) ?_
  refine V.iload_n dX8_above_4 rfl (i := 1) rfl ?_
  refine V.iaTb (j := 0) dX8_above_5 rfl (by unfold vp_in; decide) ?_
  refine V.top (x' := (nI 1)) ((by decide)) ?_
  refine V.iload_n dX8_above_6 rfl (i := 2) rfl ?_
  refine V.invs (z := mX8_bodyOf) (As := [_, _]) dX8_above_7 rfl mlRX8_36 okX8_bodyOf npX8_bodyOf rfl (Nat.le_of_ble_eq_true rfl) rfl (Nat.le_of_ble_eq_true rfl) (c_bdy 1 (by decide) a ha ?_)
  show V cS g (d + 1) mX8_above 10 [some (.ref 7), some (.int (4 : Int32)), some (.int (nI a)), some (.int x), some (.int (nI dep))] [.int (nI (bdN 1 a)), .ref 7] M Q
  refine V.iload_n dX8_above_10 rfl (i := 3) rfl ?_
  refine V.iload dX8_above_11 rfl ?_
  refine V.iconst dX8_above_13 (v := 1) (by decide) ?_
  refine V.iadd dX8_above_14 ?_
  refine V.top (x' := (nI (dep + 1))) (nI_add dep 1) ?_
  refine V.invv (z := mX8_run) (As := [_, _, _]) dX8_above_15 rfl mlRX8_40 okX8_run npX8_run rfl rfl rfl ⟨by decide, by decide⟩ (Nat.le_of_ble_eq_true rfl) rfl (Nat.le_of_ble_eq_true rfl) (hr M _ (bdN 1 a) x (dep + 1) t (bdN_lt 1 (by decide) a ha) hv hd ht hS ?_)
  show V cS g (d + 1) mX8_above 18 [some (.ref 7), some (.int (4 : Int32)), some (.int (nI a)), some (.int x), some (.int (nI dep))] [.int (vR k n m f (bdN 1 a) x)] (wr M t (vL k f (bdN 1 a))) Q
  exact V.ret dX8_above_18 rfl (hQ)
set_option maxHeartbeats 4000000 in
set_option maxRecDepth 100000 in
theorem c_abv5 {g : GG} {d : Nat} {M : Mem} {Q : Option Value → Mem → Prop} {k f dep t : Nat} {n m x : Int32} (hr : RunAt k n m f g d) (hk : k < 7) {a : Nat} (ha : a < 4) (hv : vok k f (bdN 1 a) = true) (hd : dep + 1 + f ≤ 31) (ht : t + (vL k f (bdN 1 a)).length ≤ 40) (hS : vS M t k n m) (hQ : Q (some (.int (vR k n m f (bdN 1 a) x))) (wr M t (vL k f (bdN 1 a)))) : V cS g (d + 1) mX8_above 0 [some (.ref 7), some (.int (5 : Int32)), some (.int (nI a)), some (.int x), some (.int (nI dep))] [] M Q := by
  refine V.aload_n dX8_above_0 rfl (i := 0) rfl ?_
  refine V.getsN (j := 0) (host := "OneBreath") dX8_above_1 rfl rfl (by decide) ?_
  refine V.iload_n dX8_above_4 rfl (i := 1) rfl ?_
  refine V.iaTb (j := 0) dX8_above_5 rfl (by unfold vp_in; decide) ?_
  refine V.top (x' := (nI 1)) ((by decide)) ?_
  refine V.iload_n dX8_above_6 rfl (i := 2) rfl ?_
  refine V.invs (z := mX8_bodyOf) (As := [_, _]) dX8_above_7 rfl mlRX8_36 okX8_bodyOf npX8_bodyOf rfl (Nat.le_of_ble_eq_true rfl) rfl (Nat.le_of_ble_eq_true rfl) (c_bdy 1 (by decide) a ha ?_)
  show V cS g (d + 1) mX8_above 10 [some (.ref 7), some (.int (5 : Int32)), some (.int (nI a)), some (.int x), some (.int (nI dep))] [.int (nI (bdN 1 a)), .ref 7] M Q
  refine V.iload_n dX8_above_10 rfl (i := 3) rfl ?_
  refine V.iload dX8_above_11 rfl ?_
  refine V.iconst dX8_above_13 (v := 1) (by decide) ?_
  refine V.iadd dX8_above_14 ?_
  refine V.top (x' := (nI (dep + 1))) (nI_add dep 1) ?_
  refine V.invv (z := mX8_run) (As := [_, _, _]) dX8_above_15 rfl mlRX8_40 okX8_run npX8_run rfl rfl rfl ⟨by decide, by decide⟩ (Nat.le_of_ble_eq_true rfl) rfl (Nat.le_of_ble_eq_true rfl) (hr M _ (bdN 1 a) x (dep + 1) t (bdN_lt 1 (by decide) a ha) hv hd ht hS ?_)
  show V cS g (d + 1) mX8_above 18 [some (.ref 7), some (.int (5 : Int32)), some (.int (nI a)), some (.int x), some (.int (nI dep))] [.int (vR k n m f (bdN 1 a) x)] (wr M t (vL k f (bdN 1 a))) Q
  exact V.ret dX8_above_18 rfl (hQ)
set_option maxHeartbeats 4000000 in
set_option maxRecDepth 100000 in
theorem c_abv6 {g : GG} {d : Nat} {M : Mem} {Q : Option Value → Mem → Prop} {k f dep t : Nat} {n m x : Int32} (hr : RunAt k n m f g d) (hk : k < 7) {a : Nat} (ha : a < 4) (hv : vok k f (bdN 3 a) = true) (hd : dep + 1 + f ≤ 31) (ht : t + (vL k f (bdN 3 a)).length ≤ 40) (hS : vS M t k n m) (hQ : Q (some (.int (vR k n m f (bdN 3 a) x))) (wr M t (vL k f (bdN 3 a)))) : V cS g (d + 1) mX8_above 0 [some (.ref 7), some (.int (6 : Int32)), some (.int (nI a)), some (.int x), some (.int (nI dep))] [] M Q := by
  refine V.aload_n dX8_above_0 rfl (i := 0) rfl ?_
  refine V.getsN (j := 0) (host := "OneBreath") dX8_above_1 rfl rfl (by decide) ?_
  refine V.iload_n dX8_above_4 rfl (i := 1) rfl ?_
  refine V.iaTb (j := 0) dX8_above_5 rfl (by unfold vp_in; decide) ?_
  refine V.top (x' := (nI 3)) ((by decide)) ?_
  refine V.iload_n dX8_above_6 rfl (i := 2) rfl ?_
  refine V.invs (z := mX8_bodyOf) (As := [_, _]) dX8_above_7 rfl mlRX8_36 okX8_bodyOf npX8_bodyOf rfl (Nat.le_of_ble_eq_true rfl) rfl (Nat.le_of_ble_eq_true rfl) (c_bdy 3 (by decide) a ha ?_)
  show V cS g (d + 1) mX8_above 10 [some (.ref 7), some (.int (6 : Int32)), some (.int (nI a)), some (.int x), some (.int (nI dep))] [.int (nI (bdN 3 a)), .ref 7] M Q
  refine V.iload_n dX8_above_10 rfl (i := 3) rfl ?_
  refine V.iload dX8_above_11 rfl ?_
  refine V.iconst dX8_above_13 (v := 1) (by decide) ?_
  refine V.iadd dX8_above_14 ?_
  refine V.top (x' := (nI (dep + 1))) (nI_add dep 1) ?_
  refine V.invv (z := mX8_run) (As := [_, _, _]) dX8_above_15 rfl mlRX8_40 okX8_run npX8_run rfl rfl rfl ⟨by decide, by decide⟩ (Nat.le_of_ble_eq_true rfl) rfl (Nat.le_of_ble_eq_true rfl) (hr M _ (bdN 3 a) x (dep + 1) t (bdN_lt 3 (by decide) a ha) hv hd ht hS ?_)
  show V cS g (d + 1) mX8_above 18 [some (.ref 7), some (.int (6 : Int32)), some (.int (nI a)), some (.int x), some (.int (nI dep))] [.int (vR k n m f (bdN 3 a) x)] (wr M t (vL k f (bdN 3 a))) Q
  exact V.ret dX8_above_18 rfl (hQ)
set_option maxHeartbeats 4000000 in
set_option maxRecDepth 100000 in
theorem l_r10 {g : GG} {d : Nat} {M : Mem} {Q : Option Value → Mem → Prop} {k f dep t : Nat} {n m x : Int32} (hr : RunAt k n m f g d) (hk : k < 7) {bb : Int32}  (hd : dep + 1 + f ≤ 31)  (hS : vS M t k n m) (hQ : Q (some (.int (x + n))) M) : V cS g (d + 2) mX8_run 136 [some (.ref 7), some (.int bb), some (.int x), some (.int (nI dep))] [] M Q := by
  refine V.iload_n dX8_run_136 rfl (i := 2) rfl ?_
  refine V.aload_n dX8_run_137 rfl (i := 0) rfl ?_
  refine V.getI dX8_run_138 rfl flRX8_25 rfl ⟨by decide, by decide⟩ ?_
  refine V.iadd dX8_run_141 ?_
  exact V.ret dX8_run_142 rfl (Qi hQ (by rw [hS.2.2.1]))
set_option maxHeartbeats 4000000 in
set_option maxRecDepth 100000 in
theorem l_r11 {g : GG} {d : Nat} {M : Mem} {Q : Option Value → Mem → Prop} {k f dep t : Nat} {n m x : Int32} (hr : RunAt k n m f g d) (hk : k < 7) {bb : Int32} (hv0 : vok k f (bdN k 0) = true) (hd : dep + 1 + f ≤ 31) (ht : t + (vL k f (bdN k 0)).length ≤ 40) (hS : vS M t k n m) (hQ : Q (some (.int ((vR k n m f (bdN k 0) x) * 2))) (wr M t (vL k f (bdN k 0)))) : V cS g (d + 2) mX8_run 143 [some (.ref 7), some (.int bb), some (.int x), some (.int (nI dep))] [] M Q := by
  refine V.aload_n dX8_run_143 rfl (i := 0) rfl ?_
  refine V.iconst dX8_run_144 (v := 0) (by decide) ?_
  refine V.iload_n dX8_run_145 rfl (i := 2) rfl ?_
  refine V.iload_n dX8_run_146 rfl (i := 3) rfl ?_
  refine V.invv (z := mX8_own) (As := [_, _, _]) dX8_run_147 rfl mlRX8_32 okX8_own npX8_own rfl rfl rfl ⟨by decide, by decide⟩ (Nat.le_of_ble_eq_true rfl) rfl (Nat.le_of_ble_eq_true rfl) (c_own hr hk (a := 0) (by decide) hv0 hd ht hS ?_)
  show V cS g (d + 2) mX8_run 150 [some (.ref 7), some (.int bb), some (.int x), some (.int (nI dep))] [.int (vR k n m f (bdN k 0) x)] (wr M t (vL k f (bdN k 0))) Q
  refine V.iconst dX8_run_150 (v := 2) (by decide) ?_
  refine V.imul dX8_run_151 ?_
  exact V.ret dX8_run_152 rfl (Qi hQ (by first | rfl | simp))
set_option maxHeartbeats 4000000 in
set_option maxRecDepth 100000 in
theorem l_r12 {g : GG} {d : Nat} {M : Mem} {Q : Option Value → Mem → Prop} {k f dep t : Nat} {n m x : Int32} (hr : RunAt k n m f g d) (hk : k < 7) {bb : Int32}  (hd : dep + 1 + f ≤ 31)  (hS : vS M t k n m) (hQ : Q (some (.int (x - m))) M) : V cS g (d + 2) mX8_run 153 [some (.ref 7), some (.int bb), some (.int x), some (.int (nI dep))] [] M Q := by
  refine V.iload_n dX8_run_153 rfl (i := 2) rfl ?_
  refine V.aload_n dX8_run_154 rfl (i := 0) rfl ?_
  refine V.getI dX8_run_155 rfl flRX8_31 rfl ⟨by decide, by decide⟩ ?_
  refine V.isub dX8_run_158 ?_
  exact V.ret dX8_run_159 rfl (Qi hQ (by rw [hS.2.2.2]))
set_option maxHeartbeats 4000000 in
set_option maxRecDepth 100000 in
theorem l_r13 {g : GG} {d : Nat} {M : Mem} {Q : Option Value → Mem → Prop} {k f dep t : Nat} {n m x : Int32} (hr : RunAt k n m f g d) (hk : k < 7) {bb : Int32} (hv0 : vok k f (bdN k 1) = true) (hv1 : vok k f (bdN k 2) = true) (hd : dep + 1 + f ≤ 31) (ht : t + (vL k f (bdN k 1) ++ vL k f (bdN k 2)).length ≤ 40) (hS : vS M t k n m) (hQ : Q (some (.int ((vR k n m f (bdN k 1) x) ^^^ (vR k n m f (bdN k 2) x)))) (wr M t (vL k f (bdN k 1) ++ vL k f (bdN k 2)))) : V cS g (d + 2) mX8_run 160 [some (.ref 7), some (.int bb), some (.int x), some (.int (nI dep))] [] M Q := by
  rw [List.length_append] at ht
  rw [wr_app] at hQ
  refine V.aload_n dX8_run_160 rfl (i := 0) rfl ?_
  refine V.iconst dX8_run_161 (v := 1) (by decide) ?_
  refine V.iload_n dX8_run_162 rfl (i := 2) rfl ?_
  refine V.iload_n dX8_run_163 rfl (i := 3) rfl ?_
  refine V.invv (z := mX8_own) (As := [_, _, _]) dX8_run_164 rfl mlRX8_32 okX8_own npX8_own rfl rfl rfl ⟨by decide, by decide⟩ (Nat.le_of_ble_eq_true rfl) rfl (Nat.le_of_ble_eq_true rfl) (c_own hr hk (a := 1) (by decide) hv0 hd (by omega) hS ?_)
  show V cS g (d + 2) mX8_run 167 [some (.ref 7), some (.int bb), some (.int x), some (.int (nI dep))] [.int (vR k n m f (bdN k 1) x)] (wr M t (vL k f (bdN k 1))) Q
  refine V.aload_n dX8_run_167 rfl (i := 0) rfl ?_
  refine V.iconst dX8_run_168 (v := 2) (by decide) ?_
  refine V.iload_n dX8_run_169 rfl (i := 2) rfl ?_
  refine V.iload_n dX8_run_170 rfl (i := 3) rfl ?_
  refine V.invv (z := mX8_own) (As := [_, _, _]) dX8_run_171 rfl mlRX8_32 okX8_own npX8_own rfl rfl rfl ⟨by decide, by decide⟩ (Nat.le_of_ble_eq_true rfl) rfl (Nat.le_of_ble_eq_true rfl) (c_own hr hk (a := 2) (by decide) hv1 hd (by omega) (hS.wr (vL k f (bdN k 1))) ?_)
  show V cS g (d + 2) mX8_run 174 [some (.ref 7), some (.int bb), some (.int x), some (.int (nI dep))] [.int (vR k n m f (bdN k 2) x), .int (vR k n m f (bdN k 1) x)] (wr (wr M t (vL k f (bdN k 1))) (t + (vL k f (bdN k 1)).length) (vL k f (bdN k 2))) Q
  refine V.ixor dX8_run_174 ?_
  exact V.ret dX8_run_175 rfl (Qi hQ (by first | rfl | simp))
set_option maxHeartbeats 4000000 in
set_option maxRecDepth 100000 in
theorem l_r20 {g : GG} {d : Nat} {M : Mem} {Q : Option Value → Mem → Prop} {k f dep t : Nat} {n m x : Int32} (hr : RunAt k n m f g d) (hk : k < 7) {bb : Int32} (hv0 : vok k f (bdN 0 1) = true) (hv1 : vok k f (bdN k 2) = true) (hd : dep + 1 + f ≤ 31) (ht : t + (vL k f (bdN 0 1) ++ vL k f (bdN k 2)).length ≤ 40) (hS : vS M t k n m) (hQ : Q (some (.int ((vR k n m f (bdN 0 1) x) - (vR k n m f (bdN k 2) 1)))) (wr M t (vL k f (bdN 0 1) ++ vL k f (bdN k 2)))) : V cS g (d + 2) mX8_run 176 [some (.ref 7), some (.int bb), some (.int x), some (.int (nI dep))] [] M Q := by
  rw [List.length_append] at ht
  rw [wr_app] at hQ
  refine V.aload_n dX8_run_176 rfl (i := 0) rfl ?_
  refine V.iconst dX8_run_177 (v := 1) (by decide) ?_
  refine V.iconst dX8_run_178 (v := 1) (by decide) ?_
  refine V.iload_n dX8_run_179 rfl (i := 2) rfl ?_
  refine V.iload_n dX8_run_180 rfl (i := 3) rfl ?_
  refine V.invv (z := mX8_above) (As := [_, _, _, _]) dX8_run_181 rfl mlRX8_49 okX8_above npX8_above rfl rfl rfl ⟨by decide, by decide⟩ (Nat.le_of_ble_eq_true rfl) rfl (Nat.le_of_ble_eq_true rfl) (c_abv1 hr hk (a := 1) (by decide) hv0 hd (by omega) hS ?_)
  show V cS g (d + 2) mX8_run 184 [some (.ref 7), some (.int bb), some (.int x), some (.int (nI dep))] [.int (vR k n m f (bdN 0 1) x)] (wr M t (vL k f (bdN 0 1))) Q
  refine V.aload_n dX8_run_184 rfl (i := 0) rfl ?_
  refine V.iconst dX8_run_185 (v := 2) (by decide) ?_
  refine V.iconst dX8_run_186 (v := 1) (by decide) ?_
  refine V.iload_n dX8_run_187 rfl (i := 3) rfl ?_
  refine V.invv (z := mX8_own) (As := [_, _, _]) dX8_run_188 rfl mlRX8_32 okX8_own npX8_own rfl rfl rfl ⟨by decide, by decide⟩ (Nat.le_of_ble_eq_true rfl) rfl (Nat.le_of_ble_eq_true rfl) (c_own hr hk (a := 2) (by decide) hv1 hd (by omega) (hS.wr (vL k f (bdN 0 1))) ?_)
  show V cS g (d + 2) mX8_run 191 [some (.ref 7), some (.int bb), some (.int x), some (.int (nI dep))] [.int (vR k n m f (bdN k 2) 1), .int (vR k n m f (bdN 0 1) x)] (wr (wr M t (vL k f (bdN 0 1))) (t + (vL k f (bdN 0 1)).length) (vL k f (bdN k 2))) Q
  refine V.isub dX8_run_191 ?_
  exact V.ret dX8_run_192 rfl (Qi hQ (by first | rfl | simp))
set_option maxHeartbeats 4000000 in
set_option maxRecDepth 100000 in
theorem l_r30 {g : GG} {d : Nat} {M : Mem} {Q : Option Value → Mem → Prop} {k f dep t : Nat} {n m x : Int32} (hr : RunAt k n m f g d) (hk : k < 7) {bb : Int32} (hv0 : vok k f (bdN 0 0) = true) (hd : dep + 1 + f ≤ 31) (ht : t + (vL k f (bdN 0 0)).length ≤ 40) (hS : vS M t k n m) (hQ : Q (some (.int ((vR k n m f (bdN 0 0) x) * 3))) (wr M t (vL k f (bdN 0 0)))) : V cS g (d + 2) mX8_run 193 [some (.ref 7), some (.int bb), some (.int x), some (.int (nI dep))] [] M Q := by
  refine V.aload_n dX8_run_193 rfl (i := 0) rfl ?_
  refine V.iconst dX8_run_194 (v := 2) (by decide) ?_
  refine V.iconst dX8_run_195 (v := 0) (by decide) ?_
  refine V.iload_n dX8_run_196 rfl (i := 2) rfl ?_
  refine V.iload_n dX8_run_197 rfl (i := 3) rfl ?_
  refine V.invv (z := mX8_above) (As := [_, _, _, _]) dX8_run_198 rfl mlRX8_49 okX8_above npX8_above rfl rfl rfl ⟨by decide, by decide⟩ (Nat.le_of_ble_eq_true rfl) rfl (Nat.le_of_ble_eq_true rfl) (c_abv2 hr hk (a := 0) (by decide) hv0 hd ht hS ?_)
  show V cS g (d + 2) mX8_run 201 [some (.ref 7), some (.int bb), some (.int x), some (.int (nI dep))] [.int (vR k n m f (bdN 0 0) x)] (wr M t (vL k f (bdN 0 0))) Q
  refine V.iconst dX8_run_201 (v := 3) (by decide) ?_
  refine V.imul dX8_run_202 ?_
  exact V.ret dX8_run_203 rfl (Qi hQ (by first | rfl | simp))
set_option maxHeartbeats 4000000 in
set_option maxRecDepth 100000 in
theorem l_r40 {g : GG} {d : Nat} {M : Mem} {Q : Option Value → Mem → Prop} {k f dep t : Nat} {n m x : Int32} (hr : RunAt k n m f g d) (hk : k < 7) {bb : Int32} (hv0 : vok k f (bdN 0 2) = true) (hd : dep + 1 + f ≤ 31) (ht : t + (vL k f (bdN 0 2)).length ≤ 40) (hS : vS M t k n m) (hQ : Q (some (.int (-(vR k n m f (bdN 0 2) x)))) (wr M t (vL k f (bdN 0 2)))) : V cS g (d + 2) mX8_run 204 [some (.ref 7), some (.int bb), some (.int x), some (.int (nI dep))] [] M Q := by
  refine V.aload_n dX8_run_204 rfl (i := 0) rfl ?_
  refine V.iconst dX8_run_205 (v := 3) (by decide) ?_
  refine V.iconst dX8_run_206 (v := 2) (by decide) ?_
  refine V.iload_n dX8_run_207 rfl (i := 2) rfl ?_
  refine V.iload_n dX8_run_208 rfl (i := 3) rfl ?_
  refine V.invv (z := mX8_above) (As := [_, _, _, _]) dX8_run_209 rfl mlRX8_49 okX8_above npX8_above rfl rfl rfl ⟨by decide, by decide⟩ (Nat.le_of_ble_eq_true rfl) rfl (Nat.le_of_ble_eq_true rfl) (c_abv3 hr hk (a := 2) (by decide) hv0 hd ht hS ?_)
  show V cS g (d + 2) mX8_run 212 [some (.ref 7), some (.int bb), some (.int x), some (.int (nI dep))] [.int (vR k n m f (bdN 0 2) x)] (wr M t (vL k f (bdN 0 2))) Q
  refine V.ineg dX8_run_212 ?_
  exact V.ret dX8_run_213 rfl (Qi hQ (by first | rfl | simp))
set_option maxHeartbeats 4000000 in
set_option maxRecDepth 100000 in
theorem l_r50 {g : GG} {d : Nat} {M : Mem} {Q : Option Value → Mem → Prop} {k f dep t : Nat} {n m x : Int32} (hr : RunAt k n m f g d) (hk : k < 7) {bb : Int32} (hv0 : vok k f (bdN 1 1) = true) (hd : dep + 1 + f ≤ 31) (ht : t + (vL k f (bdN 1 1)).length ≤ 40) (hS : vS M t k n m) (hQ : Q (some (.int (vR k n m f (bdN 1 1) (x + 1)))) (wr M t (vL k f (bdN 1 1)))) : V cS g (d + 2) mX8_run 214 [some (.ref 7), some (.int bb), some (.int x), some (.int (nI dep))] [] M Q := by
  refine V.aload_n dX8_run_214 rfl (i := 0) rfl ?_
  refine V.iconst dX8_run_215 (v := 4) (by decide) ?_
  refine V.iconst dX8_run_216 (v := 1) (by decide) ?_
  refine V.iload_n dX8_run_217 rfl (i := 2) rfl ?_
  refine V.iconst dX8_run_218 (v := 1) (by decide) ?_
  refine V.iadd dX8_run_219 ?_
  refine V.iload_n dX8_run_220 rfl (i := 3) rfl ?_
  refine V.invv (z := mX8_above) (As := [_, _, _, _]) dX8_run_221 rfl mlRX8_49 okX8_above npX8_above rfl rfl rfl ⟨by decide, by decide⟩ (Nat.le_of_ble_eq_true rfl) rfl (Nat.le_of_ble_eq_true rfl) (c_abv4 hr hk (a := 1) (by decide) hv0 hd ht hS ?_)
  show V cS g (d + 2) mX8_run 224 [some (.ref 7), some (.int bb), some (.int x), some (.int (nI dep))] [.int (vR k n m f (bdN 1 1) (x + 1))] (wr M t (vL k f (bdN 1 1))) Q
  exact V.ret dX8_run_224 rfl (Qi hQ (by first | rfl | simp))
set_option maxHeartbeats 4000000 in
set_option maxRecDepth 100000 in
theorem l_r60 {g : GG} {d : Nat} {M : Mem} {Q : Option Value → Mem → Prop} {k f dep t : Nat} {n m x : Int32} (hr : RunAt k n m f g d) (hk : k < 7) {bb : Int32} (hv0 : vok k f (bdN 1 3) = true) (hv1 : vok k f (bdN k 0) = true) (hd : dep + 1 + f ≤ 31) (ht : t + (vL k f (bdN 1 3) ++ vL k f (bdN k 0)).length ≤ 40) (hS : vS M t k n m) (hQ : Q (some (.int ((vR k n m f (bdN 1 3) x) - (vR k n m f (bdN k 0) 2)))) (wr M t (vL k f (bdN 1 3) ++ vL k f (bdN k 0)))) : V cS g (d + 2) mX8_run 225 [some (.ref 7), some (.int bb), some (.int x), some (.int (nI dep))] [] M Q := by
  rw [List.length_append] at ht
  rw [wr_app] at hQ
  refine V.aload_n dX8_run_225 rfl (i := 0) rfl ?_
  refine V.iconst dX8_run_226 (v := 5) (by decide) ?_
  refine V.iconst dX8_run_227 (v := 3) (by decide) ?_
  refine V.iload_n dX8_run_228 rfl (i := 2) rfl ?_
  refine V.iload_n dX8_run_229 rfl (i := 3) rfl ?_
  refine V.invv (z := mX8_above) (As := [_, _, _, _]) dX8_run_230 rfl mlRX8_49 okX8_above npX8_above rfl rfl rfl ⟨by decide, by decide⟩ (Nat.le_of_ble_eq_true rfl) rfl (Nat.le_of_ble_eq_true rfl) (c_abv5 hr hk (a := 3) (by decide) hv0 hd (by omega) hS ?_)
  show V cS g (d + 2) mX8_run 233 [some (.ref 7), some (.int bb), some (.int x), some (.int (nI dep))] [.int (vR k n m f (bdN 1 3) x)] (wr M t (vL k f (bdN 1 3))) Q
  refine V.aload_n dX8_run_233 rfl (i := 0) rfl ?_
  refine V.iconst dX8_run_234 (v := 0) (by decide) ?_
  refine V.iconst dX8_run_235 (v := 2) (by decide) ?_
  refine V.iload_n dX8_run_236 rfl (i := 3) rfl ?_
  refine V.invv (z := mX8_own) (As := [_, _, _]) dX8_run_237 rfl mlRX8_32 okX8_own npX8_own rfl rfl rfl ⟨by decide, by decide⟩ (Nat.le_of_ble_eq_true rfl) rfl (Nat.le_of_ble_eq_true rfl) (c_own hr hk (a := 0) (by decide) hv1 hd (by omega) (hS.wr (vL k f (bdN 1 3))) ?_)
  show V cS g (d + 2) mX8_run 240 [some (.ref 7), some (.int bb), some (.int x), some (.int (nI dep))] [.int (vR k n m f (bdN k 0) 2), .int (vR k n m f (bdN 1 3) x)] (wr (wr M t (vL k f (bdN 1 3))) (t + (vL k f (bdN 1 3)).length) (vL k f (bdN k 0))) Q
  refine V.isub dX8_run_240 ?_
  exact V.ret dX8_run_241 rfl (Qi hQ (by first | rfl | simp))
set_option maxHeartbeats 4000000 in
set_option maxRecDepth 100000 in
theorem l_r70 {g : GG} {d : Nat} {M : Mem} {Q : Option Value → Mem → Prop} {k f dep t : Nat} {n m x : Int32} (hr : RunAt k n m f g d) (hk : k < 7) {bb : Int32} (hv0 : vok k f (bdN 3 2) = true) (hd : dep + 1 + f ≤ 31) (ht : t + (vL k f (bdN 3 2)).length ≤ 40) (hS : vS M t k n m) (hQ : Q (some (.int ((vR k n m f (bdN 3 2) x) ^^^ n))) (wr M t (vL k f (bdN 3 2)))) : V cS g (d + 2) mX8_run 242 [some (.ref 7), some (.int bb), some (.int x), some (.int (nI dep))] [] M Q := by
  refine V.aload_n dX8_run_242 rfl (i := 0) rfl ?_
  refine V.bipush dX8_run_243 (v := 6) (by decide) ?_
  refine V.iconst dX8_run_245 (v := 2) (by decide) ?_
  refine V.iload_n dX8_run_246 rfl (i := 2) rfl ?_
  refine V.iload_n dX8_run_247 rfl (i := 3) rfl ?_
  refine V.invv (z := mX8_above) (As := [_, _, _, _]) dX8_run_248 rfl mlRX8_49 okX8_above npX8_above rfl rfl rfl ⟨by decide, by decide⟩ (Nat.le_of_ble_eq_true rfl) rfl (Nat.le_of_ble_eq_true rfl) (c_abv6 hr hk (a := 2) (by decide) hv0 hd ht hS ?_)
  show V cS g (d + 2) mX8_run 251 [some (.ref 7), some (.int bb), some (.int x), some (.int (nI dep))] [.int (vR k n m f (bdN 3 2) x)] (wr M t (vL k f (bdN 3 2))) Q
  refine V.aload_n dX8_run_251 rfl (i := 0) rfl ?_
  refine V.getI dX8_run_252 rfl flRX8_25 rfl ⟨by decide, by decide⟩ ?_
  refine V.ixor dX8_run_255 ?_
  exact V.ret dX8_run_256 rfl (Qi hQ (by rw [(hS.wr _).2.2.1]))
set_option maxHeartbeats 4000000 in
set_option maxRecDepth 100000 in
theorem l_r71 {g : GG} {d : Nat} {M : Mem} {Q : Option Value → Mem → Prop} {k f dep t : Nat} {n m x : Int32} (hr : RunAt k n m f g d) (hk : k < 7) {bb : Int32} (hv0 : vok k f (bdN k 1) = true) (hv1 : vok k f (bdN 3 3) = true) (hd : dep + 1 + f ≤ 31) (ht : t + (vL k f (bdN k 1) ++ vL k f (bdN 3 3)).length ≤ 40) (hS : vS M t k n m) (hQ : Q (some (.int ((vR k n m f (bdN k 1) x) - (vR k n m f (bdN 3 3) x)))) (wr M t (vL k f (bdN k 1) ++ vL k f (bdN 3 3)))) : V cS g (d + 2) mX8_run 257 [some (.ref 7), some (.int bb), some (.int x), some (.int (nI dep))] [] M Q := by
  rw [List.length_append] at ht
  rw [wr_app] at hQ
  refine V.aload_n dX8_run_257 rfl (i := 0) rfl ?_
  refine V.iconst dX8_run_258 (v := 1) (by decide) ?_
  refine V.iload_n dX8_run_259 rfl (i := 2) rfl ?_
  refine V.iload_n dX8_run_260 rfl (i := 3) rfl ?_
  refine V.invv (z := mX8_own) (As := [_, _, _]) dX8_run_261 rfl mlRX8_32 okX8_own npX8_own rfl rfl rfl ⟨by decide, by decide⟩ (Nat.le_of_ble_eq_true rfl) rfl (Nat.le_of_ble_eq_true rfl) (c_own hr hk (a := 1) (by decide) hv0 hd (by omega) hS ?_)
  show V cS g (d + 2) mX8_run 264 [some (.ref 7), some (.int bb), some (.int x), some (.int (nI dep))] [.int (vR k n m f (bdN k 1) x)] (wr M t (vL k f (bdN k 1))) Q
  refine V.aload_n dX8_run_264 rfl (i := 0) rfl ?_
  refine V.bipush dX8_run_265 (v := 6) (by decide) ?_
  refine V.iconst dX8_run_267 (v := 3) (by decide) ?_
  refine V.iload_n dX8_run_268 rfl (i := 2) rfl ?_
  refine V.iload_n dX8_run_269 rfl (i := 3) rfl ?_
  refine V.invv (z := mX8_above) (As := [_, _, _, _]) dX8_run_270 rfl mlRX8_49 okX8_above npX8_above rfl rfl rfl ⟨by decide, by decide⟩ (Nat.le_of_ble_eq_true rfl) rfl (Nat.le_of_ble_eq_true rfl) (c_abv6 hr hk (a := 3) (by decide) hv1 hd (by omega) (hS.wr (vL k f (bdN k 1))) ?_)
  show V cS g (d + 2) mX8_run 273 [some (.ref 7), some (.int bb), some (.int x), some (.int (nI dep))] [.int (vR k n m f (bdN 3 3) x), .int (vR k n m f (bdN k 1) x)] (wr (wr M t (vL k f (bdN k 1))) (t + (vL k f (bdN k 1)).length) (vL k f (bdN 3 3))) Q
  refine V.isub dX8_run_273 ?_
  exact V.ret dX8_run_274 rfl (Qi hQ (by first | rfl | simp))

