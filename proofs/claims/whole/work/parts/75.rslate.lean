/-! ===== the reference: slates ===== -/
def geR (G : Nat → Nat → Int32) (a b : Nat) : Bool := decide (-1000000000 < G a b)
/-- the order in the reference's memory -/
def OdX (M : Mem) (od : Nat → Nat) (m n : Nat) : Prop := M 83 15 = nI m ∧ m ≤ 8 ∧ n ≤ 8 ∧ (∀ k, k < m → M 91 k = nI (od k) ∧ od k < n) ∧ ∀ i j, i < m → j < m → od i = od j → i = j
def ApX (M : Mem) (G : Nat → Nat → Int32) (od : Nat → Nat) (m : Nat) : Prop := ∀ i j, i < j → j < m → M 92 (8 * i + j) = G (od i) (od j)
/-- what finding the order may change -/
def KpF (M M' : Mem) : Prop := (∀ c, c ≠ 83 → c ≠ 88 → c ≠ 89 → c ≠ 90 → c ≠ 91 → c ≠ 92 → M' c = M c) ∧ ∀ j, (j < 5 ∨ (10 < j ∧ j ≠ 15)) → M' 83 j = M 83 j
theorem KpH.f {M M' : Mem} (h : KpH M M') : KpF M M' := ⟨fun c a b x y _ _ => h.1 c a b x y, fun j hj => h.2 j (by omega)⟩
theorem KpF.d {M M1 : Mem} (h : KpF M M1) : M1 84 = M 84 := h.1 84 (by decide) (by decide) (by decide) (by decide) (by decide) (by decide)
/-- cells 83 (its slot 15), 91, 92 alone -/
def KpO (M M' : Mem) : Prop := (∀ c, c ≠ 83 → c ≠ 91 → c ≠ 92 → M' c = M c) ∧ ∀ j, j ≠ 15 → M' 83 j = M 83 j
theorem KpO.rf {M : Mem} : KpO M M := ⟨fun _ _ _ _ => rfl, fun _ _ => rfl⟩
theorem KpO.tr {M M1 M2 : Mem} (h : KpO M M1) (h2 : KpO M1 M2) : KpO M M2 := ⟨fun c a b x => (h2.1 c a b x).trans (h.1 c a b x), fun j hj => (h2.2 j hj).trans (h.2 j hj)⟩
theorem KpO.p91 {M M1 : Mem} {j : Nat} {x : Int32} (h : KpO M M1) : KpO M (put M1 91 j x) := ⟨fun c a b e => by rw [put_cell b]; exact h.1 c a b e, fun i hi => by rw [put_cell (by decide)]; exact h.2 i hi⟩
theorem KpO.p92 {M M1 : Mem} {j : Nat} {x : Int32} (h : KpO M M1) : KpO M (put M1 92 j x) := ⟨fun c a b e => by rw [put_cell e]; exact h.1 c a b e, fun i hi => by rw [put_cell (by decide)]; exact h.2 i hi⟩
theorem KpO.p15 {M M1 : Mem} {x : Int32} (h : KpO M M1) : KpO M (put M1 83 15 x) := ⟨fun c a b e => by rw [put_cell a]; exact h.1 c a b e, fun i hi => by rw [put_n (fun q => hi q.2)]; exact h.2 i hi⟩
theorem KpO.d {M M1 : Mem} (h : KpO M M1) : M1 84 = M 84 := h.1 84 (by decide) (by decide) (by decide)
theorem KpF.o {M M1 M2 : Mem} (h : KpF M M1) (h2 : KpO M1 M2) : KpF M M2 := ⟨fun c a b x y z w => (h2.1 c a z w).trans (h.1 c a b x y z w), fun j hj => (h2.2 j (by omega)).trans (h.2 j hj)⟩
def gdF (T off : Nat → Int32) (od : Nat → Nat) (bd : Int32) : Nat → Bool
  | 0 => true
  | j + 1 => gdF T off od bd j && decide (T j ≤ off (od j) + bd)

set_option maxHeartbeats 4000000 in
set_option maxRecDepth 100000 in
theorem c_isAhead {g : GG} {d : Nat} {M : Mem} {Q : Option Value → Mem → Prop} {a b : Nat} (ha : a ≤ 8) (hb : b ≤ 8) (hQ : Q (some (.int (b2i ((M 84 (108 + 7 * a + 4)) < (M 84 (108 + 7 * b + 4)) ∨ ((M 84 (108 + 7 * a + 4)) = (M 84 (108 + 7 * b + 4)) ∧ a < b))))) M) : V rS g (d + 1) mX10_isAhead 0 [some (.ref 83), some (.int (nI a)), some (.int (nI b))] [] M Q := by
  by_cases h1 : (M 84 (108 + 7 * a + 4)) < (M 84 (108 + 7 * b + 4))
  · rw [b2i_t (Or.inl h1)] at hQ
    refine V.aload_n dX10_isAhead_0 rfl (i := 0) rfl ?_
    refine V.iload_n dX10_isAhead_1 rfl (i := 1) rfl ?_
    refine V.iconst dX10_isAhead_2 (v := 4) (by decide) ?_
    refine V.invv (z := mX10_of) (As := [_, _]) dX10_isAhead_3 rfl mlRX10_175 okX10_of npX10_of rfl rfl rfl ⟨by decide, by decide⟩ (Nat.le_of_ble_eq_true rfl) rfl (Nat.le_of_ble_eq_true rfl) (c_of  (by first | assumption | decide | omega) (by first | assumption | decide | omega) ?_)
    show V rS g (d + 1) mX10_isAhead 6 [some (.ref 83), some (.int (nI a)), some (.int (nI b))] [.int (M 84 (108 + 7 * a + 4))] (M) Q
    refine V.aload_n dX10_isAhead_6 rfl (i := 0) rfl ?_
    refine V.iload_n dX10_isAhead_7 rfl (i := 2) rfl ?_
    refine V.iconst dX10_isAhead_8 (v := 4) (by decide) ?_
    refine V.invv (z := mX10_of) (As := [_, _]) dX10_isAhead_9 rfl mlRX10_175 okX10_of npX10_of rfl rfl rfl ⟨by decide, by decide⟩ (Nat.le_of_ble_eq_true rfl) rfl (Nat.le_of_ble_eq_true rfl) (c_of  (by first | assumption | decide | omega) (by first | assumption | decide | omega) ?_)
    show V rS g (d + 1) mX10_isAhead 12 [some (.ref 83), some (.int (nI a)), some (.int (nI b))] [.int ((M) 84 (108 + 7 * b + 4)), .int (M 84 (108 + 7 * a + 4))] ((M)) Q
    refine V.ic_lt (tgt := 35) dX10_isAhead_12 (by decide) (fun c12 => ?_) (fun q => absurd (h1) q)
    refine V.iconst dX10_isAhead_35 (v := 1) (by decide) ?_
    refine V.goto dX10_isAhead_36 (tgt := 40) (by decide) ?_
    exact V.zret dX10_isAhead_40 rfl (by first | exact Or.inl rfl | exact Or.inr rfl | assumption | exact b2i_zo _ | (repeat' split) <;> first | exact Or.inl rfl | exact Or.inr rfl | assumption | exact b2i_zo _) (hQ)
  · by_cases h2 : (M 84 (108 + 7 * a + 4)) = (M 84 (108 + 7 * b + 4))
    · by_cases h3 : a < b
      · rw [b2i_t (Or.inr ⟨h2, h3⟩)] at hQ
        refine V.aload_n dX10_isAhead_0 rfl (i := 0) rfl ?_
        refine V.iload_n dX10_isAhead_1 rfl (i := 1) rfl ?_
        refine V.iconst dX10_isAhead_2 (v := 4) (by decide) ?_
        refine V.invv (z := mX10_of) (As := [_, _]) dX10_isAhead_3 rfl mlRX10_175 okX10_of npX10_of rfl rfl rfl ⟨by decide, by decide⟩ (Nat.le_of_ble_eq_true rfl) rfl (Nat.le_of_ble_eq_true rfl) (c_of  (by first | assumption | decide | omega) (by first | assumption | decide | omega) ?_)
        show V rS g (d + 1) mX10_isAhead 6 [some (.ref 83), some (.int (nI a)), some (.int (nI b))] [.int (M 84 (108 + 7 * a + 4))] (M) Q
        refine V.aload_n dX10_isAhead_6 rfl (i := 0) rfl ?_
        refine V.iload_n dX10_isAhead_7 rfl (i := 2) rfl ?_
        refine V.iconst dX10_isAhead_8 (v := 4) (by decide) ?_
        refine V.invv (z := mX10_of) (As := [_, _]) dX10_isAhead_9 rfl mlRX10_175 okX10_of npX10_of rfl rfl rfl ⟨by decide, by decide⟩ (Nat.le_of_ble_eq_true rfl) rfl (Nat.le_of_ble_eq_true rfl) (c_of  (by first | assumption | decide | omega) (by first | assumption | decide | omega) ?_)
        show V rS g (d + 1) mX10_isAhead 12 [some (.ref 83), some (.int (nI a)), some (.int (nI b))] [.int ((M) 84 (108 + 7 * b + 4)), .int (M 84 (108 + 7 * a + 4))] ((M)) Q
        refine V.ic_lt (tgt := 35) dX10_isAhead_12 (by decide) (fun q => absurd q (h1)) (fun c12 => ?_)
        refine V.aload_n dX10_isAhead_15 rfl (i := 0) rfl ?_
        refine V.iload_n dX10_isAhead_16 rfl (i := 1) rfl ?_
        refine V.iconst dX10_isAhead_17 (v := 4) (by decide) ?_
        refine V.invv (z := mX10_of) (As := [_, _]) dX10_isAhead_18 rfl mlRX10_175 okX10_of npX10_of rfl rfl rfl ⟨by decide, by decide⟩ (Nat.le_of_ble_eq_true rfl) rfl (Nat.le_of_ble_eq_true rfl) (c_of  (by first | assumption | decide | omega) (by first | assumption | decide | omega) ?_)
        show V rS g (d + 1) mX10_isAhead 21 [some (.ref 83), some (.int (nI a)), some (.int (nI b))] [.int (((M)) 84 (108 + 7 * a + 4))] (((M))) Q
        refine V.aload_n dX10_isAhead_21 rfl (i := 0) rfl ?_
        refine V.iload_n dX10_isAhead_22 rfl (i := 2) rfl ?_
        refine V.iconst dX10_isAhead_23 (v := 4) (by decide) ?_
        refine V.invv (z := mX10_of) (As := [_, _]) dX10_isAhead_24 rfl mlRX10_175 okX10_of npX10_of rfl rfl rfl ⟨by decide, by decide⟩ (Nat.le_of_ble_eq_true rfl) rfl (Nat.le_of_ble_eq_true rfl) (c_of  (by first | assumption | decide | omega) (by first | assumption | decide | omega) ?_)
        show V rS g (d + 1) mX10_isAhead 27 [some (.ref 83), some (.int (nI a)), some (.int (nI b))] [.int ((((M))) 84 (108 + 7 * b + 4)), .int (((M)) 84 (108 + 7 * a + 4))] ((((M)))) Q
        refine V.ic_ne (tgt := 39) dX10_isAhead_27 (by decide) (fun q => absurd (h2) q) (fun c27 => ?_)
        refine V.iload_n dX10_isAhead_30 rfl (i := 1) rfl ?_
        refine V.iload_n dX10_isAhead_31 rfl (i := 2) rfl ?_
        refine V.ic_ge (tgt := 39) dX10_isAhead_32 (by decide) (fun q => absurd q ((nI_ge (a := a) (b := b) (by omega) (by omega)))) (fun c32 => ?_)
        refine V.iconst dX10_isAhead_35 (v := 1) (by decide) ?_
        refine V.goto dX10_isAhead_36 (tgt := 40) (by decide) ?_
        exact V.zret dX10_isAhead_40 rfl (by first | exact Or.inl rfl | exact Or.inr rfl | assumption | exact b2i_zo _ | (repeat' split) <;> first | exact Or.inl rfl | exact Or.inr rfl | assumption | exact b2i_zo _) (hQ)
      · rw [b2i_f (fun z => z.elim h1 (fun y => h3 y.2))] at hQ
        refine V.aload_n dX10_isAhead_0 rfl (i := 0) rfl ?_
        refine V.iload_n dX10_isAhead_1 rfl (i := 1) rfl ?_
        refine V.iconst dX10_isAhead_2 (v := 4) (by decide) ?_
        refine V.invv (z := mX10_of) (As := [_, _]) dX10_isAhead_3 rfl mlRX10_175 okX10_of npX10_of rfl rfl rfl ⟨by decide, by decide⟩ (Nat.le_of_ble_eq_true rfl) rfl (Nat.le_of_ble_eq_true rfl) (c_of  (by first | assumption | decide | omega) (by first | assumption | decide | omega) ?_)
        show V rS g (d + 1) mX10_isAhead 6 [some (.ref 83), some (.int (nI a)), some (.int (nI b))] [.int (M 84 (108 + 7 * a + 4))] (M) Q
        refine V.aload_n dX10_isAhead_6 rfl (i := 0) rfl ?_
        refine V.iload_n dX10_isAhead_7 rfl (i := 2) rfl ?_
        refine V.iconst dX10_isAhead_8 (v := 4) (by decide) ?_
        refine V.invv (z := mX10_of) (As := [_, _]) dX10_isAhead_9 rfl mlRX10_175 okX10_of npX10_of rfl rfl rfl ⟨by decide, by decide⟩ (Nat.le_of_ble_eq_true rfl) rfl (Nat.le_of_ble_eq_true rfl) (c_of  (by first | assumption | decide | omega) (by first | assumption | decide | omega) ?_)
        show V rS g (d + 1) mX10_isAhead 12 [some (.ref 83), some (.int (nI a)), some (.int (nI b))] [.int ((M) 84 (108 + 7 * b + 4)), .int (M 84 (108 + 7 * a + 4))] ((M)) Q
        refine V.ic_lt (tgt := 35) dX10_isAhead_12 (by decide) (fun q => absurd q (h1)) (fun c12 => ?_)
        refine V.aload_n dX10_isAhead_15 rfl (i := 0) rfl ?_
        refine V.iload_n dX10_isAhead_16 rfl (i := 1) rfl ?_
        refine V.iconst dX10_isAhead_17 (v := 4) (by decide) ?_
        refine V.invv (z := mX10_of) (As := [_, _]) dX10_isAhead_18 rfl mlRX10_175 okX10_of npX10_of rfl rfl rfl ⟨by decide, by decide⟩ (Nat.le_of_ble_eq_true rfl) rfl (Nat.le_of_ble_eq_true rfl) (c_of  (by first | assumption | decide | omega) (by first | assumption | decide | omega) ?_)
        show V rS g (d + 1) mX10_isAhead 21 [some (.ref 83), some (.int (nI a)), some (.int (nI b))] [.int (((M)) 84 (108 + 7 * a + 4))] (((M))) Q
        refine V.aload_n dX10_isAhead_21 rfl (i := 0) rfl ?_
        refine V.iload_n dX10_isAhead_22 rfl (i := 2) rfl ?_
        refine V.iconst dX10_isAhead_23 (v := 4) (by decide) ?_
        refine V.invv (z := mX10_of) (As := [_, _]) dX10_isAhead_24 rfl mlRX10_175 okX10_of npX10_of rfl rfl rfl ⟨by decide, by decide⟩ (Nat.le_of_ble_eq_true rfl) rfl (Nat.le_of_ble_eq_true rfl) (c_of  (by first | assumption | decide | omega) (by first | assumption | decide | omega) ?_)
        show V rS g (d + 1) mX10_isAhead 27 [some (.ref 83), some (.int (nI a)), some (.int (nI b))] [.int ((((M))) 84 (108 + 7 * b + 4)), .int (((M)) 84 (108 + 7 * a + 4))] ((((M)))) Q
        refine V.ic_ne (tgt := 39) dX10_isAhead_27 (by decide) (fun q => absurd (h2) q) (fun c27 => ?_)
        refine V.iload_n dX10_isAhead_30 rfl (i := 1) rfl ?_
        refine V.iload_n dX10_isAhead_31 rfl (i := 2) rfl ?_
        refine V.ic_ge (tgt := 39) dX10_isAhead_32 (by decide) (fun c32 => ?_) (fun q => absurd ((nI_le (a := b) (b := a) (by omega) (by omega))) q)
        refine V.iconst dX10_isAhead_39 (v := 0) (by decide) ?_
        exact V.zret dX10_isAhead_40 rfl (by first | exact Or.inl rfl | exact Or.inr rfl | assumption | exact b2i_zo _ | (repeat' split) <;> first | exact Or.inl rfl | exact Or.inr rfl | assumption | exact b2i_zo _) (hQ)
    · rw [b2i_f (fun z => z.elim h1 (fun y => h2 y.1))] at hQ
      refine V.aload_n dX10_isAhead_0 rfl (i := 0) rfl ?_
      refine V.iload_n dX10_isAhead_1 rfl (i := 1) rfl ?_
      refine V.iconst dX10_isAhead_2 (v := 4) (by decide) ?_
      refine V.invv (z := mX10_of) (As := [_, _]) dX10_isAhead_3 rfl mlRX10_175 okX10_of npX10_of rfl rfl rfl ⟨by decide, by decide⟩ (Nat.le_of_ble_eq_true rfl) rfl (Nat.le_of_ble_eq_true rfl) (c_of  (by first | assumption | decide | omega) (by first | assumption | decide | omega) ?_)
      show V rS g (d + 1) mX10_isAhead 6 [some (.ref 83), some (.int (nI a)), some (.int (nI b))] [.int (M 84 (108 + 7 * a + 4))] (M) Q
      refine V.aload_n dX10_isAhead_6 rfl (i := 0) rfl ?_
      refine V.iload_n dX10_isAhead_7 rfl (i := 2) rfl ?_
      refine V.iconst dX10_isAhead_8 (v := 4) (by decide) ?_
      refine V.invv (z := mX10_of) (As := [_, _]) dX10_isAhead_9 rfl mlRX10_175 okX10_of npX10_of rfl rfl rfl ⟨by decide, by decide⟩ (Nat.le_of_ble_eq_true rfl) rfl (Nat.le_of_ble_eq_true rfl) (c_of  (by first | assumption | decide | omega) (by first | assumption | decide | omega) ?_)
      show V rS g (d + 1) mX10_isAhead 12 [some (.ref 83), some (.int (nI a)), some (.int (nI b))] [.int ((M) 84 (108 + 7 * b + 4)), .int (M 84 (108 + 7 * a + 4))] ((M)) Q
      refine V.ic_lt (tgt := 35) dX10_isAhead_12 (by decide) (fun q => absurd q (h1)) (fun c12 => ?_)
      refine V.aload_n dX10_isAhead_15 rfl (i := 0) rfl ?_
      refine V.iload_n dX10_isAhead_16 rfl (i := 1) rfl ?_
      refine V.iconst dX10_isAhead_17 (v := 4) (by decide) ?_
      refine V.invv (z := mX10_of) (As := [_, _]) dX10_isAhead_18 rfl mlRX10_175 okX10_of npX10_of rfl rfl rfl ⟨by decide, by decide⟩ (Nat.le_of_ble_eq_true rfl) rfl (Nat.le_of_ble_eq_true rfl) (c_of  (by first | assumption | decide | omega) (by first | assumption | decide | omega) ?_)
      show V rS g (d + 1) mX10_isAhead 21 [some (.ref 83), some (.int (nI a)), some (.int (nI b))] [.int (((M)) 84 (108 + 7 * a + 4))] (((M))) Q
      refine V.aload_n dX10_isAhead_21 rfl (i := 0) rfl ?_
      refine V.iload_n dX10_isAhead_22 rfl (i := 2) rfl ?_
      refine V.iconst dX10_isAhead_23 (v := 4) (by decide) ?_
      refine V.invv (z := mX10_of) (As := [_, _]) dX10_isAhead_24 rfl mlRX10_175 okX10_of npX10_of rfl rfl rfl ⟨by decide, by decide⟩ (Nat.le_of_ble_eq_true rfl) rfl (Nat.le_of_ble_eq_true rfl) (c_of  (by first | assumption | decide | omega) (by first | assumption | decide | omega) ?_)
      show V rS g (d + 1) mX10_isAhead 27 [some (.ref 83), some (.int (nI a)), some (.int (nI b))] [.int ((((M))) 84 (108 + 7 * b + 4)), .int (((M)) 84 (108 + 7 * a + 4))] ((((M)))) Q
      refine V.ic_ne (tgt := 39) dX10_isAhead_27 (by decide) (fun c27 => ?_) (fun q => absurd q (h2))
      refine V.iconst dX10_isAhead_39 (v := 0) (by decide) ?_
      exact V.zret dX10_isAhead_40 rfl (by first | exact Or.inl rfl | exact Or.inr rfl | assumption | exact b2i_zo _ | (repeat' split) <;> first | exact Or.inl rfl | exact Or.inr rfl | assumption | exact b2i_zo _) (hQ)
set_option maxHeartbeats 4000000 in
set_option maxRecDepth 100000 in
theorem l_insX {g : GG} {d : Nat} {Q : Option Value → Mem → Prop} {M0 : Mem} {m b : Nat} {h : Int32} (hb : b < 8) (hm : m < 8) : ∀ (t dn : List Nat) (M : Mem), dn.length + t.length = m → (∀ x ∈ t, x < b) → eqx [91] M0 M → OdOK (M 91) t → TlOK (M 91) m dn → (∀ M', eqx [91] M0 M' → OdOK (M' 91) (dn ++ insR (fun x => M0 84 (108 + 7 * x + 4)) b t) → V rS g (d + 2) mX10_findOrder 84 [some (.ref 83), some (.int h), some (.int (nI b)), none] [] M' Q) → V rS g (d + 2) mX10_findOrder 37 [some (.ref 83), some (.int h), some (.int (nI b)), some (.int (nI t.length))] [] M Q := by
  intro t
  induction t with
  | nil =>
    intro dn M hl ht he h1 h2 hc
    rw [List.length_nil, Nat.add_zero] at hl
    refine V.iload_n dX10_findOrder_37 rfl (i := 3) rfl ?_
    refine V.if_le (tgt := 77) dX10_findOrder_38 (by decide) (fun c38 => ?_) (fun q => absurd ((by decide)) q)
    refine V.aload_n dX10_findOrder_77 rfl (i := 0) rfl ?_
    refine V.getR dX10_findOrder_78 rfl flRX10_32 rfl ⟨by decide, by decide⟩ ?_
    refine V.iload_n dX10_findOrder_81 rfl (i := 3) rfl ?_
    refine V.iload_n dX10_findOrder_82 rfl (i := 2) rfl ?_
    refine V.iastN dX10_findOrder_83 rfl ⟨by decide, by decide⟩ (by first | assumption | decide | omega) (by decide) ?_
    exact V.fg (ls' := [some (.ref 83), some (.int h), some (.int (nI b)), none]) ⟨rfl, rfl, rfl, trivial⟩ (hc _ (he.put (by decide)) (by rw [put_f]; exact ins_fin (t := []) (by simpa using hl) h1 h2))
  | cons x t ih =>
    intro dn M hl ht he h1 h2 hc
    rw [List.length_cons] at hl
    have hx : x < b := ht x List.mem_cons_self
    have h3 : M 91 t.length = nI x := h1.top
    have hl8 : t.length < 8 := by omega
    have hl9 : t.length + 1 < 8 := by omega
    have e84 : M 84 = M0 84 := he 84 (by decide)
    by_cases hcm : (fun x => M0 84 (108 + 7 * x + 4)) x ≤ (fun x => M0 84 (108 + 7 * x + 4)) b
    · refine V.lseq (ls' := [some (.ref 83), some (.int h), some (.int (nI b)), some (.int (nI (t.length + 1)))]) rfl ?_
      refine V.iload_n dX10_findOrder_37 rfl (i := 3) rfl ?_
      refine V.if_le (tgt := 77) dX10_findOrder_38 (by decide) (fun q => absurd q ((nI_nle (by omega) (by omega)))) (fun c38 => ?_)
      refine V.aload_n dX10_findOrder_41 rfl (i := 0) rfl ?_
      refine V.iload_n dX10_findOrder_42 rfl (i := 2) rfl ?_
      refine V.aload_n dX10_findOrder_43 rfl (i := 0) rfl ?_
      refine V.getR dX10_findOrder_44 rfl flRX10_32 rfl ⟨by decide, by decide⟩ ?_
      refine V.iload_n dX10_findOrder_47 rfl (i := 3) rfl ?_
      refine V.iconst dX10_findOrder_48 (v := 1) (by decide) ?_
      refine V.isub dX10_findOrder_49 ?_
      refine V.top (x' := (nI t.length)) ((nI_pred _)) ?_
      refine V.ialdN dX10_findOrder_50 rfl ⟨by decide, by decide⟩ (by first | assumption | decide | omega) (by decide) ?_
      refine V.top (x' := (nI x)) (h3) ?_
      refine V.invv (z := mX10_isAhead) (As := [_, _]) dX10_findOrder_51 rfl mlRX10_258 okX10_isAhead npX10_isAhead rfl rfl rfl ⟨by decide, by decide⟩ (Nat.le_of_ble_eq_true rfl) rfl (Nat.le_of_ble_eq_true rfl) (c_isAhead (a := b) (b := x) (by omega) (by omega) ?_)
      show V rS g (d + 2) mX10_findOrder 54 [some (.ref 83), some (.int h), some (.int (nI b)), some (.int (nI (t.length + 1)))] [.int (b2i (M 84 (108 + 7 * b + 4) < M 84 (108 + 7 * x + 4) ∨ (M 84 (108 + 7 * b + 4) = M 84 (108 + 7 * x + 4) ∧ b < x)))] M Q
      refine V.if_eq (tgt := 77) dX10_findOrder_54 (by decide) (fun c54 => ?_) (fun q => absurd ((b2i_f (fun z => z.elim (fun y => Int32.not_lt.mpr hcm (by rw [e84] at y; exact y)) (fun y => by omega)))) q)
      refine V.aload_n dX10_findOrder_77 rfl (i := 0) rfl ?_
      refine V.getR dX10_findOrder_78 rfl flRX10_32 rfl ⟨by decide, by decide⟩ ?_
      refine V.iload_n dX10_findOrder_81 rfl (i := 3) rfl ?_
      refine V.iload_n dX10_findOrder_82 rfl (i := 2) rfl ?_
      refine V.iastN dX10_findOrder_83 rfl ⟨by decide, by decide⟩ (by first | assumption | decide | omega) (by decide) ?_
      exact V.fg (ls' := [some (.ref 83), some (.int h), some (.int (nI b)), none]) ⟨rfl, rfl, rfl, trivial⟩ (hc _ (he.put (by decide)) (by rw [put_f, insR, if_pos hcm]; exact ins_fin (t := x :: t) (by rw [List.length_cons]; omega) h1 h2))
    · refine V.lseq (ls' := [some (.ref 83), some (.int h), some (.int (nI b)), some (.int (nI (t.length + 1)))]) rfl ?_
      refine V.iload_n dX10_findOrder_37 rfl (i := 3) rfl ?_
      refine V.if_le (tgt := 77) dX10_findOrder_38 (by decide) (fun q => absurd q ((nI_nle (by omega) (by omega)))) (fun c38 => ?_)
      refine V.aload_n dX10_findOrder_41 rfl (i := 0) rfl ?_
      refine V.iload_n dX10_findOrder_42 rfl (i := 2) rfl ?_
      refine V.aload_n dX10_findOrder_43 rfl (i := 0) rfl ?_
      refine V.getR dX10_findOrder_44 rfl flRX10_32 rfl ⟨by decide, by decide⟩ ?_
      refine V.iload_n dX10_findOrder_47 rfl (i := 3) rfl ?_
      refine V.iconst dX10_findOrder_48 (v := 1) (by decide) ?_
      refine V.isub dX10_findOrder_49 ?_
      refine V.top (x' := (nI t.length)) ((nI_pred _)) ?_
      refine V.ialdN dX10_findOrder_50 rfl ⟨by decide, by decide⟩ (by first | assumption | decide | omega) (by decide) ?_
      refine V.top (x' := (nI x)) (h3) ?_
      refine V.invv (z := mX10_isAhead) (As := [_, _]) dX10_findOrder_51 rfl mlRX10_258 okX10_isAhead npX10_isAhead rfl rfl rfl ⟨by decide, by decide⟩ (Nat.le_of_ble_eq_true rfl) rfl (Nat.le_of_ble_eq_true rfl) (c_isAhead (a := b) (b := x) (by omega) (by omega) ?_)
      show V rS g (d + 2) mX10_findOrder 54 [some (.ref 83), some (.int h), some (.int (nI b)), some (.int (nI (t.length + 1)))] [.int (b2i (M 84 (108 + 7 * b + 4) < M 84 (108 + 7 * x + 4) ∨ (M 84 (108 + 7 * b + 4) = M 84 (108 + 7 * x + 4) ∧ b < x)))] M Q
      refine V.if_eq (tgt := 77) dX10_findOrder_54 (by decide) (fun q => absurd q ((fun z => b2i_0.mp z (Or.inl (by rw [e84]; exact Int32.not_le.mp hcm))))) (fun c54 => ?_)
      refine V.aload_n dX10_findOrder_57 rfl (i := 0) rfl ?_
      refine V.getR dX10_findOrder_58 rfl flRX10_32 rfl ⟨by decide, by decide⟩ ?_
      refine V.iload_n dX10_findOrder_61 rfl (i := 3) rfl ?_
      refine V.aload_n dX10_findOrder_62 rfl (i := 0) rfl ?_
      refine V.getR dX10_findOrder_63 rfl flRX10_32 rfl ⟨by decide, by decide⟩ ?_
      refine V.iload_n dX10_findOrder_66 rfl (i := 3) rfl ?_
      refine V.iconst dX10_findOrder_67 (v := 1) (by decide) ?_
      refine V.isub dX10_findOrder_68 ?_
      refine V.top (x' := (nI t.length)) ((nI_pred _)) ?_
      refine V.ialdN dX10_findOrder_69 rfl ⟨by decide, by decide⟩ (by first | assumption | decide | omega) (by decide) ?_
      refine V.top (x' := (nI x)) (h3) ?_
      refine V.iastN dX10_findOrder_70 rfl ⟨by decide, by decide⟩ (by first | assumption | decide | omega) (by decide) ?_
      refine V.iinc dX10_findOrder_71 rfl (v := (nI t.length)) (pk_m1 _) (by decide) (fun _ h => by cases h; exact Or.inl rfl) rfl ?_
      refine V.goto dX10_findOrder_74 (tgt := 37) (by decide) ?_
      exact ih (dn ++ [x]) _ (by rw [List.length_append]; show dn.length + 1 + t.length = m; omega) (fun y hy => ht y (List.mem_cons_of_mem _ hy)) (he.put (by decide)) (h1.tail.cong (fun k hk => by rw [put_n (fun q => by omega)])) (fun j hj => by rw [List.length_append] at hj; by_cases q : j = dn.length; subst q; rw [show m - dn.length = t.length + 1 by omega, put_s]; simp; rw [put_n (fun z => by have hj2 : j < dn.length + 1 := hj; omega), h2 j (by have hj2 : j < dn.length + 1 := hj; omega), gd_l (by have hj2 : j < dn.length + 1 := hj; omega)]) (fun M' h' ho => hc M' h' (by rw [insR, if_neg hcm]; rw [List.append_assoc] at ho; exact ho))
set_option maxHeartbeats 4000000 in
set_option maxRecDepth 100000 in
theorem l_lnX {g : GG} {d : Nat} {Q : Option Value → Mem → Prop} {M0 : Mem} {h : Int32} {n : Nat} (hn : M0 84 103 = nI n) (h8 : n ≤ 8) (hB : ∀ b, b < n → BB M0 b) (hc : ∀ M', KpO M0 M' → M' 83 15 = nI (odR (fun x => M0 84 (108 + 7 * x + 4)) (stR M0 h) n).length → OdOK (M' 91) (odR (fun x => M0 84 (108 + 7 * x + 4)) (stR M0 h) n) → V rS g (d + 2) mX10_findOrder 100 [some (.ref 83), some (.int h), none, none] [] M' Q) : ∀ (k i : Nat) (M : Mem) (l3 : Option Value), i + k = n → KpO M0 M → M 83 15 = nI (odR (fun x => M0 84 (108 + 7 * x + 4)) (stR M0 h) i).length → OdOK (M 91) (odR (fun x => M0 84 (108 + 7 * x + 4)) (stR M0 h) i) → V rS g (d + 2) mX10_findOrder 12 [some (.ref 83), some (.int h), some (.int (nI i)), l3] [] M Q := by
  intro k
  induction k with
  | zero =>
    intro i M l3 hk hM h1 h2
    obtain rfl : i = n := by omega
    refine V.fg (ls' := [some (.ref 83), some (.int h), some (.int (nI i)), none]) ⟨rfl, rfl, rfl, trivial⟩ ?_
    refine V.iload_n dX10_findOrder_12 rfl (i := 2) rfl ?_
    refine V.aload_n dX10_findOrder_13 rfl (i := 0) rfl ?_
    refine V.getR dX10_findOrder_14 rfl flRX10_7 rfl ⟨by decide, by decide⟩ ?_
    refine V.bipush dX10_findOrder_17 (v := 103) (by decide) ?_
    refine V.top (x' := nI 103) (by decide) ?_
    refine V.ialdN dX10_findOrder_19 rfl ⟨by decide, by decide⟩ (by first | assumption | decide | omega) (by decide) ?_
    refine V.top (x' := (nI i)) ((by rw [hM.d]; exact hn)) ?_
    refine V.ic_ge (tgt := 100) dX10_findOrder_20 (by decide) (fun c20 => ?_) (fun q => absurd ((Int32.le_refl _)) q)
    exact V.fg (ls' := [some (.ref 83), some (.int h), none, none]) ⟨rfl, rfl, trivial⟩ (hc M hM h1 h2)
  | succ k ih =>
    intro i M l3 hk hM h1 h2
    have hl := odR_len (off := (fun x => M0 84 (108 + 7 * x + 4))) (p := stR M0 h) i
    have hl8 : (odR (fun x => M0 84 (108 + 7 * x + 4)) (stR M0 h) i).length < 8 := by omega
    refine V.fg (ls' := [some (.ref 83), some (.int h), some (.int (nI i)), none]) ⟨rfl, rfl, rfl, trivial⟩ ?_
    have hst : b2i (strk (M 84 (108 + 7 * i + 0)) (M 84 (108 + 7 * i + 1)) (M 84 (108 + 7 * i + 6)) h = true) = b2i (stR M0 h i = true) := by rw [hM.d]; rfl
    by_cases hs : stR M0 h i = true
    · skip
      refine V.iload_n dX10_findOrder_12 rfl (i := 2) rfl ?_
      refine V.aload_n dX10_findOrder_13 rfl (i := 0) rfl ?_
      refine V.getR dX10_findOrder_14 rfl flRX10_7 rfl ⟨by decide, by decide⟩ ?_
      refine V.bipush dX10_findOrder_17 (v := 103) (by decide) ?_
      refine V.top (x' := nI 103) (by decide) ?_
      refine V.ialdN dX10_findOrder_19 rfl ⟨by decide, by decide⟩ (by first | assumption | decide | omega) (by decide) ?_
      refine V.top (x' := (nI n)) ((by rw [hM.d]; exact hn)) ?_
      refine V.ic_ge (tgt := 100) dX10_findOrder_20 (by decide) (fun q => absurd q ((nI_ge (a := i) (b := n) (by omega) (by omega)))) (fun c20 => ?_)
      refine V.aload_n dX10_findOrder_23 rfl (i := 0) rfl ?_
      refine V.iload_n dX10_findOrder_24 rfl (i := 2) rfl ?_
      refine V.iload_n dX10_findOrder_25 rfl (i := 1) rfl ?_
      refine V.invv (z := mX10_isStruck) (As := [_, _]) dX10_findOrder_26 rfl mlRX10_194 okX10_isStruck npX10_isStruck rfl rfl rfl ⟨by decide, by decide⟩ (Nat.le_of_ble_eq_true rfl) rfl (Nat.le_of_ble_eq_true rfl) (c_struck  (by omega) (by rw [hM.d]; exact (hB i (by omega)).2) ?_)
      show V rS g (d + 2) mX10_findOrder 29 [some (.ref 83), some (.int h), some (.int (nI i)), none] [.int (b2i (strk (M 84 (108 + 7 * i + 0)) (M 84 (108 + 7 * i + 1)) (M 84 (108 + 7 * i + 6)) h = true))] M Q
      refine V.top (x' := (b2i (stR M0 h i = true))) (hst) ?_
      refine V.if_eq (tgt := 94) dX10_findOrder_29 (by decide) (fun q => absurd q ((fun z => b2i_0.mp z hs))) (fun c29 => ?_)
      refine V.aload_n dX10_findOrder_32 rfl (i := 0) rfl ?_
      refine V.getI dX10_findOrder_33 rfl flRX10_255 rfl ⟨by decide, by decide⟩ ?_
      refine V.top (x' := (nI (odR (fun x => M0 84 (108 + 7 * x + 4)) (stR M0 h) i).length)) (h1) ?_
      refine V.istore_n dX10_findOrder_36 rfl (i := 3) (by decide) (fun _ h => by cases h; exact Or.inl rfl) rfl ?_
      refine l_insX (M0 := M) (m := (odR (fun x => M0 84 (108 + 7 * x + 4)) (stR M0 h) i).length) (show i < 8 by omega) hl8 (odR (fun x => M0 84 (108 + 7 * x + 4)) (stR M0 h) i) [] M (by simp) (fun x hx => odR_lt hx) eqx.rf h2 (fun j hj => absurd hj (Nat.not_lt_zero _)) (fun M' h' ho => ?_)
      have hKo : KpO M M' := ⟨fun c a b e => h' c (by simp; exact b), fun j _ => by rw [h' 83 (by decide)]⟩
      rw [List.nil_append] at ho
      refine V.aload_n dX10_findOrder_84 rfl (i := 0) rfl ?_
      refine V.dup dX10_findOrder_85 rfl ?_
      refine V.getI dX10_findOrder_86 rfl flRX10_255 rfl ⟨by decide, by decide⟩ ?_
      refine V.top (x' := (nI (odR (fun x => M0 84 (108 + 7 * x + 4)) (stR M0 h) i).length)) ((by rw [h' 83 (by decide)]; exact h1)) ?_
      refine V.iconst dX10_findOrder_89 (v := 1) (by decide) ?_
      refine V.iadd dX10_findOrder_90 ?_
      refine V.top (x' := (nI (((odR (fun x => M0 84 (108 + 7 * x + 4)) (stR M0 h) i).length) + 1))) (nI_add ((odR (fun x => M0 84 (108 + 7 * x + 4)) (stR M0 h) i).length) 1) ?_
      refine V.putI dX10_findOrder_91 rfl fpRX10_255 rfl ⟨by decide, by decide⟩ ?_
      refine V.iinc dX10_findOrder_94 rfl (v := (nI (i + 1))) (nI_1 _) (by decide) (fun _ h => by cases h; exact Or.inl rfl) rfl ?_
      refine V.goto dX10_findOrder_97 (tgt := 12) (by decide) ?_
      exact ih (i + 1) _ _ (by omega) ((hM.tr hKo).p15) (by rw [put_s, odR, if_pos hs, insR_len]) (by rw [put_cell (by decide), odR, if_pos hs]; rw [show (fun x => M 84 (108 + 7 * x + 4)) = (fun x => M0 84 (108 + 7 * x + 4)) from by rw [hM.d]] at ho; exact ho)
    · skip
      refine V.iload_n dX10_findOrder_12 rfl (i := 2) rfl ?_
      refine V.aload_n dX10_findOrder_13 rfl (i := 0) rfl ?_
      refine V.getR dX10_findOrder_14 rfl flRX10_7 rfl ⟨by decide, by decide⟩ ?_
      refine V.bipush dX10_findOrder_17 (v := 103) (by decide) ?_
      refine V.top (x' := nI 103) (by decide) ?_
      refine V.ialdN dX10_findOrder_19 rfl ⟨by decide, by decide⟩ (by first | assumption | decide | omega) (by decide) ?_
      refine V.top (x' := (nI n)) ((by rw [hM.d]; exact hn)) ?_
      refine V.ic_ge (tgt := 100) dX10_findOrder_20 (by decide) (fun q => absurd q ((nI_ge (a := i) (b := n) (by omega) (by omega)))) (fun c20 => ?_)
      refine V.aload_n dX10_findOrder_23 rfl (i := 0) rfl ?_
      refine V.iload_n dX10_findOrder_24 rfl (i := 2) rfl ?_
      refine V.iload_n dX10_findOrder_25 rfl (i := 1) rfl ?_
      refine V.invv (z := mX10_isStruck) (As := [_, _]) dX10_findOrder_26 rfl mlRX10_194 okX10_isStruck npX10_isStruck rfl rfl rfl ⟨by decide, by decide⟩ (Nat.le_of_ble_eq_true rfl) rfl (Nat.le_of_ble_eq_true rfl) (c_struck  (by omega) (by rw [hM.d]; exact (hB i (by omega)).2) ?_)
      show V rS g (d + 2) mX10_findOrder 29 [some (.ref 83), some (.int h), some (.int (nI i)), none] [.int (b2i (strk (M 84 (108 + 7 * i + 0)) (M 84 (108 + 7 * i + 1)) (M 84 (108 + 7 * i + 6)) h = true))] M Q
      refine V.top (x' := (b2i (stR M0 h i = true))) (hst) ?_
      refine V.if_eq (tgt := 94) dX10_findOrder_29 (by decide) (fun c29 => ?_) (fun q => absurd ((b2i_f hs)) q)
      refine V.iinc dX10_findOrder_94 rfl (v := (nI (i + 1))) (nI_1 _) (by decide) (fun _ h => by cases h; exact Or.inl rfl) rfl ?_
      refine V.goto dX10_findOrder_97 (tgt := 12) (by decide) ?_
      exact ih (i + 1) M _ (by omega) hM (by rw [odR, if_neg hs]; exact h1) (by rw [odR, if_neg hs]; exact h2)
set_option maxHeartbeats 4000000 in
set_option maxRecDepth 100000 in
theorem l_ab1 {g : GG} {d : Nat} {Q : Option Value → Mem → Prop} {hp : Nat → Nat → Bool} {wy : Nat → Nat → Int32} {n ne m : Nat} {od : Nat → Nat} {M0 : Mem} {h : Int32} (hH : HdR M0 hp wy n ne) (hne : M0 84 104 = nI ne) (h10 : ne ≤ 10) (hO : OdX M0 od m n) {i : Nat} (hi : i < m) (hc : ∀ M' : Mem, (∀ c, c ≠ 92 → M' c = M0 c) → (∀ i' j', i' < i + 1 → i' < j' → j' < m → M' 92 (8 * i' + j') = (fun a b => gpR hp wy (M0 84 101) a b ne) (od i') (od j')) → V rS g (d + 2) mX10_findOrder 155 [some (.ref 83), some (.int h), some (.int (nI i)), none] [] M' Q) : ∀ (k j : Nat) (M : Mem), j + k = m → i < j → (∀ c, c ≠ 92 → M c = M0 c) → (∀ i' j', i' < j' → j' < m → (i' < i ∨ (i' = i ∧ j' < j)) → M 92 (8 * i' + j') = (fun a b => gpR hp wy (M0 84 101) a b ne) (od i') (od j')) → V rS g (d + 2) mX10_findOrder 114 [some (.ref 83), some (.int h), some (.int (nI i)), some (.int (nI j))] [] M Q := by
  obtain ⟨o1, o2, o3, o4, o5⟩ := hO
  intro k
  induction k with
  | zero =>
    intro j M hk hij hM h1
    obtain rfl : j = m := by omega
    refine V.iload_n dX10_findOrder_114 rfl (i := 3) rfl ?_
    refine V.aload_n dX10_findOrder_115 rfl (i := 0) rfl ?_
    refine V.getI dX10_findOrder_116 rfl flRX10_255 rfl ⟨by decide, by decide⟩ ?_
    refine V.top (x' := (nI j)) ((by rw [hM 83 (by decide)]; exact o1)) ?_
    refine V.ic_ge (tgt := 155) dX10_findOrder_119 (by decide) (fun c119 => ?_) (fun q => absurd ((Int32.le_refl _)) q)
    exact V.fg (ls' := [some (.ref 83), some (.int h), some (.int (nI i)), none]) ⟨rfl, rfl, rfl, trivial⟩ (hc M hM (fun i' j' h2 h3 h4 => h1 i' j' h3 h4 (by omega)))
  | succ k ih =>
    intro j M hk hij hM h1
    have hoi := o4 i hi
    have hoj := o4 j (by omega)
    have hix : 8 * i + j < 64 := by omega
    have hXi : HdX M hp wy ne (od i) := fun e he => by rw [hM 90 (by decide), hM 89 (by decide)]; exact hH (od i) e hoi.2 he
    have hXj : HdX M hp wy ne (od j) := fun e he => by rw [hM 90 (by decide), hM 89 (by decide)]; exact hH (od j) e hoj.2 he
    refine V.iload_n dX10_findOrder_114 rfl (i := 3) rfl ?_
    refine V.aload_n dX10_findOrder_115 rfl (i := 0) rfl ?_
    refine V.getI dX10_findOrder_116 rfl flRX10_255 rfl ⟨by decide, by decide⟩ ?_
    refine V.top (x' := (nI m)) ((by rw [hM 83 (by decide)]; exact o1)) ?_
    refine V.ic_ge (tgt := 155) dX10_findOrder_119 (by decide) (fun q => absurd q ((nI_ge (a := j) (b := m) (by omega) (by omega)))) (fun c119 => ?_)
    refine V.aload_n dX10_findOrder_122 rfl (i := 0) rfl ?_
    refine V.getR dX10_findOrder_123 rfl flRX10_35 rfl ⟨by decide, by decide⟩ ?_
    refine V.bipush dX10_findOrder_126 (v := 8) (by decide) ?_
    refine V.iload_n dX10_findOrder_128 rfl (i := 2) rfl ?_
    refine V.imul dX10_findOrder_129 ?_
    refine V.top (x' := (nI (8 * i))) (pk_mul 8 i) ?_
    refine V.iload_n dX10_findOrder_130 rfl (i := 3) rfl ?_
    refine V.iadd dX10_findOrder_131 ?_
    refine V.top (x' := (nI ((8 * i) + j))) (nI_add (8 * i) j) ?_
    refine V.aload_n dX10_findOrder_132 rfl (i := 0) rfl ?_
    refine V.aload_n dX10_findOrder_133 rfl (i := 0) rfl ?_
    refine V.getR dX10_findOrder_134 rfl flRX10_32 rfl ⟨by decide, by decide⟩ ?_
    refine V.iload_n dX10_findOrder_137 rfl (i := 2) rfl ?_
    refine V.ialdN dX10_findOrder_138 rfl ⟨by decide, by decide⟩ (by omega) (by decide) ?_
    refine V.top (x' := (nI (od i))) ((by rw [hM 91 (by decide)]; exact hoi.1)) ?_
    refine V.aload_n dX10_findOrder_139 rfl (i := 0) rfl ?_
    refine V.getR dX10_findOrder_140 rfl flRX10_32 rfl ⟨by decide, by decide⟩ ?_
    refine V.iload_n dX10_findOrder_143 rfl (i := 3) rfl ?_
    refine V.ialdN dX10_findOrder_144 rfl ⟨by decide, by decide⟩ (by omega) (by decide) ?_
    refine V.top (x' := (nI (od j))) ((by rw [hM 91 (by decide)]; exact hoj.1)) ?_
    refine V.invv (z := mX10_apartOf) (As := [_, _]) dX10_findOrder_145 rfl mlRX10_252 okX10_apartOf npX10_apartOf rfl rfl rfl ⟨by decide, by decide⟩ (Nat.le_of_ble_eq_true rfl) rfl (Nat.le_of_ble_eq_true rfl) (c_apR hXi hXj (by omega) (by omega) h10 (by rw [hM 84 (by decide)]; exact hne) ?_)
    show V rS g (d + 2) mX10_findOrder 148 [some (.ref 83), some (.int h), some (.int (nI i)), some (.int (nI j))] [.int (gpR hp wy (M 84 101) (od i) (od j) ne), .int (nI ((8 * i) + j)), .ref 92] M Q
    refine V.top (x' := ((fun a b => gpR hp wy (M0 84 101) a b ne) (od i) (od j))) ((by rw [hM 84 (by decide)])) ?_
    refine V.iastN dX10_findOrder_148 rfl ⟨by decide, by decide⟩ (by first | assumption | decide | omega) (by decide) ?_
    refine V.iinc dX10_findOrder_149 rfl (v := (nI (j + 1))) (nI_1 _) (by decide) (fun _ h => by cases h; exact Or.inl rfl) rfl ?_
    refine V.goto dX10_findOrder_152 (tgt := 114) (by decide) ?_
    exact ih (j + 1) _ (by omega) (by omega) (fun c hc' => by rw [put_cell hc']; exact hM c hc') (fun i' j' h2 h3 h4 => by by_cases q : i' = i ∧ j' = j; obtain ⟨rfl, rfl⟩ := q; exact put_s; rw [put_n (fun z => by omega)]; exact h1 i' j' h2 h3 (by omega))
set_option maxHeartbeats 4000000 in
set_option maxRecDepth 100000 in
theorem l_ab {g : GG} {d : Nat} {Q : Option Value → Mem → Prop} {hp : Nat → Nat → Bool} {wy : Nat → Nat → Int32} {n ne m : Nat} {od : Nat → Nat} {M0 : Mem} {h : Int32} (hH : HdR M0 hp wy n ne) (hne : M0 84 104 = nI ne) (h10 : ne ≤ 10) (hO : OdX M0 od m n) (hQ : ∀ M' : Mem, (∀ c, c ≠ 92 → M' c = M0 c) → ApX M' (fun a b => gpR hp wy (M0 84 101) a b ne) od m → Q none M') : ∀ (k i : Nat) (M : Mem) (l3 : Option Value), i + k = m → (∀ c, c ≠ 92 → M c = M0 c) → (∀ i' j', i' < i → i' < j' → j' < m → M 92 (8 * i' + j') = (fun a b => gpR hp wy (M0 84 101) a b ne) (od i') (od j')) → V rS g (d + 2) mX10_findOrder 102 [some (.ref 83), some (.int h), some (.int (nI i)), l3] [] M Q := by
  have o1 := hO.1
  have o2 := hO.2.1
  intro k
  induction k with
  | zero =>
    intro i M l3 hk hM h1
    obtain rfl : i = m := by omega
    refine V.fg (ls' := [some (.ref 83), some (.int h), some (.int (nI i)), none]) ⟨rfl, rfl, rfl, trivial⟩ ?_
    refine V.iload_n dX10_findOrder_102 rfl (i := 2) rfl ?_
    refine V.aload_n dX10_findOrder_103 rfl (i := 0) rfl ?_
    refine V.getI dX10_findOrder_104 rfl flRX10_255 rfl ⟨by decide, by decide⟩ ?_
    refine V.top (x' := (nI i)) ((by rw [hM 83 (by decide)]; exact o1)) ?_
    refine V.ic_ge (tgt := 161) dX10_findOrder_107 (by decide) (fun c107 => ?_) (fun q => absurd ((Int32.le_refl _)) q)
    exact V.vret dX10_findOrder_161 rfl (hQ M hM (fun i' j' h2 h3 => h1 i' j' (by omega) h2 h3))
  | succ k ih =>
    intro i M l3 hk hM h1
    have hHM : HdR M hp wy n ne := fun b e hb he => by rw [hM 90 (by decide), hM 89 (by decide)]; exact hH b e hb he
    refine V.fg (ls' := [some (.ref 83), some (.int h), some (.int (nI i)), none]) ⟨rfl, rfl, rfl, trivial⟩ ?_
    refine V.iload_n dX10_findOrder_102 rfl (i := 2) rfl ?_
    refine V.aload_n dX10_findOrder_103 rfl (i := 0) rfl ?_
    refine V.getI dX10_findOrder_104 rfl flRX10_255 rfl ⟨by decide, by decide⟩ ?_
    refine V.top (x' := (nI m)) ((by rw [hM 83 (by decide)]; exact o1)) ?_
    refine V.ic_ge (tgt := 161) dX10_findOrder_107 (by decide) (fun q => absurd q ((nI_ge (a := i) (b := m) (by omega) (by omega)))) (fun c107 => ?_)
    refine V.iload_n dX10_findOrder_110 rfl (i := 2) rfl ?_
    refine V.iconst dX10_findOrder_111 (v := 1) (by decide) ?_
    refine V.iadd dX10_findOrder_112 ?_
    refine V.top (x' := (nI (i + 1))) (nI_add i 1) ?_
    refine V.istore_n dX10_findOrder_113 rfl (i := 3) (by decide) (fun _ h => by cases h; exact Or.inl rfl) rfl ?_
    refine l_ab1 hH hne h10 hO (show i < m by omega) (fun M' hM' h2 => ?_) (m - (i + 1)) (i + 1) M (by omega) (by omega) hM (fun i' j' h2 h3 h4 => h1 i' j' (by omega) h2 h3)
    refine V.iinc dX10_findOrder_155 rfl (v := (nI (i + 1))) (nI_1 _) (by decide) (fun _ h => by cases h; exact Or.inl rfl) rfl ?_
    refine V.goto dX10_findOrder_158 (tgt := 102) (by decide) ?_
    exact ih (i + 1) M' _ (by omega) hM' h2
def odK (M : Mem) (h : Int32) (n k : Nat) : Nat := (odR (offR M) (stR M h) n).getD ((odR (offR M) (stR M h) n).length - 1 - k) 0
def odL (M : Mem) (h : Int32) (n : Nat) : Nat := (odR (offR M) (stR M h) n).length
theorem odK_eq {M M' : Mem} {h : Int32} {n : Nat} (e : M' 84 = M 84) : odK M' h n = odK M h n ∧ odL M' h n = odL M h n := by unfold odK odL offR stR; rw [e]; exact ⟨rfl, rfl⟩

set_option maxHeartbeats 4000000 in
set_option maxRecDepth 100000 in
theorem c_findOrder {g : GG} {d : Nat} {M : Mem} {Q : Option Value → Mem → Prop} {S : List Int32} {n ne : Nat} {h : Int32} (hV : VR S M n ne) (hQ : ∀ M', KpF M M' → OdX M' (odK M h n) (odL M h n) n → ApX M' (fun a b => gpR (hpR S M h) (wyR M) (M 84 101) a b ne) (odK M h n) (odL M h n) → Q none M') : V rS g (d + 66) mX10_findOrder 0 [some (.ref 83), some (.int h), none, none] [] M Q := by
  have h8 := hV.2.1
  refine V.aload_n dX10_findOrder_0 rfl (i := 0) rfl ?_
  refine V.iload_n dX10_findOrder_1 rfl (i := 1) rfl ?_
  refine V.invv (z := mX10_hearsAll) (As := [_]) dX10_findOrder_2 rfl mlRX10_238 okX10_hearsAll npX10_hearsAll rfl rfl rfl ⟨by decide, by decide⟩ (Nat.le_of_ble_eq_true rfl) rfl (Nat.le_of_ble_eq_true rfl) (c_all hV (fun M1 hM1 hH1 => ?_))
  show V rS g (d + 66) mX10_findOrder 5 [some (.ref 83), some (.int h), none, none] [] M1 Q
  refine V.aload_n dX10_findOrder_5 rfl (i := 0) rfl ?_
  refine V.iconst dX10_findOrder_6 (v := 0) (by decide) ?_
  refine V.putI dX10_findOrder_7 rfl fpRX10_255 rfl ⟨by decide, by decide⟩ ?_
  refine V.iconst dX10_findOrder_10 (v := 0) (by decide) ?_
  refine V.istore_n dX10_findOrder_11 rfl (i := 2) (by decide) (fun _ h => by cases h; exact Or.inl rfl) rfl ?_
  refine l_lnX (d := d + 64) (M0 := put M1 83 15 0) (n := n) (by rw [put_cell (by decide), hM1.d]; exact hV.1) h8 (fun b hb => ((hV.2.2.2.2.2.2.1 b hb).eq hM1.d).eq (put_cell (by decide))) (fun M2 hM2 h15 h91 => ?_) n 0 _ _ (by omega) KpO.rf put_s (fun k hk => absurd hk (Nat.not_lt_zero _))
  have e84 : put M1 83 15 0 84 = M 84 := by rw [put_cell (by decide), hM1.d]
  have hod : odR (fun x => put M1 83 15 0 84 (108 + 7 * x + 4)) (stR (put M1 83 15 0) h) n = (odR (offR M) (stR M h) n) := by unfold offR stR; rw [e84]
  rw [hod] at h15 h91
  have hKo : KpO M1 M2 := (KpO.rf.p15).tr hM2
  have hOd := Od_of h91 (fun x hx => odR_lt hx) (odR_nd n)
  have hlen := odR_len (off := offR M) (p := stR M h) n
  have hO : OdX M2 (odK M h n) (odL M h n) n := ⟨h15, by unfold odL; omega, h8, hOd.1, hOd.2⟩
  have hH2 : HdR M2 (hpR S M h) (wyR M) n ne := fun b e hb he => by rw [hKo.1 90 (by decide) (by decide) (by decide), hKo.1 89 (by decide) (by decide) (by decide)]; exact hH1 b e hb he
  have hF : KpF M M2 := hM1.f.o hKo
  refine V.fg (ls' := [some (.ref 83), some (.int h), none, none]) ⟨rfl, rfl, trivial⟩ ?_
  refine V.iconst dX10_findOrder_100 (v := 0) (by decide) ?_
  refine V.istore_n dX10_findOrder_101 rfl (i := 2) (by decide) (fun _ h => by cases h; exact Or.inl rfl) rfl ?_
  refine l_ab (d := d + 64) hH2 (by rw [hF.d]; exact hV.2.2.1) hV.2.2.2.1 hO (fun M3 hM3 hA => ?_) (odL M h n) 0 M2 _ (by omega) (fun _ _ => rfl) (fun i' _ z => absurd z (Nat.not_lt_zero _))
  refine hQ M3 ⟨fun c a b x y z w => (hM3 c w).trans (hF.1 c a b x y z w), fun j hj => by rw [hM3 83 (by decide)]; exact hF.2 j hj⟩ ?_ ?_
  · unfold OdX
    rw [hM3 83 (by decide), hM3 91 (by decide)]
    exact hO
  · rw [hF.d] at hA
    exact hA

