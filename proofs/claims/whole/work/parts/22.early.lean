/-! ===== Slate: early, late ===== -/
def odF (r : List Nat) (k : Nat) : Nat := r.getD (r.length - 1 - k) 0
theorem OdOK.at {f : Nat → Int32} {r : List Nat} (h : OdOK f r) {k : Nat} (hk : k < r.length) : f k = nI (odF r k) := by
  have := h (r.length - 1 - k) (by omega)
  rw [show r.length - 1 - (r.length - 1 - k) = k by omega] at this
  exact this
/-- the least offset of the j-th, behind the first i ones (T), where ge tells who holds two apart and G by how much -/
def loS (ge : Nat → Nat → Bool) (G : Nat → Nat → Int32) (off : Nat → Int32) (od : Nat → Nat) (bd : Int32) (T : Nat → Int32) (j : Nat) : Nat → Int32
  | 0 => off (od j) - bd
  | i + 1 => if ge (od i) (od j) = true then (if loS ge G off od bd T j i < T i + G (od i) (od j) then T i + G (od i) (od j) else loS ge G off od bd T j i) else loS ge G off od bd T j i
def loT (ge : Nat → Nat → Bool) (G : Nat → Nat → Int32) (off : Nat → Int32) (od : Nat → Nat) (bd : Int32) : Nat → Nat → Int32
  | 0 => fun _ => 0
  | j + 1 => fun i => if i = j then loS ge G off od bd (loT ge G off od bd j) j j else loT ge G off od bd j i
/-- the greatest offset of the i-th, ahead of the c ones behind it -/
def hiS (ge : Nat → Nat → Bool) (G : Nat → Nat → Int32) (off : Nat → Int32) (od : Nat → Nat) (bd : Int32) (T : Nat → Int32) (i : Nat) : Nat → Int32
  | 0 => off (od i) + bd
  | c + 1 => if ge (od i) (od (i + 1 + c)) = true then (if T (i + 1 + c) - G (od i) (od (i + 1 + c)) < hiS ge G off od bd T i c then T (i + 1 + c) - G (od i) (od (i + 1 + c)) else hiS ge G off od bd T i c) else hiS ge G off od bd T i c
def hiT (ge : Nat → Nat → Bool) (G : Nat → Nat → Int32) (off : Nat → Int32) (od : Nat → Nat) (bd : Int32) (m : Nat) : Nat → Nat → Int32
  | 0 => fun _ => 0
  | c + 1 => fun x => if x = m - 1 - c then hiS ge G off od bd (hiT ge G off od bd m c) (m - 1 - c) c else hiT ge G off od bd m c x
theorem loT_s {ge : Nat → Nat → Bool} {G : Nat → Nat → Int32} {off : Nat → Int32} {od : Nat → Nat} {bd : Int32} {j : Nat} : loT ge G off od bd (j + 1) j = loS ge G off od bd (loT ge G off od bd j) j j := if_pos rfl
theorem loT_n {ge : Nat → Nat → Bool} {G : Nat → Nat → Int32} {off : Nat → Int32} {od : Nat → Nat} {bd : Int32} {j i : Nat} (h : ¬ i = j) : loT ge G off od bd (j + 1) i = loT ge G off od bd j i := if_neg h
theorem hiT_s {ge : Nat → Nat → Bool} {G : Nat → Nat → Int32} {off : Nat → Int32} {od : Nat → Nat} {bd : Int32} {m c : Nat} : hiT ge G off od bd m (c + 1) (m - 1 - c) = hiS ge G off od bd (hiT ge G off od bd m c) (m - 1 - c) c := if_pos rfl
theorem hiT_n {ge : Nat → Nat → Bool} {G : Nat → Nat → Int32} {off : Nat → Int32} {od : Nat → Nat} {bd : Int32} {m c x : Nat} (h : ¬ x = m - 1 - c) : hiT ge G off od bd m (c + 1) x = hiT ge G off od bd m c x := if_neg h
/-- the order in memory -/
def Od (M : Mem) (od : Nat → Nat) (m n : Nat) : Prop := M 5 3 = nI m ∧ m ≤ 8 ∧ n ≤ 8 ∧ (∀ k, k < m → M 55 k = nI (od k) ∧ od k < n) ∧ ∀ i j, i < m → j < m → od i = od j → i = j
theorem Od.eq {M M' : Mem} {od : Nat → Nat} {m n : Nat} {S : List Nat} (h : Od M od m n) (he : eqx S M M') (h5 : 5 ∉ S) (h55 : 55 ∉ S) : Od M' od m n := by
  unfold Od
  rw [he 5 h5, he 55 h55]
  exact h
def geC (G : Nat → Nat → Int32) (a b : Nat) : Bool := !decide (G a b = -1000000)
theorem geC_t {G : Nat → Nat → Int32} {a b : Nat} (h : ¬ G a b = -1000000) : geC G a b = true := by unfold geC; simp [h]
theorem geC_f {G : Nat → Nat → Int32} {a b : Nat} (h : G a b = -1000000) : ¬ geC G a b = true := by unfold geC; simp [h]

set_option maxHeartbeats 4000000 in
set_option maxRecDepth 100000 in
theorem l_lo1 {g : GG} {d : Nat} {Q : Option Value → Mem → Prop} {M0 : Mem} {hp : Nat → Nat → Bool} {wy : Nat → Nat → Int32} {n ne m : Nat} {od : Nat → Nat} {bd : Int32} (hN : cnts M0 n ne) (hH : Hd M0 hp wy n ne) (hO : Od M0 od m n) {M : Mem} (he : eqx [56] M0 M) {j : Nat} (hj : j < m) (hT : ∀ i, i < j → M 56 (od i) = loT (geC (fun a b => gpF hp wy (M0 1 6) a b ne)) (fun a b => gpF hp wy (M0 1 6) a b ne) (fun x => M0 (30 + x) 4) od bd j i) (hc : ∀ l6, V cS g (d + 2) mX5_goEarly 94 [some (.ref 5), some (.int bd), some (.int (nI j)), some (.int (nI (od j))), some (.int (loS (geC (fun a b => gpF hp wy (M0 1 6) a b ne)) (fun a b => gpF hp wy (M0 1 6) a b ne) (fun x => M0 (30 + x) 4) od bd (loT (geC (fun a b => gpF hp wy (M0 1 6) a b ne)) (fun a b => gpF hp wy (M0 1 6) a b ne) (fun x => M0 (30 + x) 4) od bd j) j j)), some (.int (nI j)), l6] [] M Q) : ∀ (k i : Nat) (l6 : Option Value), i + k = j → V cS g (d + 2) mX5_goEarly 36 [some (.ref 5), some (.int bd), some (.int (nI j)), some (.int (nI (od j))), some (.int (loS (geC (fun a b => gpF hp wy (M0 1 6) a b ne)) (fun a b => gpF hp wy (M0 1 6) a b ne) (fun x => M0 (30 + x) 4) od bd (loT (geC (fun a b => gpF hp wy (M0 1 6) a b ne)) (fun a b => gpF hp wy (M0 1 6) a b ne) (fun x => M0 (30 + x) 4) od bd j) j i)), some (.int (nI i)), l6] [] M Q := by
  intro k
  induction k with
  | zero =>
    intro i l6 hk
    obtain rfl : i = j := by omega
    have h8 := hO.2.1
    refine V.fg (ls' := [some (.ref 5), some (.int bd), some (.int (nI i)), some (.int (nI (od i))), some (.int (loS (geC (fun a b => gpF hp wy (M0 1 6) a b ne)) (fun a b => gpF hp wy (M0 1 6) a b ne) (fun x => M0 (30 + x) 4) od bd (loT (geC (fun a b => gpF hp wy (M0 1 6) a b ne)) (fun a b => gpF hp wy (M0 1 6) a b ne) (fun x => M0 (30 + x) 4) od bd i) i i)), some (.int (nI i)), none]) ⟨rfl, rfl, rfl, rfl, rfl, rfl, trivial⟩ ?_
    refine V.iload dX5_goEarly_36 rfl ?_
    refine V.iload_n dX5_goEarly_38 rfl (i := 2) rfl ?_
    refine V.ic_ge (tgt := 94) dX5_goEarly_39 (by decide) (fun c39 => ?_) (fun q => absurd ((Int32.le_refl _)) q)
    exact hc _
  | succ k ih =>
    intro i l6 hk
    have hn8 := hO.2.2.1
    have hNM : cnts M n ne := hN.eq he (by decide)
    have hHM : Hd M hp wy n ne := ⟨fun e h1 => by rw [he 29 (by decide)]; exact hH.1 e h1, fun b e h1 h2 h3 => by rw [he (46 + b) (by simp; omega)]; exact hH.2 b e h1 h2 h3⟩
    have hOM := hO.eq he (by decide) (by decide)
    obtain ⟨o1, o2, o3, o4, o5⟩ := hOM
    have hi8 : i < 8 := by omega
    have hoi := (o4 i (by omega)).2
    have hoj := (o4 j hj).2
    have hoi8 : od i < 8 := by omega
    refine V.fg (ls' := [some (.ref 5), some (.int bd), some (.int (nI j)), some (.int (nI (od j))), some (.int (loS (geC (fun a b => gpF hp wy (M0 1 6) a b ne)) (fun a b => gpF hp wy (M0 1 6) a b ne) (fun x => M0 (30 + x) 4) od bd (loT (geC (fun a b => gpF hp wy (M0 1 6) a b ne)) (fun a b => gpF hp wy (M0 1 6) a b ne) (fun x => M0 (30 + x) 4) od bd j) j i)), some (.int (nI i)), none]) ⟨rfl, rfl, rfl, rfl, rfl, rfl, trivial⟩ ?_
    refine V.iload dX5_goEarly_36 rfl ?_
    refine V.iload_n dX5_goEarly_38 rfl (i := 2) rfl ?_
    refine V.ic_ge (tgt := 94) dX5_goEarly_39 (by decide) (fun q => absurd q ((nI_ge (a := i) (b := j) (by omega) (by omega)))) (fun c39 => ?_)
    refine V.aload_n dX5_goEarly_42 rfl (i := 0) rfl ?_
    refine V.getR dX5_goEarly_43 rfl flRX5_22 rfl ⟨by decide, by decide⟩ ?_
    refine V.aload_n dX5_goEarly_46 rfl (i := 0) rfl ?_
    refine V.getR dX5_goEarly_47 rfl flRX5_9 rfl ⟨by decide, by decide⟩ ?_
    refine V.iload dX5_goEarly_50 rfl ?_
    refine V.ialdN dX5_goEarly_52 rfl ⟨by decide, by decide⟩ (by first | assumption | decide | omega) (by decide) ?_
    refine V.top (x' := (nI (od i))) (((o4 i (by omega)).1)) ?_
    refine V.iload_n dX5_goEarly_53 rfl (i := 3) rfl ?_
    refine V.invv (z := mX1_gap) (As := [_, _]) dX5_goEarly_54 rfl mlRX5_61 okX1_gap npX1_gap rfl rfl rfl ⟨by decide, by decide⟩ (Nat.le_of_ble_eq_true rfl) rfl (Nat.le_of_ble_eq_true rfl) (c_gap hNM hHM hoi hoj ?_)
    show V cS g (d + 2) mX5_goEarly 57 [some (.ref 5), some (.int bd), some (.int (nI j)), some (.int (nI (od j))), some (.int (loS (geC (fun a b => gpF hp wy (M0 1 6) a b ne)) (fun a b => gpF hp wy (M0 1 6) a b ne) (fun x => M0 (30 + x) 4) od bd (loT (geC (fun a b => gpF hp wy (M0 1 6) a b ne)) (fun a b => gpF hp wy (M0 1 6) a b ne) (fun x => M0 (30 + x) 4) od bd j) j i)), some (.int (nI i)), none] [.int (gpF hp wy (M 1 6) (od i) (od j) ne)] M Q
    refine V.top (x' := (gpF hp wy (M0 1 6) (od i) (od j) ne)) ((by rw [he 1 (by decide)])) ?_
    refine V.istore dX5_goEarly_57 (i := 6) (by decide) (fun _ h => by cases h; exact Or.inl rfl) rfl ?_
    refine V.iload dX5_goEarly_59 rfl ?_
    refine V.ldc dX5_goEarly_61 rfl ctRX5_65 ?_
    refine V.ic_eq (tgt := 88) dX5_goEarly_63 (by decide) (fun c63 => ?_) (fun c63 => ?_)
    · refine V.lseq (ls' := [some (.ref 5), some (.int bd), some (.int (nI j)), some (.int (nI (od j))), some (.int (loS (geC (fun a b => gpF hp wy (M0 1 6) a b ne)) (fun a b => gpF hp wy (M0 1 6) a b ne) (fun x => M0 (30 + x) 4) od bd (loT (geC (fun a b => gpF hp wy (M0 1 6) a b ne)) (fun a b => gpF hp wy (M0 1 6) a b ne) (fun x => M0 (30 + x) 4) od bd j) j (i + 1))), some (.int (nI i)), _]) (by first | (rw [loS, if_neg (geC_f (G := (fun a b => gpF hp wy (M0 1 6) a b ne)) (a := od i) (b := od j) c63)]; try rfl) | (rw [loS, if_pos (geC_t (G := (fun a b => gpF hp wy (M0 1 6) a b ne)) (a := od i) (b := od j) c63)]; try rfl)) ?_
      refine V.iinc dX5_goEarly_88 rfl (v := (nI (i + 1))) (nI_1 _) (by decide) (fun _ h => by cases h; exact Or.inl rfl) rfl ?_
      refine V.goto dX5_goEarly_91 (tgt := 36) (by decide) ?_
      exact ih (i + 1) _ (by omega)
    · refine V.iload dX5_goEarly_66 rfl ?_
      refine V.aload_n dX5_goEarly_68 rfl (i := 0) rfl ?_
      refine V.getR dX5_goEarly_69 rfl flRX5_15 rfl ⟨by decide, by decide⟩ ?_
      refine V.aload_n dX5_goEarly_72 rfl (i := 0) rfl ?_
      refine V.getR dX5_goEarly_73 rfl flRX5_9 rfl ⟨by decide, by decide⟩ ?_
      refine V.iload dX5_goEarly_76 rfl ?_
      refine V.ialdN dX5_goEarly_78 rfl ⟨by decide, by decide⟩ (by first | assumption | decide | omega) (by decide) ?_
      refine V.top (x' := (nI (od i))) (((o4 i (by omega)).1)) ?_
      refine V.ialdN dX5_goEarly_79 rfl ⟨by decide, by decide⟩ (by first | assumption | decide | omega) (by decide) ?_
      refine V.top (x' := (loT (geC (fun a b => gpF hp wy (M0 1 6) a b ne)) (fun a b => gpF hp wy (M0 1 6) a b ne) (fun x => M0 (30 + x) 4) od bd j i)) ((hT i (by omega))) ?_
      refine V.iload dX5_goEarly_80 rfl ?_
      refine V.iadd dX5_goEarly_82 ?_
      refine V.mmax dX5_goEarly_83 rfl mlRX5_66 (Nat.le_of_ble_eq_true rfl) ?_
      refine V.istore dX5_goEarly_86 (i := 4) (by decide) (fun _ h => by cases h; exact Or.inl rfl) rfl ?_
      refine V.lseq (ls' := [some (.ref 5), some (.int bd), some (.int (nI j)), some (.int (nI (od j))), some (.int (loS (geC (fun a b => gpF hp wy (M0 1 6) a b ne)) (fun a b => gpF hp wy (M0 1 6) a b ne) (fun x => M0 (30 + x) 4) od bd (loT (geC (fun a b => gpF hp wy (M0 1 6) a b ne)) (fun a b => gpF hp wy (M0 1 6) a b ne) (fun x => M0 (30 + x) 4) od bd j) j (i + 1))), some (.int (nI i)), _]) (by first | (rw [loS, if_neg (geC_f (G := (fun a b => gpF hp wy (M0 1 6) a b ne)) (a := od i) (b := od j) c63)]; try rfl) | (rw [loS, if_pos (geC_t (G := (fun a b => gpF hp wy (M0 1 6) a b ne)) (a := od i) (b := od j) c63)]; try rfl)) ?_
      refine V.iinc dX5_goEarly_88 rfl (v := (nI (i + 1))) (nI_1 _) (by decide) (fun _ h => by cases h; exact Or.inl rfl) rfl ?_
      refine V.goto dX5_goEarly_91 (tgt := 36) (by decide) ?_
      exact ih (i + 1) _ (by omega)
set_option maxHeartbeats 4000000 in
set_option maxRecDepth 100000 in
theorem l_lo {g : GG} {d : Nat} {Q : Option Value → Mem → Prop} {M0 : Mem} {hp : Nat → Nat → Bool} {wy : Nat → Nat → Int32} {n ne m : Nat} {od : Nat → Nat} {bd : Int32} (hN : cnts M0 n ne) (hH : Hd M0 hp wy n ne) (hO : Od M0 od m n) (hQ : ∀ M', eqx [56] M0 M' → (∀ i, i < m → M' 56 (od i) = loT (geC (fun a b => gpF hp wy (M0 1 6) a b ne)) (fun a b => gpF hp wy (M0 1 6) a b ne) (fun x => M0 (30 + x) 4) od bd m i) → Q none M') : ∀ (k j : Nat) (M : Mem) (l3 l4 l5 l6 : Option Value), j + k = m → eqx [56] M0 M → (∀ i, i < j → M 56 (od i) = loT (geC (fun a b => gpF hp wy (M0 1 6) a b ne)) (fun a b => gpF hp wy (M0 1 6) a b ne) (fun x => M0 (30 + x) 4) od bd j i) → V cS g (d + 2) mX5_goEarly 2 [some (.ref 5), some (.int bd), some (.int (nI j)), l3, l4, l5, l6] [] M Q := by
  intro k
  induction k with
  | zero =>
    intro j M l3 l4 l5 l6 hk he hT
    obtain rfl : j = m := by omega
    have hn8 := hO.2.2.1
    have hNM : cnts M n ne := hN.eq he (by decide)
    have hHM : Hd M hp wy n ne := ⟨fun e h1 => by rw [he 29 (by decide)]; exact hH.1 e h1, fun b e h1 h2 h3 => by rw [he (46 + b) (by simp; omega)]; exact hH.2 b e h1 h2 h3⟩
    have hOM := hO.eq he (by decide) (by decide)
    obtain ⟨o1, o2, o3, o4, o5⟩ := hOM
    refine V.fg (ls' := [some (.ref 5), some (.int bd), some (.int (nI j)), none, none, none, none]) ⟨rfl, rfl, rfl, trivial⟩ ?_
    refine V.iload_n dX5_goEarly_2 rfl (i := 2) rfl ?_
    refine V.aload_n dX5_goEarly_3 rfl (i := 0) rfl ?_
    refine V.getI dX5_goEarly_4 rfl flRX5_38 rfl ⟨by decide, by decide⟩ ?_
    refine V.top (x' := (nI j)) (o1) ?_
    refine V.ic_ge (tgt := 108) dX5_goEarly_7 (by decide) (fun c7 => ?_) (fun q => absurd ((Int32.le_refl _)) q)
    exact V.vret dX5_goEarly_108 rfl (hQ M he hT)
  | succ k ih =>
    intro j M l3 l4 l5 l6 hk he hT
    have hn8 := hO.2.2.1
    have hNM : cnts M n ne := hN.eq he (by decide)
    have hHM : Hd M hp wy n ne := ⟨fun e h1 => by rw [he 29 (by decide)]; exact hH.1 e h1, fun b e h1 h2 h3 => by rw [he (46 + b) (by simp; omega)]; exact hH.2 b e h1 h2 h3⟩
    have hOM := hO.eq he (by decide) (by decide)
    obtain ⟨o1, o2, o3, o4, o5⟩ := hOM
    have hj8 : j < 8 := by omega
    have hoj := (o4 j (by omega)).2
    have hoj8 : od j < 8 := by omega
    refine V.fg (ls' := [some (.ref 5), some (.int bd), some (.int (nI j)), none, none, none, none]) ⟨rfl, rfl, rfl, trivial⟩ ?_
    refine V.iload_n dX5_goEarly_2 rfl (i := 2) rfl ?_
    refine V.aload_n dX5_goEarly_3 rfl (i := 0) rfl ?_
    refine V.getI dX5_goEarly_4 rfl flRX5_38 rfl ⟨by decide, by decide⟩ ?_
    refine V.top (x' := (nI m)) (o1) ?_
    refine V.ic_ge (tgt := 108) dX5_goEarly_7 (by decide) (fun q => absurd q ((nI_ge (a := j) (b := m) (by omega) (by omega)))) (fun c7 => ?_)
    refine V.aload_n dX5_goEarly_10 rfl (i := 0) rfl ?_
    refine V.getR dX5_goEarly_11 rfl flRX5_9 rfl ⟨by decide, by decide⟩ ?_
    refine V.iload_n dX5_goEarly_14 rfl (i := 2) rfl ?_
    refine V.ialdN dX5_goEarly_15 rfl ⟨by decide, by decide⟩ (by first | assumption | decide | omega) (by decide) ?_
    refine V.top (x' := (nI (od j))) (((o4 j (by omega)).1)) ?_
    refine V.istore_n dX5_goEarly_16 rfl (i := 3) (by decide) (fun _ h => by cases h; exact Or.inl rfl) rfl ?_
    refine V.aload_n dX5_goEarly_17 rfl (i := 0) rfl ?_
    refine V.getR dX5_goEarly_18 rfl flRX5_18 rfl ⟨by decide, by decide⟩ ?_
    refine V.getR dX5_goEarly_21 rfl flRX5_44 rfl ⟨by decide, by decide⟩ ?_
    refine V.iload_n dX5_goEarly_24 rfl (i := 3) rfl ?_
    refine V.aaldBN dX5_goEarly_25 rfl ⟨by decide, by decide⟩ (by first | assumption | decide | omega) (by decide) ?_
    refine V.getI dX5_goEarly_26 rfl flRX5_58 (fkB30 (by first | assumption | decide | omega) (by decide)) (inB30 (by first | assumption | decide | omega)) ?_
    refine V.top (x' := (M0 (30 + od j) 4)) ((by rw [he (30 + od j) (by simp; omega)])) ?_
    refine V.iload_n dX5_goEarly_29 rfl (i := 1) rfl ?_
    refine V.isub dX5_goEarly_30 ?_
    refine V.istore dX5_goEarly_31 (i := 4) (by decide) (fun _ h => by cases h; exact Or.inl rfl) rfl ?_
    refine V.iconst dX5_goEarly_33 (v := 0) (by decide) ?_
    refine V.istore dX5_goEarly_34 (i := 5) (by decide) (fun _ h => by cases h; exact Or.inl rfl) rfl ?_
    refine l_lo1 hN hH hO he (by omega) hT (fun l6 => ?_) j 0 _ (by omega)
    refine V.fg (ls' := [some (.ref 5), some (.int bd), some (.int (nI j)), some (.int (nI (od j))), some (.int (loS (geC (fun a b => gpF hp wy (M0 1 6) a b ne)) (fun a b => gpF hp wy (M0 1 6) a b ne) (fun x => M0 (30 + x) 4) od bd (loT (geC (fun a b => gpF hp wy (M0 1 6) a b ne)) (fun a b => gpF hp wy (M0 1 6) a b ne) (fun x => M0 (30 + x) 4) od bd j) j j)), some (.int (nI j)), none]) ⟨rfl, rfl, rfl, rfl, rfl, rfl, trivial⟩ ?_
    refine V.aload_n dX5_goEarly_94 rfl (i := 0) rfl ?_
    refine V.getR dX5_goEarly_95 rfl flRX5_15 rfl ⟨by decide, by decide⟩ ?_
    refine V.iload_n dX5_goEarly_98 rfl (i := 3) rfl ?_
    refine V.iload dX5_goEarly_99 rfl ?_
    refine V.iastN dX5_goEarly_101 rfl ⟨by decide, by decide⟩ (by first | assumption | decide | omega) (by decide) ?_
    refine V.iinc dX5_goEarly_102 rfl (v := (nI (j + 1))) (nI_1 _) (by decide) (fun _ h => by cases h; exact Or.inl rfl) rfl ?_
    refine V.goto dX5_goEarly_105 (tgt := 2) (by decide) ?_
    exact ih (j + 1) _ _ _ _ _ (by omega) (he.put (by decide)) (fun i hi => by by_cases q : i = j; subst q; rw [put_s, loT_s]; rw [put_n (fun z => q (o5 i j (by omega) (by omega) z.2)), loT_n q]; exact hT i (by omega))
set_option maxHeartbeats 4000000 in
set_option maxRecDepth 100000 in
theorem c_goEarly {g : GG} {d : Nat} {M : Mem} {Q : Option Value → Mem → Prop} {hp : Nat → Nat → Bool} {wy : Nat → Nat → Int32} {n ne m : Nat} {od : Nat → Nat} {bd : Int32} (hN : cnts M n ne) (hH : Hd M hp wy n ne) (hO : Od M od m n) (hQ : ∀ M', eqx [56] M M' → (∀ i, i < m → M' 56 (od i) = loT (geC (fun a b => gpF hp wy (M 1 6) a b ne)) (fun a b => gpF hp wy (M 1 6) a b ne) (fun x => M (30 + x) 4) od bd m i) → Q none M') : V cS g (d + 2) mX5_goEarly 0 [some (.ref 5), some (.int bd), none, none, none, none, none] [] M Q := by
  refine V.iconst dX5_goEarly_0 (v := 0) (by decide) ?_
  refine V.istore_n dX5_goEarly_1 rfl (i := 2) (by decide) (fun _ h => by cases h; exact Or.inl rfl) rfl ?_
  exact l_lo hN hH hO hQ m 0 M _ _ _ _ (by omega) eqx.rf (fun i hi => absurd hi (Nat.not_lt_zero _))
set_option maxHeartbeats 4000000 in
set_option maxRecDepth 100000 in
theorem l_hi1 {g : GG} {d : Nat} {Q : Option Value → Mem → Prop} {M0 : Mem} {hp : Nat → Nat → Bool} {wy : Nat → Nat → Int32} {n ne m : Nat} {od : Nat → Nat} {bd : Int32} (hN : cnts M0 n ne) (hH : Hd M0 hp wy n ne) (hO : Od M0 od m n) {M : Mem} (he : eqx [56] M0 M) {j : Nat} (hj : j < m) {T : Nat → Int32} (hT : ∀ i, i < m → j < i → M 56 (od i) = T i) (hc : ∀ l6, V cS g (d + 2) mX5_goLate 100 [some (.ref 5), some (.int bd), some (.int (nI j)), some (.int (nI (od j))), some (.int (hiS (geC (fun a b => gpF hp wy (M0 1 6) a b ne)) (fun a b => gpF hp wy (M0 1 6) a b ne) (fun x => M0 (30 + x) 4) od bd T j (m - 1 - j))), some (.int (nI m)), l6] [] M Q) : ∀ (k c : Nat) (l6 : Option Value), j + 1 + c + k = m → V cS g (d + 2) mX5_goLate 39 [some (.ref 5), some (.int bd), some (.int (nI j)), some (.int (nI (od j))), some (.int (hiS (geC (fun a b => gpF hp wy (M0 1 6) a b ne)) (fun a b => gpF hp wy (M0 1 6) a b ne) (fun x => M0 (30 + x) 4) od bd T j c)), some (.int (nI (j + 1 + c))), l6] [] M Q := by
  intro k
  induction k with
  | zero =>
    intro c l6 hk
    have hn8 := hO.2.2.1
    have hNM : cnts M n ne := hN.eq he (by decide)
    have hHM : Hd M hp wy n ne := ⟨fun e h1 => by rw [he 29 (by decide)]; exact hH.1 e h1, fun b e h1 h2 h3 => by rw [he (46 + b) (by simp; omega)]; exact hH.2 b e h1 h2 h3⟩
    have hOM := hO.eq he (by decide) (by decide)
    obtain ⟨o1, o2, o3, o4, o5⟩ := hOM
    obtain rfl : m = j + 1 + c := by omega
    have hcc : j + 1 + c - 1 - j = c := by omega
    rw [hcc] at hc
    refine V.fg (ls' := [some (.ref 5), some (.int bd), some (.int (nI j)), some (.int (nI (od j))), some (.int (hiS (geC (fun a b => gpF hp wy (M0 1 6) a b ne)) (fun a b => gpF hp wy (M0 1 6) a b ne) (fun x => M0 (30 + x) 4) od bd T j c)), some (.int (nI (j + 1 + c))), none]) ⟨rfl, rfl, rfl, rfl, rfl, rfl, trivial⟩ ?_
    refine V.iload dX5_goLate_39 rfl ?_
    refine V.aload_n dX5_goLate_41 rfl (i := 0) rfl ?_
    refine V.getI dX5_goLate_42 rfl flRX5_38 rfl ⟨by decide, by decide⟩ ?_
    refine V.top (x' := (nI (j + 1 + c))) (o1) ?_
    refine V.ic_ge (tgt := 100) dX5_goLate_45 (by decide) (fun c45 => ?_) (fun q => absurd ((Int32.le_refl _)) q)
    exact hc _
  | succ k ih =>
    intro c l6 hk
    have hn8 := hO.2.2.1
    have hNM : cnts M n ne := hN.eq he (by decide)
    have hHM : Hd M hp wy n ne := ⟨fun e h1 => by rw [he 29 (by decide)]; exact hH.1 e h1, fun b e h1 h2 h3 => by rw [he (46 + b) (by simp; omega)]; exact hH.2 b e h1 h2 h3⟩
    have hOM := hO.eq he (by decide) (by decide)
    obtain ⟨o1, o2, o3, o4, o5⟩ := hOM
    have hi8 : j + 1 + c < 8 := by omega
    have hoi := (o4 (j + 1 + c) (by omega)).2
    have hoj := (o4 j hj).2
    have hoi8 : od (j + 1 + c) < 8 := by omega
    refine V.fg (ls' := [some (.ref 5), some (.int bd), some (.int (nI j)), some (.int (nI (od j))), some (.int (hiS (geC (fun a b => gpF hp wy (M0 1 6) a b ne)) (fun a b => gpF hp wy (M0 1 6) a b ne) (fun x => M0 (30 + x) 4) od bd T j c)), some (.int (nI (j + 1 + c))), none]) ⟨rfl, rfl, rfl, rfl, rfl, rfl, trivial⟩ ?_
    refine V.iload dX5_goLate_39 rfl ?_
    refine V.aload_n dX5_goLate_41 rfl (i := 0) rfl ?_
    refine V.getI dX5_goLate_42 rfl flRX5_38 rfl ⟨by decide, by decide⟩ ?_
    refine V.top (x' := (nI m)) (o1) ?_
    refine V.ic_ge (tgt := 100) dX5_goLate_45 (by decide) (fun q => absurd q ((nI_ge (a := (j + 1 + c)) (b := m) (by omega) (by omega)))) (fun c45 => ?_)
    refine V.aload_n dX5_goLate_48 rfl (i := 0) rfl ?_
    refine V.getR dX5_goLate_49 rfl flRX5_22 rfl ⟨by decide, by decide⟩ ?_
    refine V.iload_n dX5_goLate_52 rfl (i := 3) rfl ?_
    refine V.aload_n dX5_goLate_53 rfl (i := 0) rfl ?_
    refine V.getR dX5_goLate_54 rfl flRX5_9 rfl ⟨by decide, by decide⟩ ?_
    refine V.iload dX5_goLate_57 rfl ?_
    refine V.ialdN dX5_goLate_59 rfl ⟨by decide, by decide⟩ (by first | assumption | decide | omega) (by decide) ?_
    refine V.top (x' := (nI (od (j + 1 + c)))) (((o4 (j + 1 + c) (by omega)).1)) ?_
    refine V.invv (z := mX1_gap) (As := [_, _]) dX5_goLate_60 rfl mlRX5_61 okX1_gap npX1_gap rfl rfl rfl ⟨by decide, by decide⟩ (Nat.le_of_ble_eq_true rfl) rfl (Nat.le_of_ble_eq_true rfl) (c_gap hNM hHM hoj hoi ?_)
    show V cS g (d + 2) mX5_goLate 63 [some (.ref 5), some (.int bd), some (.int (nI j)), some (.int (nI (od j))), some (.int (hiS (geC (fun a b => gpF hp wy (M0 1 6) a b ne)) (fun a b => gpF hp wy (M0 1 6) a b ne) (fun x => M0 (30 + x) 4) od bd T j c)), some (.int (nI (j + 1 + c))), none] [.int (gpF hp wy (M 1 6) (od j) (od (j + 1 + c)) ne)] M Q
    refine V.top (x' := (gpF hp wy (M0 1 6) (od j) (od (j + 1 + c)) ne)) ((by rw [he 1 (by decide)])) ?_
    refine V.istore dX5_goLate_63 (i := 6) (by decide) (fun _ h => by cases h; exact Or.inl rfl) rfl ?_
    refine V.iload dX5_goLate_65 rfl ?_
    refine V.ldc dX5_goLate_67 rfl ctRX5_65 ?_
    refine V.ic_eq (tgt := 94) dX5_goLate_69 (by decide) (fun c69 => ?_) (fun c69 => ?_)
    · refine V.lseq (ls' := [some (.ref 5), some (.int bd), some (.int (nI j)), some (.int (nI (od j))), some (.int (hiS (geC (fun a b => gpF hp wy (M0 1 6) a b ne)) (fun a b => gpF hp wy (M0 1 6) a b ne) (fun x => M0 (30 + x) 4) od bd T j (c + 1))), some (.int (nI (j + 1 + c))), _]) (by first | (rw [hiS, if_neg (geC_f (G := (fun a b => gpF hp wy (M0 1 6) a b ne)) (a := od j) (b := od (j + 1 + c)) c69)]; try rfl) | (rw [hiS, if_pos (geC_t (G := (fun a b => gpF hp wy (M0 1 6) a b ne)) (a := od j) (b := od (j + 1 + c)) c69)]; try rfl)) ?_
      refine V.iinc dX5_goLate_94 rfl (v := (nI ((j + 1 + c) + 1))) (nI_1 _) (by decide) (fun _ h => by cases h; exact Or.inl rfl) rfl ?_
      refine V.goto dX5_goLate_97 (tgt := 39) (by decide) ?_
      exact ih (c + 1) _ (by omega)
    · refine V.iload dX5_goLate_72 rfl ?_
      refine V.aload_n dX5_goLate_74 rfl (i := 0) rfl ?_
      refine V.getR dX5_goLate_75 rfl flRX5_15 rfl ⟨by decide, by decide⟩ ?_
      refine V.aload_n dX5_goLate_78 rfl (i := 0) rfl ?_
      refine V.getR dX5_goLate_79 rfl flRX5_9 rfl ⟨by decide, by decide⟩ ?_
      refine V.iload dX5_goLate_82 rfl ?_
      refine V.ialdN dX5_goLate_84 rfl ⟨by decide, by decide⟩ (by first | assumption | decide | omega) (by decide) ?_
      refine V.top (x' := (nI (od (j + 1 + c)))) (((o4 (j + 1 + c) (by omega)).1)) ?_
      refine V.ialdN dX5_goLate_85 rfl ⟨by decide, by decide⟩ (by first | assumption | decide | omega) (by decide) ?_
      refine V.top (x' := (T (j + 1 + c))) ((hT (j + 1 + c) (by omega) (by omega))) ?_
      refine V.iload dX5_goLate_86 rfl ?_
      refine V.isub dX5_goLate_88 ?_
      refine V.mmin dX5_goLate_89 rfl mlRX5_71 (Nat.le_of_ble_eq_true rfl) ?_
      refine V.istore dX5_goLate_92 (i := 4) (by decide) (fun _ h => by cases h; exact Or.inl rfl) rfl ?_
      refine V.lseq (ls' := [some (.ref 5), some (.int bd), some (.int (nI j)), some (.int (nI (od j))), some (.int (hiS (geC (fun a b => gpF hp wy (M0 1 6) a b ne)) (fun a b => gpF hp wy (M0 1 6) a b ne) (fun x => M0 (30 + x) 4) od bd T j (c + 1))), some (.int (nI (j + 1 + c))), _]) (by first | (rw [hiS, if_neg (geC_f (G := (fun a b => gpF hp wy (M0 1 6) a b ne)) (a := od j) (b := od (j + 1 + c)) c69)]; try rfl) | (rw [hiS, if_pos (geC_t (G := (fun a b => gpF hp wy (M0 1 6) a b ne)) (a := od j) (b := od (j + 1 + c)) c69)]; try rfl)) ?_
      refine V.iinc dX5_goLate_94 rfl (v := (nI ((j + 1 + c) + 1))) (nI_1 _) (by decide) (fun _ h => by cases h; exact Or.inl rfl) rfl ?_
      refine V.goto dX5_goLate_97 (tgt := 39) (by decide) ?_
      exact ih (c + 1) _ (by omega)
set_option maxHeartbeats 4000000 in
set_option maxRecDepth 100000 in
theorem l_hi {g : GG} {d : Nat} {Q : Option Value → Mem → Prop} {M0 : Mem} {hp : Nat → Nat → Bool} {wy : Nat → Nat → Int32} {n ne m : Nat} {od : Nat → Nat} {bd : Int32} (hN : cnts M0 n ne) (hH : Hd M0 hp wy n ne) (hO : Od M0 od m n) (hQ : ∀ M', eqx [56] M0 M' → (∀ i, i < m → M' 56 (od i) = hiT (geC (fun a b => gpF hp wy (M0 1 6) a b ne)) (fun a b => gpF hp wy (M0 1 6) a b ne) (fun x => M0 (30 + x) 4) od bd m m i) → Q none M') : ∀ (k c : Nat) (M : Mem) (l3 l4 l5 l6 : Option Value), c + k = m → eqx [56] M0 M → (∀ i, i < m → m - 1 - i < c → M 56 (od i) = hiT (geC (fun a b => gpF hp wy (M0 1 6) a b ne)) (fun a b => gpF hp wy (M0 1 6) a b ne) (fun x => M0 (30 + x) 4) od bd m c i) → V cS g (d + 2) mX5_goLate 7 [some (.ref 5), some (.int bd), some (.int (nI k - 1)), l3, l4, l5, l6] [] M Q := by
  intro k
  induction k with
  | zero =>
    intro c M l3 l4 l5 l6 hk he hT
    obtain rfl : c = m := by omega
    refine V.fg (ls' := [some (.ref 5), some (.int bd), some (.int (nI 0 - 1)), none, none, none, none]) ⟨rfl, rfl, rfl, trivial⟩ ?_
    refine V.iload_n dX5_goLate_7 rfl (i := 2) rfl ?_
    refine V.if_lt (tgt := 114) dX5_goLate_8 (by decide) (fun c8 => ?_) (fun q => absurd ((by decide)) q)
    exact V.vret dX5_goLate_114 rfl (hQ M he (fun i hi => hT i hi (by omega)))
  | succ k ih =>
    intro c M l3 l4 l5 l6 hk he hT
    have hn8 := hO.2.2.1
    have hNM : cnts M n ne := hN.eq he (by decide)
    have hHM : Hd M hp wy n ne := ⟨fun e h1 => by rw [he 29 (by decide)]; exact hH.1 e h1, fun b e h1 h2 h3 => by rw [he (46 + b) (by simp; omega)]; exact hH.2 b e h1 h2 h3⟩
    have hOM := hO.eq he (by decide) (by decide)
    obtain ⟨o1, o2, o3, o4, o5⟩ := hOM
    have hj8 : k < 8 := by omega
    have hoj := (o4 k (by omega)).2
    have hoj8 : od k < 8 := by omega
    have hkc : k = m - 1 - c := by omega
    have hcm : m - 1 - k = c := by omega
    refine V.lseq (ls' := [some (.ref 5), some (.int bd), some (.int (nI k)), l3, l4, l5, l6]) (by rw [nI_pred]) ?_
    refine V.fg (ls' := [some (.ref 5), some (.int bd), some (.int (nI k)), none, none, none, none]) ⟨rfl, rfl, rfl, trivial⟩ ?_
    refine V.iload_n dX5_goLate_7 rfl (i := 2) rfl ?_
    refine V.if_lt (tgt := 114) dX5_goLate_8 (by decide) (fun q => absurd q ((nI_pos (by omega)))) (fun c8 => ?_)
    refine V.aload_n dX5_goLate_11 rfl (i := 0) rfl ?_
    refine V.getR dX5_goLate_12 rfl flRX5_9 rfl ⟨by decide, by decide⟩ ?_
    refine V.iload_n dX5_goLate_15 rfl (i := 2) rfl ?_
    refine V.ialdN dX5_goLate_16 rfl ⟨by decide, by decide⟩ (by first | assumption | decide | omega) (by decide) ?_
    refine V.top (x' := (nI (od k))) (((o4 k (by omega)).1)) ?_
    refine V.istore_n dX5_goLate_17 rfl (i := 3) (by decide) (fun _ h => by cases h; exact Or.inl rfl) rfl ?_
    refine V.aload_n dX5_goLate_18 rfl (i := 0) rfl ?_
    refine V.getR dX5_goLate_19 rfl flRX5_18 rfl ⟨by decide, by decide⟩ ?_
    refine V.getR dX5_goLate_22 rfl flRX5_44 rfl ⟨by decide, by decide⟩ ?_
    refine V.iload_n dX5_goLate_25 rfl (i := 3) rfl ?_
    refine V.aaldBN dX5_goLate_26 rfl ⟨by decide, by decide⟩ (by first | assumption | decide | omega) (by decide) ?_
    refine V.getI dX5_goLate_27 rfl flRX5_58 (fkB30 (by first | assumption | decide | omega) (by decide)) (inB30 (by first | assumption | decide | omega)) ?_
    refine V.top (x' := (M0 (30 + od k) 4)) ((by rw [he (30 + od k) (by simp; omega)])) ?_
    refine V.iload_n dX5_goLate_30 rfl (i := 1) rfl ?_
    refine V.iadd dX5_goLate_31 ?_
    refine V.istore dX5_goLate_32 (i := 4) (by decide) (fun _ h => by cases h; exact Or.inl rfl) rfl ?_
    refine V.iload_n dX5_goLate_34 rfl (i := 2) rfl ?_
    refine V.iconst dX5_goLate_35 (v := 1) (by decide) ?_
    refine V.iadd dX5_goLate_36 ?_
    refine V.top (x' := (nI (k + 1))) (nI_add k 1) ?_
    refine V.istore dX5_goLate_37 (i := 5) (by decide) (fun _ h => by cases h; exact Or.inl rfl) rfl ?_
    refine l_hi1 hN hH hO he (j := k) (by omega) (T := hiT (geC (fun a b => gpF hp wy (M0 1 6) a b ne)) (fun a b => gpF hp wy (M0 1 6) a b ne) (fun x => M0 (30 + x) 4) od bd m c) (fun i h1 h2 => hT i h1 (by omega)) (fun l6 => ?_) (m - (k + 1)) 0 _ (by omega)
    rw [hcm]
    refine V.fg (ls' := [some (.ref 5), some (.int bd), some (.int (nI k)), some (.int (nI (od k))), some (.int (hiS (geC (fun a b => gpF hp wy (M0 1 6) a b ne)) (fun a b => gpF hp wy (M0 1 6) a b ne) (fun x => M0 (30 + x) 4) od bd (hiT (geC (fun a b => gpF hp wy (M0 1 6) a b ne)) (fun a b => gpF hp wy (M0 1 6) a b ne) (fun x => M0 (30 + x) 4) od bd m c) k c)), some (.int (nI m)), none]) ⟨rfl, rfl, rfl, rfl, rfl, rfl, trivial⟩ ?_
    refine V.aload_n dX5_goLate_100 rfl (i := 0) rfl ?_
    refine V.getR dX5_goLate_101 rfl flRX5_15 rfl ⟨by decide, by decide⟩ ?_
    refine V.iload_n dX5_goLate_104 rfl (i := 3) rfl ?_
    refine V.iload dX5_goLate_105 rfl ?_
    refine V.iastN dX5_goLate_107 rfl ⟨by decide, by decide⟩ (by first | assumption | decide | omega) (by decide) ?_
    refine V.iinc dX5_goLate_108 rfl (v := (nI k - 1)) (by rw [Int32.sub_eq_add_neg]; rfl) (by decide) (fun _ h => by cases h; exact Or.inl rfl) rfl ?_
    refine V.goto dX5_goLate_111 (tgt := 7) (by decide) ?_
    exact ih (c + 1) _ _ _ _ _ (by omega) (he.put (by decide)) (fun i h1 h2 => by by_cases q : i = k; subst q; rw [put_s]; have hz := hiT_s (ge := geC (fun a b => gpF hp wy (M0 1 6) a b ne)) (G := (fun a b => gpF hp wy (M0 1 6) a b ne)) (off := (fun x => M0 (30 + x) 4)) (od := od) (bd := bd) (m := m) (c := c); rw [← hkc] at hz; exact hz.symm; rw [put_n (fun z => q (o5 i k (by omega) (by omega) z.2)), hiT_n (by omega)]; exact hT i h1 (by omega))
set_option maxHeartbeats 4000000 in
set_option maxRecDepth 100000 in
theorem c_goLate {g : GG} {d : Nat} {M : Mem} {Q : Option Value → Mem → Prop} {hp : Nat → Nat → Bool} {wy : Nat → Nat → Int32} {n ne m : Nat} {od : Nat → Nat} {bd : Int32} (hN : cnts M n ne) (hH : Hd M hp wy n ne) (hO : Od M od m n) (hQ : ∀ M', eqx [56] M M' → (∀ i, i < m → M' 56 (od i) = hiT (geC (fun a b => gpF hp wy (M 1 6) a b ne)) (fun a b => gpF hp wy (M 1 6) a b ne) (fun x => M (30 + x) 4) od bd m m i) → Q none M') : V cS g (d + 2) mX5_goLate 0 [some (.ref 5), some (.int bd), none, none, none, none, none] [] M Q := by
  refine V.aload_n dX5_goLate_0 rfl (i := 0) rfl ?_
  refine V.getI dX5_goLate_1 rfl flRX5_38 rfl ⟨by decide, by decide⟩ ?_
  refine V.top (x' := (nI m)) (hO.1) ?_
  refine V.iconst dX5_goLate_4 (v := 1) (by decide) ?_
  refine V.isub dX5_goLate_5 ?_
  refine V.istore_n dX5_goLate_6 rfl (i := 2) (by decide) (fun _ h => by cases h; exact Or.inl rfl) rfl ?_
  exact l_hi hN hH hO hQ m 0 M _ _ _ _ (by omega) eqx.rf (fun i h1 h2 => absurd h2 (Nat.not_lt_zero _))
set_option maxHeartbeats 4000000 in
set_option maxRecDepth 100000 in
theorem c_offsetOf {g : GG} {d : Nat} {M : Mem} {Q : Option Value → Mem → Prop} {b : Nat} (hb : b < 8) (hQ : Q (some (.int (M 56 b))) (M)) : V cS g d mX5_offsetOf 0 [some (.ref 5), some (.int (nI b))] [] M Q := by
  refine V.aload_n dX5_offsetOf_0 rfl (i := 0) rfl ?_
  refine V.getR dX5_offsetOf_1 rfl flRX5_15 rfl ⟨by decide, by decide⟩ ?_
  refine V.iload_n dX5_offsetOf_4 rfl (i := 1) rfl ?_
  refine V.ialdN dX5_offsetOf_5 rfl ⟨by decide, by decide⟩ (by first | assumption | decide | omega) (by decide) ?_
  exact V.ret dX5_offsetOf_6 rfl (hQ)

