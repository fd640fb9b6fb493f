/-! ===== Slate: what it lacks, and taking it over ===== -/
def lbF (T off : Nat → Int32) (od : Nat → Nat) : Nat → Int32
  | 0 => 0
  | k + 1 => if lbF T off od k < T k - off (od k) then T k - off (od k) else lbF T off od k
def foT (T off : Nat → Int32) (od : Nat → Nat) : Nat → Nat → Int32
  | 0 => off
  | k + 1 => fun x => if x = od k then heldF (T k) (-900) 900 else foT T off od k x
def tkC (T off : Nat → Int32) (od : Nat → Nat) : Nat → Nat
  | 0 => 0
  | k + 1 => tkC T off od k + (if heldF (T k) (-900) 900 = foT T off od k (od k) then 0 else 1)
theorem tkC_le (T off : Nat → Int32) (od : Nat → Nat) : ∀ k, tkC T off od k ≤ k
  | 0 => Nat.le_refl _
  | k + 1 => by
    have := tkC_le T off od k
    unfold tkC
    split <;> omega
/-- the memory with other offsets -/
def zo (M : Mem) (f : Nat → Int32) : Mem := fun c j => if 30 ≤ c ∧ c < 38 ∧ j = 4 then f (c - 30) else M c j
theorem zo_o {M : Mem} {f : Nat → Int32} {c : Nat} (h : ¬ (30 ≤ c ∧ c < 38)) : zo M f c = M c := by
  funext j
  unfold zo
  rw [if_neg (fun q => h ⟨q.1, q.2.1⟩)]
theorem zo_b {M : Mem} {f : Nat → Int32} {b : Nat} (h : b < 8) : zo M f (30 + b) 4 = f b := by
  unfold zo
  rw [if_pos ⟨by omega, by omega, rfl⟩, Nat.add_sub_cancel_left]
theorem zo_n {M : Mem} {f : Nat → Int32} {b j : Nat} (h : j ≠ 4) : zo M f (30 + b) j = M (30 + b) j := by
  unfold zo
  rw [if_neg (fun q => h q.2.2)]
theorem zo_put {M : Mem} {f : Nat → Int32} {b : Nat} {v : Int32} (h : b < 8) : put (zo M f) (30 + b) 4 v = zo M (fun x => if x = b then v else f x) := by
  funext c j
  unfold put zo
  by_cases h1 : 30 ≤ c ∧ c < 38 ∧ j = 4
  · obtain ⟨h2, h3, rfl⟩ := h1
    by_cases h4 : c = 30 + b
    · subst h4
      simp [h3]
    · simp [h2, h3, h4, show ¬ c - 30 = b by omega]
  · rw [if_neg (fun q => h1 ⟨by omega, by omega, q.2⟩), if_neg h1, if_neg h1]
theorem zo_same {M : Mem} : zo M (fun x => M (30 + x) 4) = M := by
  funext c j
  unfold zo
  by_cases h : 30 ≤ c ∧ c < 38 ∧ j = 4
  · rw [if_pos h]
    show M (30 + (c - 30)) 4 = _
    rw [show 30 + (c - 30) = c by omega, h.2.2]
  · rw [if_neg h]

set_option maxHeartbeats 4000000 in
set_option maxRecDepth 100000 in
theorem l_lb {g : GG} {d : Nat} {M : Mem} {Q : Option Value → Mem → Prop} {T : Nat → Int32} {od : Nat → Nat} {m n : Nat} (hO : Od M od m n) (hT : ∀ i, i < m → M 56 (od i) = T i) (hQ : Q (some (.int (lbF T (fun x => M (30 + x) 4) od m))) M) : ∀ (k i : Nat), i + k = m → V cS g (d + 1) mX5_latestBehind 4 [some (.ref 5), some (.int (lbF T (fun x => M (30 + x) 4) od i)), some (.int (nI i))] [] M Q := by
  obtain ⟨o1, o2, o3, o4, o5⟩ := hO
  intro k
  induction k with
  | zero =>
    intro i hk
    obtain rfl : i = m := by omega
    refine V.iload_n dX5_latestBehind_4 rfl (i := 2) rfl ?_
    refine V.aload_n dX5_latestBehind_5 rfl (i := 0) rfl ?_
    refine V.getI dX5_latestBehind_6 rfl flRX5_38 rfl ⟨by decide, by decide⟩ ?_
    refine V.top (x' := (nI i)) (o1) ?_
    refine V.ic_ge (tgt := 52) dX5_latestBehind_9 (by decide) (fun c9 => ?_) (fun q => absurd ((Int32.le_refl _)) q)
    refine V.iload_n dX5_latestBehind_52 rfl (i := 1) rfl ?_
    exact V.ret dX5_latestBehind_53 rfl (hQ)
  | succ k ih =>
    intro i hk
    have hi8 : i < 8 := by omega
    have hoi := (o4 i (by omega)).2
    have hoi8 : od i < 8 := by omega
    refine V.iload_n dX5_latestBehind_4 rfl (i := 2) rfl ?_
    refine V.aload_n dX5_latestBehind_5 rfl (i := 0) rfl ?_
    refine V.getI dX5_latestBehind_6 rfl flRX5_38 rfl ⟨by decide, by decide⟩ ?_
    refine V.top (x' := (nI m)) (o1) ?_
    refine V.ic_ge (tgt := 52) dX5_latestBehind_9 (by decide) (fun q => absurd q ((nI_ge (a := i) (b := m) (by omega) (by omega)))) (fun c9 => ?_)
    refine V.iload_n dX5_latestBehind_12 rfl (i := 1) rfl ?_
    refine V.aload_n dX5_latestBehind_13 rfl (i := 0) rfl ?_
    refine V.getR dX5_latestBehind_14 rfl flRX5_15 rfl ⟨by decide, by decide⟩ ?_
    refine V.aload_n dX5_latestBehind_17 rfl (i := 0) rfl ?_
    refine V.getR dX5_latestBehind_18 rfl flRX5_9 rfl ⟨by decide, by decide⟩ ?_
    refine V.iload_n dX5_latestBehind_21 rfl (i := 2) rfl ?_
    refine V.ialdN dX5_latestBehind_22 rfl ⟨by decide, by decide⟩ (by first | assumption | decide | omega) (by decide) ?_
    refine V.top (x' := (nI (od i))) (((o4 i (by omega)).1)) ?_
    refine V.ialdN dX5_latestBehind_23 rfl ⟨by decide, by decide⟩ (by first | assumption | decide | omega) (by decide) ?_
    refine V.top (x' := (T i)) ((hT i (by omega))) ?_
    refine V.aload_n dX5_latestBehind_24 rfl (i := 0) rfl ?_
    refine V.getR dX5_latestBehind_25 rfl flRX5_18 rfl ⟨by decide, by decide⟩ ?_
    refine V.getR dX5_latestBehind_28 rfl flRX5_44 rfl ⟨by decide, by decide⟩ ?_
    refine V.aload_n dX5_latestBehind_31 rfl (i := 0) rfl ?_
    refine V.getR dX5_latestBehind_32 rfl flRX5_9 rfl ⟨by decide, by decide⟩ ?_
    refine V.iload_n dX5_latestBehind_35 rfl (i := 2) rfl ?_
    refine V.ialdN dX5_latestBehind_36 rfl ⟨by decide, by decide⟩ (by first | assumption | decide | omega) (by decide) ?_
    refine V.top (x' := (nI (od i))) (((o4 i (by omega)).1)) ?_
    refine V.aaldBN dX5_latestBehind_37 rfl ⟨by decide, by decide⟩ (by first | assumption | decide | omega) (by decide) ?_
    refine V.getI dX5_latestBehind_38 rfl flRX5_58 (fkB30 (by first | assumption | decide | omega) (by decide)) (inB30 (by first | assumption | decide | omega)) ?_
    refine V.isub dX5_latestBehind_41 ?_
    refine V.mmax dX5_latestBehind_42 rfl mlRX5_66 (Nat.le_of_ble_eq_true rfl) ?_
    refine V.istore_n dX5_latestBehind_45 rfl (i := 1) (by decide) (fun _ h => by cases h; exact Or.inl rfl) rfl ?_
    refine V.iinc dX5_latestBehind_46 rfl (v := (nI (i + 1))) (nI_1 _) (by decide) (fun _ h => by cases h; exact Or.inl rfl) rfl ?_
    refine V.goto dX5_latestBehind_49 (tgt := 4) (by decide) ?_
    exact ih (i + 1) (by omega)
set_option maxHeartbeats 4000000 in
set_option maxRecDepth 100000 in
theorem c_lb {g : GG} {d : Nat} {M : Mem} {Q : Option Value → Mem → Prop} {T : Nat → Int32} {od : Nat → Nat} {m n : Nat} (hO : Od M od m n) (hT : ∀ i, i < m → M 56 (od i) = T i) (hQ : Q (some (.int (lbF T (fun x => M (30 + x) 4) od m))) M) : V cS g (d + 1) mX5_latestBehind 0 [some (.ref 5), none, none] [] M Q := by
  refine V.iconst dX5_latestBehind_0 (v := 0) (by decide) ?_
  refine V.istore_n dX5_latestBehind_1 rfl (i := 1) (by decide) (fun _ h => by cases h; exact Or.inl rfl) rfl ?_
  refine V.iconst dX5_latestBehind_2 (v := 0) (by decide) ?_
  refine V.istore_n dX5_latestBehind_3 rfl (i := 2) (by decide) (fun _ h => by cases h; exact Or.inl rfl) rfl ?_
  exact l_lb hO hT hQ m 0 (by omega)
set_option maxHeartbeats 4000000 in
set_option maxRecDepth 100000 in
theorem l_take {g : GG} {d : Nat} {Q : Option Value → Mem → Prop} {M0 : Mem} {T : Nat → Int32} {od : Nat → Nat} {m n : Nat} (hO : Od M0 od m n) (hT : ∀ i, i < m → M0 56 (od i) = T i) (hQ : Q (some (.int (nI (tkC T (fun x => M0 (30 + x) 4) od m)))) (zo M0 (foT T (fun x => M0 (30 + x) 4) od m))) : ∀ (k i : Nat) (l3 l4 : Option Value), i + k = m → V cS g (d + 2) mX5_takeOver 4 [some (.ref 5), some (.int (nI (tkC T (fun x => M0 (30 + x) 4) od i))), some (.int (nI i)), l3, l4] [] (zo M0 (foT T (fun x => M0 (30 + x) 4) od i)) Q := by
  obtain ⟨o1, o2, o3, o4, o5⟩ := hO
  intro k
  induction k with
  | zero =>
    intro i l3 l4 hk
    obtain rfl : i = m := by omega
    refine V.fg (ls' := [some (.ref 5), some (.int (nI (tkC T (fun x => M0 (30 + x) 4) od i))), some (.int (nI i)), none, none]) ⟨rfl, rfl, rfl, trivial⟩ ?_
    refine V.iload_n dX5_takeOver_4 rfl (i := 2) rfl ?_
    refine V.aload_n dX5_takeOver_5 rfl (i := 0) rfl ?_
    refine V.getI dX5_takeOver_6 rfl flRX5_38 rfl ⟨by decide, by decide⟩ ?_
    refine V.top (x' := (nI i)) ((by rw [zo_o (by omega)]; exact o1)) ?_
    refine V.ic_ge (tgt := 73) dX5_takeOver_9 (by decide) (fun c9 => ?_) (fun q => absurd ((Int32.le_refl _)) q)
    refine V.iload_n dX5_takeOver_73 rfl (i := 1) rfl ?_
    exact V.ret dX5_takeOver_74 rfl (hQ)
  | succ k ih =>
    intro i l3 l4 hk
    have hi8 : i < 8 := by omega
    have hoi := (o4 i (by omega)).2
    have hoi8 : od i < 8 := by omega
    refine V.fg (ls' := [some (.ref 5), some (.int (nI (tkC T (fun x => M0 (30 + x) 4) od i))), some (.int (nI i)), none, none]) ⟨rfl, rfl, rfl, trivial⟩ ?_
    have h55 : zo M0 (foT T (fun x => M0 (30 + x) 4) od i) 55 i = nI (od i) := by rw [zo_o (by omega)]; exact (o4 i (by omega)).1
    have h56 : zo M0 (foT T (fun x => M0 (30 + x) 4) od i) 56 (od i) = T i := by rw [zo_o (by omega)]; exact hT i (by omega)
    refine V.iload_n dX5_takeOver_4 rfl (i := 2) rfl ?_
    refine V.aload_n dX5_takeOver_5 rfl (i := 0) rfl ?_
    refine V.getI dX5_takeOver_6 rfl flRX5_38 rfl ⟨by decide, by decide⟩ ?_
    refine V.top (x' := (nI m)) ((by rw [zo_o (by omega)]; exact o1)) ?_
    refine V.ic_ge (tgt := 73) dX5_takeOver_9 (by decide) (fun q => absurd q ((nI_ge (a := i) (b := m) (by omega) (by omega)))) (fun c9 => ?_)
    refine V.aload_n dX5_takeOver_12 rfl (i := 0) rfl ?_
    refine V.getR dX5_takeOver_13 rfl flRX5_18 rfl ⟨by decide, by decide⟩ ?_
    refine V.getR dX5_takeOver_16 rfl flRX5_44 rfl ⟨by decide, by decide⟩ ?_
    refine V.aload_n dX5_takeOver_19 rfl (i := 0) rfl ?_
    refine V.getR dX5_takeOver_20 rfl flRX5_9 rfl ⟨by decide, by decide⟩ ?_
    refine V.iload_n dX5_takeOver_23 rfl (i := 2) rfl ?_
    refine V.ialdN dX5_takeOver_24 rfl ⟨by decide, by decide⟩ (by first | assumption | decide | omega) (by decide) ?_
    refine V.top (x' := (nI (od i))) (h55) ?_
    refine V.aaldBN dX5_takeOver_25 rfl ⟨by decide, by decide⟩ (by first | assumption | decide | omega) (by decide) ?_
    refine V.astore_n dX5_takeOver_26 rfl (i := 3) (by decide) (fun _ h => by cases h; exact Or.inl rfl) rfl ?_
    refine V.aload_n dX5_takeOver_27 rfl (i := 0) rfl ?_
    refine V.getR dX5_takeOver_28 rfl flRX5_15 rfl ⟨by decide, by decide⟩ ?_
    refine V.aload_n dX5_takeOver_31 rfl (i := 0) rfl ?_
    refine V.getR dX5_takeOver_32 rfl flRX5_9 rfl ⟨by decide, by decide⟩ ?_
    refine V.iload_n dX5_takeOver_35 rfl (i := 2) rfl ?_
    refine V.ialdN dX5_takeOver_36 rfl ⟨by decide, by decide⟩ (by first | assumption | decide | omega) (by decide) ?_
    refine V.top (x' := (nI (od i))) (h55) ?_
    refine V.ialdN dX5_takeOver_37 rfl ⟨by decide, by decide⟩ (by first | assumption | decide | omega) (by decide) ?_
    refine V.top (x' := (T i)) (h56) ?_
    refine V.sipush dX5_takeOver_38 (v := (-900)) (by decide) ?_
    refine V.sipush dX5_takeOver_41 (v := 900) (by decide) ?_
    refine V.invsN (z := mX9_heldWithin) (As := [_, _, _]) (host := "OneBreath") dX5_takeOver_44 rfl (by decide +kernel) okX9_heldWithin npX9_heldWithin rfl (Nat.le_of_ble_eq_true rfl) rfl (Nat.le_of_ble_eq_true rfl) (c_heldWithin   ?_)
    show V cS g (d + 2) mX5_takeOver 47 [some (.ref 5), some (.int (nI (tkC T (fun x => M0 (30 + x) 4) od i))), some (.int (nI i)), some (.ref (30 + (od i))), none] [.int (heldF (T i) (-900 : Int32) (900 : Int32))] ((zo M0 (foT T (fun x => M0 (30 + x) 4) od i))) Q
    refine V.istore dX5_takeOver_47 (i := 4) (by decide) (fun _ h => by cases h; exact Or.inl rfl) rfl ?_
    refine V.iload dX5_takeOver_49 rfl ?_
    refine V.aload_n dX5_takeOver_51 rfl (i := 3) rfl ?_
    refine V.getI dX5_takeOver_52 rfl flRX5_58 (fkB30 (by first | assumption | decide | omega) (by decide)) (inB30 (by first | assumption | decide | omega)) ?_
    refine V.top (x' := ((foT T (fun x => M0 (30 + x) 4) od i) (od i))) ((zo_b hoi8)) ?_
    refine V.ic_eq (tgt := 67) dX5_takeOver_55 (by decide) (fun c55 => ?_) (fun c55 => ?_)
    · refine V.iinc dX5_takeOver_67 rfl (v := (nI (i + 1))) (nI_1 _) (by decide) (fun _ h => by cases h; exact Or.inl rfl) rfl ?_
      refine V.goto dX5_takeOver_70 (tgt := 4) (by decide) ?_
      first | exact V.mem (M' := zo M0 (foT T (fun x => M0 (30 + x) 4) od (i + 1))) (by rw [zo_put hoi8]; rfl) (V.lseq (ls' := [some (.ref 5), some (.int (nI (tkC T (fun x => M0 (30 + x) 4) od (i + 1)))), some (.int (nI (i + 1))), _, _]) (by rw [tkC, if_neg c55]; rfl) (ih (i + 1) _ _ (by omega))) | exact V.mem (M' := zo M0 (foT T (fun x => M0 (30 + x) 4) od (i + 1))) (by congr 1; funext x; show _ = (if x = od i then _ else _); by_cases q : x = od i; subst q; rw [if_pos rfl, ← c55]; rw [if_neg q]) (V.lseq (ls' := [some (.ref 5), some (.int (nI (tkC T (fun x => M0 (30 + x) 4) od (i + 1)))), some (.int (nI (i + 1))), _, _]) (by rw [tkC, if_pos c55]; rfl) (ih (i + 1) _ _ (by omega)))
    · refine V.aload_n dX5_takeOver_58 rfl (i := 3) rfl ?_
      refine V.iload dX5_takeOver_59 rfl ?_
      refine V.putI dX5_takeOver_61 rfl fpRX5_58 (fkB30 (by first | assumption | decide | omega) (by decide)) (inB30 (by first | assumption | decide | omega)) ?_
      refine V.iinc dX5_takeOver_64 rfl (v := (nI ((tkC T (fun x => M0 (30 + x) 4) od i) + 1))) (nI_1 _) (by decide) (fun _ h => by cases h; exact Or.inl rfl) rfl ?_
      refine V.iinc dX5_takeOver_67 rfl (v := (nI (i + 1))) (nI_1 _) (by decide) (fun _ h => by cases h; exact Or.inl rfl) rfl ?_
      refine V.goto dX5_takeOver_70 (tgt := 4) (by decide) ?_
      first | exact V.mem (M' := zo M0 (foT T (fun x => M0 (30 + x) 4) od (i + 1))) (by rw [zo_put hoi8]; rfl) (V.lseq (ls' := [some (.ref 5), some (.int (nI (tkC T (fun x => M0 (30 + x) 4) od (i + 1)))), some (.int (nI (i + 1))), _, _]) (by rw [tkC, if_neg c55]; rfl) (ih (i + 1) _ _ (by omega))) | exact V.mem (M' := zo M0 (foT T (fun x => M0 (30 + x) 4) od (i + 1))) (by congr 1; funext x; show _ = (if x = od i then _ else _); by_cases q : x = od i; subst q; rw [if_pos rfl, ← c55]; rw [if_neg q]) (V.lseq (ls' := [some (.ref 5), some (.int (nI (tkC T (fun x => M0 (30 + x) 4) od (i + 1)))), some (.int (nI (i + 1))), _, _]) (by rw [tkC, if_pos c55]; rfl) (ih (i + 1) _ _ (by omega)))
set_option maxHeartbeats 4000000 in
set_option maxRecDepth 100000 in
theorem c_take {g : GG} {d : Nat} {M : Mem} {Q : Option Value → Mem → Prop} {T : Nat → Int32} {od : Nat → Nat} {m n : Nat} (hO : Od M od m n) (hT : ∀ i, i < m → M 56 (od i) = T i) (hQ : Q (some (.int (nI (tkC T (fun x => M (30 + x) 4) od m)))) (zo M (foT T (fun x => M (30 + x) 4) od m))) : V cS g (d + 2) mX5_takeOver 0 [some (.ref 5), none, none, none, none] [] M Q := by
  refine V.iconst dX5_takeOver_0 (v := 0) (by decide) ?_
  refine V.istore_n dX5_takeOver_1 rfl (i := 1) (by decide) (fun _ h => by cases h; exact Or.inl rfl) rfl ?_
  refine V.iconst dX5_takeOver_2 (v := 0) (by decide) ?_
  refine V.istore_n dX5_takeOver_3 rfl (i := 2) (by decide) (fun _ h => by cases h; exact Or.inl rfl) rfl ?_
  exact V.mem (M' := zo M (foT T (fun x => M (30 + x) 4) od 0)) (by rw [foT, zo_same]) (l_take hO hT hQ m 0 _ _ (by omega))

