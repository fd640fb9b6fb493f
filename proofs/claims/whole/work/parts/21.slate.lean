/-! ===== Slate: the order ===== -/
/-- the order, the last one first; a bell comes behind all whose offset isn't greater -/
def insR (off : Nat → Int32) (b : Nat) : List Nat → List Nat
  | [] => [b]
  | x :: t => if off x ≤ off b then b :: x :: t else x :: insR off b t
theorem insR_len (off : Nat → Int32) (b : Nat) : ∀ r, (insR off b r).length = r.length + 1
  | [] => rfl
  | x :: t => by
    unfold insR
    split
    · rfl
    · rw [List.length_cons, insR_len off b t, List.length_cons]
theorem insR_mem {off : Nat → Int32} {b y : Nat} : ∀ {r : List Nat}, y ∈ insR off b r → y = b ∨ y ∈ r
  | [], h => by simp [insR] at h; exact Or.inl h
  | x :: t, h => by
    unfold insR at h
    split at h
    · rcases List.mem_cons.mp h with h | h
      · exact Or.inl h
      · exact Or.inr h
    · rcases List.mem_cons.mp h with h | h
      · exact Or.inr (by rw [h]; exact List.mem_cons_self)
      · rcases insR_mem h with h | h
        · exact Or.inl h
        · exact Or.inr (List.mem_cons_of_mem _ h)
/-- the order of those that strike, of the first n bells -/
def odR (off : Nat → Int32) (p : Nat → Bool) : Nat → List Nat
  | 0 => []
  | n + 1 => if p n = true then insR off n (odR off p n) else odR off p n
theorem odR_lt {off : Nat → Int32} {p : Nat → Bool} : ∀ {n x : Nat}, x ∈ odR off p n → x < n
  | 0, x, h => by simp [odR] at h
  | n + 1, x, h => by
    unfold odR at h
    split at h
    · rcases insR_mem h with h | h
      · omega
      · have := odR_lt h; omega
    · have := odR_lt h; omega
theorem odR_len {off : Nat → Int32} {p : Nat → Bool} : ∀ n, (odR off p n).length ≤ n
  | 0 => Nat.le_refl _
  | n + 1 => by
    have := odR_len (off := off) (p := p) n
    unfold odR
    split
    · rw [insR_len]; omega
    · omega
/-- the row f holds the order r (its last one first in r) -/
def OdOK (f : Nat → Int32) (r : List Nat) : Prop := ∀ k, k < r.length → f (r.length - 1 - k) = nI (r.getD k 0)
theorem OdOK.tail {f : Nat → Int32} {x : Nat} {t : List Nat} (h : OdOK f (x :: t)) : OdOK f t := by
  intro k hk
  have := h (k + 1) (by rw [List.length_cons]; omega)
  rw [List.length_cons, List.getD_cons_succ] at this
  rw [← this]
  congr 1
  omega
theorem OdOK.top {f : Nat → Int32} {x : Nat} {t : List Nat} (h : OdOK f (x :: t)) : f t.length = nI x := by
  have := h 0 (by simp)
  simpa using this
theorem OdOK.cong {f f' : Nat → Int32} {r : List Nat} (h : OdOK f r) (e : ∀ k, k < r.length → f' k = f k) : OdOK f' r := by
  intro k hk
  rw [e _ (by omega)]
  exact h k hk
theorem gd_l {l r : List Nat} {k : Nat} (h : k < l.length) : (l ++ r).getD k 0 = l.getD k 0 := by simp [List.getD, List.getElem?_append_left h]
theorem gd_r {l r : List Nat} {k : Nat} (h : l.length ≤ k) : (l ++ r).getD k 0 = r.getD (k - l.length) 0 := by simp [List.getD, List.getElem?_append_right h]
/-- behind the place that is free, the row holds dn -/
def TlOK (f : Nat → Int32) (m : Nat) (dn : List Nat) : Prop := ∀ j, j < dn.length → f (m - j) = nI (dn.getD j 0)
theorem ins_fin {f : Nat → Int32} {dn t : List Nat} {b m : Nat} (hm : dn.length + t.length = m) (h1 : OdOK f t) (h2 : TlOK f m dn) : OdOK (fun i => if i = t.length then nI b else f i) (dn ++ b :: t) := by
  intro k hk
  rw [List.length_append, List.length_cons] at hk ⊢
  by_cases c1 : k < dn.length
  · show (if dn.length + (t.length + 1) - 1 - k = t.length then nI b else _) = _
    rw [if_neg (by omega), gd_l c1, ← h2 k c1]
    congr 1
    omega
  · by_cases c2 : k = dn.length
    · subst c2
      show (if dn.length + (t.length + 1) - 1 - dn.length = t.length then nI b else _) = _
      rw [if_pos (by omega), gd_r (Nat.le_refl _), Nat.sub_self]
      rfl
    · show (if dn.length + (t.length + 1) - 1 - k = t.length then nI b else _) = _
      rw [if_neg (by omega), gd_r (by omega)]
      have e := h1 (k - dn.length - 1) (by omega)
      obtain ⟨j, hj⟩ : ∃ j, k - dn.length = j + 1 := ⟨k - dn.length - 1, by omega⟩
      rw [hj, List.getD_cons_succ, ← show k - dn.length - 1 = j by omega, ← e]
      congr 1
      omega

set_option maxHeartbeats 4000000 in
set_option maxRecDepth 100000 in
theorem l_ins {g : GG} {d : Nat} {Q : Option Value → Mem → Prop} {M0 : Mem} {m b : Nat} (hb : b < 8) (hm : m < 8) (hs : M0 5 3 = nI m) : ∀ (t dn : List Nat) (M : Mem), dn.length + t.length = m → (∀ x ∈ t, x < 8) → eqx [55] M0 M → OdOK (M 55) t → TlOK (M 55) m dn → (∀ M', eqx [55] M0 M' → OdOK (M' 55) (dn ++ insR (fun x => M0 (30 + x) 4) b t) → Q none (put M' 5 3 (nI (m + 1)))) → V cS g d mX5_insert 17 [some (.ref 5), some (.int (nI b)), some (.int (nI t.length)), some (.int (nI dn.length))] [] M Q := by
  intro t
  induction t with
  | nil =>
    intro dn M hl ht he h1 h2 hQ
    rw [List.length_nil, Nat.add_zero] at hl
    have hz : M 5 3 = nI m := by rw [he 5 (by decide)]; exact hs
    refine V.iload_n dX5_insert_17 rfl (i := 3) rfl ?_
    refine V.aload_n dX5_insert_18 rfl (i := 0) rfl ?_
    refine V.getI dX5_insert_19 rfl flRX5_38 rfl ⟨by decide, by decide⟩ ?_
    refine V.top (x' := (nI m)) (hz) ?_
    refine V.ic_ge (tgt := 85) dX5_insert_22 (by decide) (fun c22 => ?_) (fun q => absurd ((nI_le (a := m) (b := dn.length) (by omega) (by omega))) q)
    refine V.aload_n dX5_insert_85 rfl (i := 0) rfl ?_
    refine V.getR dX5_insert_86 rfl flRX5_9 rfl ⟨by decide, by decide⟩ ?_
    refine V.iload_n dX5_insert_89 rfl (i := 2) rfl ?_
    refine V.iload_n dX5_insert_90 rfl (i := 1) rfl ?_
    refine V.iastN dX5_insert_91 rfl ⟨by decide, by decide⟩ (by first | assumption | decide | omega) (by decide) ?_
    refine V.aload_n dX5_insert_92 rfl (i := 0) rfl ?_
    refine V.dup dX5_insert_93 rfl ?_
    refine V.getI dX5_insert_94 rfl flRX5_38 rfl ⟨by decide, by decide⟩ ?_
    refine V.top (x' := (nI m)) ((by rw [put_cell (by decide)]; exact hz)) ?_
    refine V.iconst dX5_insert_97 (v := 1) (by decide) ?_
    refine V.iadd dX5_insert_98 ?_
    refine V.top (x' := (nI (m + 1))) (nI_add m 1) ?_
    refine V.putI dX5_insert_99 rfl fpRX5_38 rfl ⟨by decide, by decide⟩ ?_
    exact V.vret dX5_insert_102 rfl (hQ _ (he.put (by decide)) (by rw [put_f]; exact ins_fin (t := []) (by simpa using hl) h1 h2))
  | cons x t ih =>
    intro dn M hl ht he h1 h2 hQ
    rw [List.length_cons] at hl
    have hz : M 5 3 = nI m := by rw [he 5 (by decide)]; exact hs
    have hx : x < 8 := ht x List.mem_cons_self
    have h3 : M 55 t.length = nI x := h1.top
    have hl8 : t.length < 8 := by omega
    have hl9 : t.length + 1 < 8 := by omega
    by_cases hc : M0 (30 + x) 4 ≤ M0 (30 + b) 4
    · refine V.lseq (ls' := [some (.ref 5), some (.int (nI b)), some (.int (nI (t.length + 1))), some (.int (nI dn.length))]) rfl ?_
      refine V.iload_n dX5_insert_17 rfl (i := 3) rfl ?_
      refine V.aload_n dX5_insert_18 rfl (i := 0) rfl ?_
      refine V.getI dX5_insert_19 rfl flRX5_38 rfl ⟨by decide, by decide⟩ ?_
      refine V.top (x' := (nI m)) (hz) ?_
      refine V.ic_ge (tgt := 85) dX5_insert_22 (by decide) (fun q => absurd q ((nI_ge (a := dn.length) (b := m) (by omega) (by omega)))) (fun c22 => ?_)
      refine V.aload_n dX5_insert_25 rfl (i := 0) rfl ?_
      refine V.getR dX5_insert_26 rfl flRX5_18 rfl ⟨by decide, by decide⟩ ?_
      refine V.getR dX5_insert_29 rfl flRX5_44 rfl ⟨by decide, by decide⟩ ?_
      refine V.aload_n dX5_insert_32 rfl (i := 0) rfl ?_
      refine V.getR dX5_insert_33 rfl flRX5_9 rfl ⟨by decide, by decide⟩ ?_
      refine V.iload_n dX5_insert_36 rfl (i := 2) rfl ?_
      refine V.iconst dX5_insert_37 (v := 1) (by decide) ?_
      refine V.isub dX5_insert_38 ?_
      refine V.top (x' := (nI t.length)) ((nI_pred _)) ?_
      refine V.ialdN dX5_insert_39 rfl ⟨by decide, by decide⟩ (by first | assumption | decide | omega) (by decide) ?_
      refine V.top (x' := (nI x)) (h3) ?_
      refine V.aaldBN dX5_insert_40 rfl ⟨by decide, by decide⟩ (by first | assumption | decide | omega) (by decide) ?_
      refine V.getI dX5_insert_41 rfl flRX5_58 (fkB30 (by first | assumption | decide | omega) (by decide)) (inB30 (by first | assumption | decide | omega)) ?_
      refine V.top (x' := (M0 (30 + x) 4)) ((by rw [he (30 + x) (by simp; omega)])) ?_
      refine V.aload_n dX5_insert_44 rfl (i := 0) rfl ?_
      refine V.getR dX5_insert_45 rfl flRX5_18 rfl ⟨by decide, by decide⟩ ?_
      refine V.getR dX5_insert_48 rfl flRX5_44 rfl ⟨by decide, by decide⟩ ?_
      refine V.iload_n dX5_insert_51 rfl (i := 1) rfl ?_
      refine V.aaldBN dX5_insert_52 rfl ⟨by decide, by decide⟩ (by first | assumption | decide | omega) (by decide) ?_
      refine V.getI dX5_insert_53 rfl flRX5_58 (fkB30 (by first | assumption | decide | omega) (by decide)) (inB30 (by first | assumption | decide | omega)) ?_
      refine V.top (x' := (M0 (30 + b) 4)) ((by rw [he (30 + b) (by simp; omega)])) ?_
      refine V.ic_gt (tgt := 62) dX5_insert_56 (by decide) (fun q => absurd q ((Int32.not_lt.mpr hc))) (fun c56 => ?_)
      refine V.goto dX5_insert_59 (tgt := 85) (by decide) ?_
      refine V.aload_n dX5_insert_85 rfl (i := 0) rfl ?_
      refine V.getR dX5_insert_86 rfl flRX5_9 rfl ⟨by decide, by decide⟩ ?_
      refine V.iload_n dX5_insert_89 rfl (i := 2) rfl ?_
      refine V.iload_n dX5_insert_90 rfl (i := 1) rfl ?_
      refine V.iastN dX5_insert_91 rfl ⟨by decide, by decide⟩ (by first | assumption | decide | omega) (by decide) ?_
      refine V.aload_n dX5_insert_92 rfl (i := 0) rfl ?_
      refine V.dup dX5_insert_93 rfl ?_
      refine V.getI dX5_insert_94 rfl flRX5_38 rfl ⟨by decide, by decide⟩ ?_
      refine V.top (x' := (nI m)) ((by rw [put_cell (by decide)]; exact hz)) ?_
      refine V.iconst dX5_insert_97 (v := 1) (by decide) ?_
      refine V.iadd dX5_insert_98 ?_
      refine V.top (x' := (nI (m + 1))) (nI_add m 1) ?_
      refine V.putI dX5_insert_99 rfl fpRX5_38 rfl ⟨by decide, by decide⟩ ?_
      exact V.vret dX5_insert_102 rfl (hQ _ (he.put (by decide)) (by rw [put_f, insR, if_pos hc]; exact ins_fin (t := x :: t) (by rw [List.length_cons]; omega) h1 h2))
    · refine V.lseq (ls' := [some (.ref 5), some (.int (nI b)), some (.int (nI (t.length + 1))), some (.int (nI dn.length))]) rfl ?_
      refine V.iload_n dX5_insert_17 rfl (i := 3) rfl ?_
      refine V.aload_n dX5_insert_18 rfl (i := 0) rfl ?_
      refine V.getI dX5_insert_19 rfl flRX5_38 rfl ⟨by decide, by decide⟩ ?_
      refine V.top (x' := (nI m)) (hz) ?_
      refine V.ic_ge (tgt := 85) dX5_insert_22 (by decide) (fun q => absurd q ((nI_ge (a := dn.length) (b := m) (by omega) (by omega)))) (fun c22 => ?_)
      refine V.aload_n dX5_insert_25 rfl (i := 0) rfl ?_
      refine V.getR dX5_insert_26 rfl flRX5_18 rfl ⟨by decide, by decide⟩ ?_
      refine V.getR dX5_insert_29 rfl flRX5_44 rfl ⟨by decide, by decide⟩ ?_
      refine V.aload_n dX5_insert_32 rfl (i := 0) rfl ?_
      refine V.getR dX5_insert_33 rfl flRX5_9 rfl ⟨by decide, by decide⟩ ?_
      refine V.iload_n dX5_insert_36 rfl (i := 2) rfl ?_
      refine V.iconst dX5_insert_37 (v := 1) (by decide) ?_
      refine V.isub dX5_insert_38 ?_
      refine V.top (x' := (nI t.length)) ((nI_pred _)) ?_
      refine V.ialdN dX5_insert_39 rfl ⟨by decide, by decide⟩ (by first | assumption | decide | omega) (by decide) ?_
      refine V.top (x' := (nI x)) (h3) ?_
      refine V.aaldBN dX5_insert_40 rfl ⟨by decide, by decide⟩ (by first | assumption | decide | omega) (by decide) ?_
      refine V.getI dX5_insert_41 rfl flRX5_58 (fkB30 (by first | assumption | decide | omega) (by decide)) (inB30 (by first | assumption | decide | omega)) ?_
      refine V.top (x' := (M0 (30 + x) 4)) ((by rw [he (30 + x) (by simp; omega)])) ?_
      refine V.aload_n dX5_insert_44 rfl (i := 0) rfl ?_
      refine V.getR dX5_insert_45 rfl flRX5_18 rfl ⟨by decide, by decide⟩ ?_
      refine V.getR dX5_insert_48 rfl flRX5_44 rfl ⟨by decide, by decide⟩ ?_
      refine V.iload_n dX5_insert_51 rfl (i := 1) rfl ?_
      refine V.aaldBN dX5_insert_52 rfl ⟨by decide, by decide⟩ (by first | assumption | decide | omega) (by decide) ?_
      refine V.getI dX5_insert_53 rfl flRX5_58 (fkB30 (by first | assumption | decide | omega) (by decide)) (inB30 (by first | assumption | decide | omega)) ?_
      refine V.top (x' := (M0 (30 + b) 4)) ((by rw [he (30 + b) (by simp; omega)])) ?_
      refine V.ic_gt (tgt := 62) dX5_insert_56 (by decide) (fun c56 => ?_) (fun q => absurd ((Int32.not_le.mp hc)) q)
      refine V.aload_n dX5_insert_62 rfl (i := 0) rfl ?_
      refine V.getR dX5_insert_63 rfl flRX5_9 rfl ⟨by decide, by decide⟩ ?_
      refine V.iload_n dX5_insert_66 rfl (i := 2) rfl ?_
      refine V.aload_n dX5_insert_67 rfl (i := 0) rfl ?_
      refine V.getR dX5_insert_68 rfl flRX5_9 rfl ⟨by decide, by decide⟩ ?_
      refine V.iload_n dX5_insert_71 rfl (i := 2) rfl ?_
      refine V.iconst dX5_insert_72 (v := 1) (by decide) ?_
      refine V.isub dX5_insert_73 ?_
      refine V.top (x' := (nI t.length)) ((nI_pred _)) ?_
      refine V.ialdN dX5_insert_74 rfl ⟨by decide, by decide⟩ (by first | assumption | decide | omega) (by decide) ?_
      refine V.top (x' := (nI x)) (h3) ?_
      refine V.iastN dX5_insert_75 rfl ⟨by decide, by decide⟩ (by first | assumption | decide | omega) (by decide) ?_
      refine V.iinc dX5_insert_76 rfl (v := (nI t.length)) (pk_m1 _) (by decide) (fun _ h => by cases h; exact Or.inl rfl) rfl ?_
      refine V.iinc dX5_insert_79 rfl (v := (nI (dn.length + 1))) (nI_1 _) (by decide) (fun _ h => by cases h; exact Or.inl rfl) rfl ?_
      refine V.goto dX5_insert_82 (tgt := 17) (by decide) ?_
      exact V.lseq (ls' := [some (.ref 5), some (.int (nI b)), some (.int (nI t.length)), some (.int (nI (dn ++ [x]).length))]) (by rw [List.length_append]; rfl) (ih (dn ++ [x]) _ (by rw [List.length_append]; show dn.length + 1 + t.length = m; omega) (fun y hy => ht y (List.mem_cons_of_mem _ hy)) (he.put (by decide)) (h1.tail.cong (fun k hk => by rw [put_n (fun q => by omega)])) (fun j hj => by rw [List.length_append] at hj; by_cases q : j = dn.length; subst q; rw [show m - dn.length = t.length + 1 by omega, put_s]; simp; rw [put_n (fun z => by have hj2 : j < dn.length + 1 := hj; omega), h2 j (by have hj2 : j < dn.length + 1 := hj; omega), gd_l (by have hj2 : j < dn.length + 1 := hj; omega)]) (fun M' h' ho => hQ M' h' (by rw [insR, if_neg hc]; rw [List.append_assoc] at ho; exact ho)))
set_option maxHeartbeats 4000000 in
set_option maxRecDepth 100000 in
theorem c_insert {g : GG} {d : Nat} {M : Mem} {Q : Option Value → Mem → Prop} {r : List Nat} {b : Nat} (hb : b < 8) (hm : r.length < 8) (hs : M 5 3 = nI r.length) (hr : ∀ x ∈ r, x < 8) (ho : OdOK (M 55) r) (hQ : ∀ M', eqx [5, 55] M M' → M' 5 3 = nI (r.length + 1) → OdOK (M' 55) (insR (fun x => M (30 + x) 4) b r) → Q none M') : V cS g d mX5_insert 0 [some (.ref 5), some (.int (nI b)), none, none] [] M Q := by
  refine V.aload_n dX5_insert_0 rfl (i := 0) rfl ?_
  refine V.getI dX5_insert_1 rfl flRX5_38 rfl ⟨by decide, by decide⟩ ?_
  refine V.top (x' := (nI r.length)) (hs) ?_
  refine V.bipush dX5_insert_4 (v := 8) (by decide) ?_
  refine V.ic_lt (tgt := 10) dX5_insert_6 (by decide) (fun c6 => ?_) (fun q => absurd ((nI_lt (b := 8) (by omega) (by omega))) q)
  refine V.aload_n dX5_insert_10 rfl (i := 0) rfl ?_
  refine V.getI dX5_insert_11 rfl flRX5_38 rfl ⟨by decide, by decide⟩ ?_
  refine V.top (x' := (nI r.length)) (hs) ?_
  refine V.istore_n dX5_insert_14 rfl (i := 2) (by decide) (fun _ h => by cases h; exact Or.inl rfl) rfl ?_
  refine V.iconst dX5_insert_15 (v := 0) (by decide) ?_
  refine V.istore_n dX5_insert_16 rfl (i := 3) (by decide) (fun _ h => by cases h; exact Or.inl rfl) rfl ?_
  exact l_ins hb hm hs r [] M (by simp) hr eqx.rf ho (fun j hj => absurd hj (Nat.not_lt_zero _)) (fun M' h' h2 => hQ _ ((h'.up (by decide)).put (by decide)) put_s (by rw [put_cell (by decide)]; exact h2))
theorem insR_cong {off off' : Nat → Int32} {b N : Nat} (h : ∀ x, x < N → off x = off' x) : ∀ {r : List Nat}, (∀ x ∈ r, x < N) → b < N → insR off b r = insR off' b r
  | [], _, _ => rfl
  | x :: t, hr, hb => by
    unfold insR
    rw [h x (hr x List.mem_cons_self), h b hb, insR_cong h (fun y hy => hr y (List.mem_cons_of_mem _ hy)) hb]
set_option maxHeartbeats 4000000 in
set_option maxRecDepth 100000 in
theorem l_line {g : GG} {d : Nat} {Q : Option Value → Mem → Prop} {M0 : Mem} {hour : Int32} {n : Nat} (hn : M0 1 2 = nI n) (h8 : n ≤ 8) : ∀ (k i : Nat) (M : Mem), i + k = n → eqx [5, 55] M0 M → M 5 3 = nI (odR (fun x => M0 (30 + x) 4) (fun b => strk (M0 (30 + b) 0) (M0 (30 + b) 1) (M0 (30 + b) 6) hour) i).length → OdOK (M 55) (odR (fun x => M0 (30 + x) 4) (fun b => strk (M0 (30 + b) 0) (M0 (30 + b) 1) (M0 (30 + b) 6) hour) i) → (∀ M', eqx [5, 55] M0 M' → M' 5 3 = nI (odR (fun x => M0 (30 + x) 4) (fun b => strk (M0 (30 + b) 0) (M0 (30 + b) 1) (M0 (30 + b) 6) hour) n).length → OdOK (M' 55) (odR (fun x => M0 (30 + x) 4) (fun b => strk (M0 (30 + b) 0) (M0 (30 + b) 1) (M0 (30 + b) 6) hour) n) → Q none M') → V cS g (d + 5) mX5_lineUp 22 [some (.ref 5), some (.int hour), some (.int (nI i))] [] M Q := by
  intro k
  induction k with
  | zero =>
    intro i M hk he h1 h2 hQ
    obtain rfl : i = n := by omega
    have hz : M 1 2 = nI i := by rw [he 1 (by decide)]; exact hn
    refine V.iload_n dX5_lineUp_22 rfl (i := 2) rfl ?_
    refine V.aload_n dX5_lineUp_23 rfl (i := 0) rfl ?_
    refine V.getR dX5_lineUp_24 rfl flRX5_18 rfl ⟨by decide, by decide⟩ ?_
    refine V.getI dX5_lineUp_27 rfl flRX5_41 rfl ⟨by decide, by decide⟩ ?_
    refine V.top (x' := (nI i)) (hz) ?_
    refine V.ic_ge (tgt := 60) dX5_lineUp_30 (by decide) (fun c30 => ?_) (fun q => absurd ((Int32.le_refl _)) q)
    exact V.vret dX5_lineUp_60 rfl (hQ M he h1 h2)
  | succ k ih =>
    intro i M hk he h1 h2 hQ
    have hz : M 1 2 = nI n := by rw [he 1 (by decide)]; exact hn
    have hi : i < 8 := by omega
    have hl := odR_len (off := (fun x => M0 (30 + x) 4)) (p := (fun b => strk (M0 (30 + b) 0) (M0 (30 + b) 1) (M0 (30 + b) 6) hour)) i
    have hb30 : ∀ x, x < 8 → M (30 + x) = M0 (30 + x) := fun x hx => he (30 + x) (by simp; omega)
    have hc46 : b2i (strk (M (30 + i) 0) (M (30 + i) 1) (M (30 + i) 6) hour = true) = b2i ((fun b => strk (M0 (30 + b) 0) (M0 (30 + b) 1) (M0 (30 + b) 6) hour) i = true) := by rw [hb30 i hi]
    refine V.iload_n dX5_lineUp_22 rfl (i := 2) rfl ?_
    refine V.aload_n dX5_lineUp_23 rfl (i := 0) rfl ?_
    refine V.getR dX5_lineUp_24 rfl flRX5_18 rfl ⟨by decide, by decide⟩ ?_
    refine V.getI dX5_lineUp_27 rfl flRX5_41 rfl ⟨by decide, by decide⟩ ?_
    refine V.top (x' := (nI n)) (hz) ?_
    refine V.ic_ge (tgt := 60) dX5_lineUp_30 (by decide) (fun q => absurd q ((nI_ge (a := i) (b := n) (by omega) (by omega)))) (fun c30 => ?_)
    refine V.aload_n dX5_lineUp_33 rfl (i := 0) rfl ?_
    refine V.getR dX5_lineUp_34 rfl flRX5_18 rfl ⟨by decide, by decide⟩ ?_
    refine V.getR dX5_lineUp_37 rfl flRX5_44 rfl ⟨by decide, by decide⟩ ?_
    refine V.iload_n dX5_lineUp_40 rfl (i := 2) rfl ?_
    refine V.aaldBN dX5_lineUp_41 rfl ⟨by decide, by decide⟩ (by first | assumption | decide | omega) (by decide) ?_
    refine V.iload_n dX5_lineUp_42 rfl (i := 1) rfl ?_
    refine V.invv (z := mX0_ringsAt) (As := [_]) dX5_lineUp_43 rfl mlRX5_48 okX0_ringsAt npX0_ringsAt rfl (layO30 (by first | assumption | decide | omega)) rfl (inB30 (by first | assumption | decide | omega)) (Nat.le_of_ble_eq_true rfl) rfl (Nat.le_of_ble_eq_true rfl) (c_ringsAt  (by first | assumption | decide | omega) ?_)
    show V cS g (d + 5) mX5_lineUp 46 [some (.ref 5), some (.int hour), some (.int (nI i))] [.int (b2i (strk (M (30 + i) 0) (M (30 + i) 1) (M (30 + i) 6) hour = true))] (M) Q
    refine V.top (x' := (b2i ((fun b => strk (M0 (30 + b) 0) (M0 (30 + b) 1) (M0 (30 + b) 6) hour) i = true))) (hc46) ?_
    refine V.if_eq (tgt := 54) dX5_lineUp_46 (by decide) (fun c46 => ?_) (fun c46 => ?_)
    · refine V.iinc dX5_lineUp_54 rfl (v := (nI (i + 1))) (nI_1 _) (by decide) (fun _ h => by cases h; exact Or.inl rfl) rfl ?_
      refine V.goto dX5_lineUp_57 (tgt := 22) (by decide) ?_
      first | exact ih (i + 1) M (by omega) he (by rw [odR, if_neg (b2i_0.mp c46)]; exact h1) (by rw [odR, if_neg (b2i_0.mp c46)]; exact h2) hQ | exact ih (i + 1) M1 (by omega) (he.tr hM1) (by rw [odR, if_pos (Classical.byContradiction fun z => c46 (b2i_f z)), insR_len]; exact h3) (by rw [odR, if_pos (Classical.byContradiction fun z => c46 (b2i_f z))]; rw [insR_cong (off' := (fun x => M0 (30 + x) 4)) (fun x hx => by rw [hb30 x (by omega)]) (fun x hx => by have := odR_lt hx; omega) (by omega)] at h4; exact h4) hQ
    · refine V.aload_n dX5_lineUp_49 rfl (i := 0) rfl ?_
      refine V.iload_n dX5_lineUp_50 rfl (i := 2) rfl ?_
      refine V.invv (z := mX5_insert) (As := [_]) dX5_lineUp_51 rfl mlRX5_54 okX5_insert npX5_insert rfl rfl rfl ⟨by decide, by decide⟩ (Nat.le_of_ble_eq_true rfl) rfl (Nat.le_of_ble_eq_true rfl) (c_insert hi (by omega) h1 (fun x hx => by have := odR_lt hx; omega) h2 (fun M1 hM1 h3 h4 => ?_))
      show V cS g (d + 5) mX5_lineUp 54 [some (.ref 5), some (.int hour), some (.int (nI i))] [] M1 Q
      refine V.iinc dX5_lineUp_54 rfl (v := (nI (i + 1))) (nI_1 _) (by decide) (fun _ h => by cases h; exact Or.inl rfl) rfl ?_
      refine V.goto dX5_lineUp_57 (tgt := 22) (by decide) ?_
      first | exact ih (i + 1) M (by omega) he (by rw [odR, if_neg (b2i_0.mp c46)]; exact h1) (by rw [odR, if_neg (b2i_0.mp c46)]; exact h2) hQ | exact ih (i + 1) M1 (by omega) (he.tr hM1) (by rw [odR, if_pos (Classical.byContradiction fun z => c46 (b2i_f z)), insR_len]; exact h3) (by rw [odR, if_pos (Classical.byContradiction fun z => c46 (b2i_f z))]; rw [insR_cong (off' := (fun x => M0 (30 + x) 4)) (fun x hx => by rw [hb30 x (by omega)]) (fun x hx => by have := odR_lt hx; omega) (by omega)] at h4; exact h4) hQ
theorem odR_cong {off off' : Nat → Int32} {p p' : Nat → Bool} {N : Nat} (h : ∀ x, x < N → off x = off' x) (hp : ∀ x, x < N → p x = p' x) : ∀ {n : Nat}, n ≤ N → odR off p n = odR off' p' n
  | 0, _ => rfl
  | n + 1, hn => by
    unfold odR
    rw [hp n (by omega), odR_cong h hp (n := n) (by omega), insR_cong h (fun x hx => by have := odR_lt hx; omega) (by omega)]
set_option maxHeartbeats 4000000 in
set_option maxRecDepth 100000 in
theorem c_lineUp {g : GG} {d : Nat} {M : Mem} {Q : Option Value → Mem → Prop} {hour : Int32} {n ne : Nat} (hV : VB M n ne) (hQ : ∀ M', eqx (5 :: 55 :: scrH) M M' → Hd M' (hpF M (fun b => strk (M (30 + b) 0) (M (30 + b) 1) (M (30 + b) 6) hour) (M 1 5)) (wyF M (M 1 5)) n ne → M' 5 3 = nI (odR (fun x => M (30 + x) 4) (fun b => strk (M (30 + b) 0) (M (30 + b) 1) (M (30 + b) 6) hour) n).length → OdOK (M' 55) (odR (fun x => M (30 + x) 4) (fun b => strk (M (30 + b) 0) (M (30 + b) 1) (M (30 + b) 6) hour) n) → Q none M') : V cS g (d + 5) mX5_lineUp 0 [some (.ref 5), some (.int hour), none] [] M Q := by
  have h8 := hV.2.1
  refine V.aload_n dX5_lineUp_0 rfl (i := 0) rfl ?_
  refine V.getR dX5_lineUp_1 rfl flRX5_22 rfl ⟨by decide, by decide⟩ ?_
  refine V.iload_n dX5_lineUp_4 rfl (i := 1) rfl ?_
  refine V.aload_n dX5_lineUp_5 rfl (i := 0) rfl ?_
  refine V.getR dX5_lineUp_6 rfl flRX5_18 rfl ⟨by decide, by decide⟩ ?_
  refine V.getI dX5_lineUp_9 rfl flRX5_26 rfl ⟨by decide, by decide⟩ ?_
  refine V.invv (z := mX1_listen) (As := [_, _]) dX5_lineUp_12 rfl mlRX5_32 okX1_listen npX1_listen rfl rfl rfl ⟨by decide, by decide⟩ (Nat.le_of_ble_eq_true rfl) rfl (Nat.le_of_ble_eq_true rfl) (c_listen hV (fun M1 hM1 hH1 => ?_))
  show V cS g (d + 5) mX5_lineUp 15 [some (.ref 5), some (.int hour), none] [] M1 Q
  refine V.aload_n dX5_lineUp_15 rfl (i := 0) rfl ?_
  refine V.iconst dX5_lineUp_16 (v := 0) (by decide) ?_
  refine V.putI dX5_lineUp_17 rfl fpRX5_38 rfl ⟨by decide, by decide⟩ ?_
  have hb30 : ∀ x, x < 8 → M1 (30 + x) = M (30 + x) := fun x hx => hM1 (30 + x) (sH30 hx)
  have hod : odR (fun x => (put M1 5 3 0) (30 + x) 4) (fun b => strk ((put M1 5 3 0) (30 + b) 0) ((put M1 5 3 0) (30 + b) 1) ((put M1 5 3 0) (30 + b) 6) hour) n = odR (fun x => M (30 + x) 4) (fun b => strk (M (30 + b) 0) (M (30 + b) 1) (M (30 + b) 6) hour) n := odR_cong (N := 8) (fun x hx => by rw [put_cell (by omega), hb30 x hx]) (fun x hx => by rw [put_cell (by omega), hb30 x hx]) h8
  refine V.iconst dX5_lineUp_20 (v := 0) (by decide) ?_
  refine V.istore_n dX5_lineUp_21 rfl (i := 2) (by decide) (fun _ h => by cases h; exact Or.inl rfl) rfl ?_
  exact l_line (M0 := put M1 5 3 0) (by rw [put_cell (by decide), hM1 1 (by decide)]; exact hV.1) h8 n 0 _ (by omega) eqx.rf put_s (fun k hk => absurd hk (Nat.not_lt_zero _)) (fun M' h' h3 h4 => hQ M' (fun c hc => by rw [List.mem_cons, List.mem_cons, not_or, not_or] at hc; rw [h' c (by simp; exact ⟨hc.1, hc.2.1⟩), put_cell hc.1, hM1 c hc.2.2]) ⟨fun e he => by rw [h' 29 (by decide), put_cell (by decide)]; exact hH1.1 e he, fun b e hb he hh => by rw [h' (46 + b) (by simp; omega), put_cell (by omega)]; exact hH1.2 b e hb he hh⟩ (by rw [hod] at h3; exact h3) (by rw [hod] at h4; exact h4))

