/-! ===== String: its rows, length, charAt, indexOf ===== -/
section VS
variable {sd : Nat × Nat} {g : GG} {d : Nat} {y : XM} {pc : Nat} {ls : List (Option Value)} {st : List Value} {M : Mem} {Q : Option Value → Mem → Prop}
theorem V.strVal {own : String} {idx j : Nat} (hd : decode y.2.1 pc = .ok (.getfield idx, 3)) (ho : y.1.cls = own) (hj : j < 4) (hw : Cond.fieldLink own idx "java/lang/String" "value" "[B" ∈ lwG) (k : V sd g d y (pc + 3) ls (.ref (220 + j) :: st) M Q) : V sd g d y pc ls (.ref (210 + j) :: st) M Q :=
  fun p e s m ar be me c H lo lC h => vk_getf h.1 h.2.1 (h.2.2.2.2.2.2.2.1.2.2.2.1.1 j hj).2.2.1 h.2.2.2.2.2.2.2.2.2.1 (ho ▸ h.2.2.2.2.1) (h.2.2.2.2.2.2.1 _ (wsG_in hw)) (fun _ hx => hx) hd (k p e s m ar be me c H lo lC h)
theorem V.strCod {own : String} {idx j : Nat} (hd : decode y.2.1 pc = .ok (.getfield idx, 3)) (ho : y.1.cls = own) (hj : j < 4) (hw : Cond.fieldLink own idx "java/lang/String" "coder" "B" ∈ lwG) (k : V sd g d y (pc + 3) ls (.int 0 :: st) M Q) : V sd g d y pc ls (.ref (210 + j) :: st) M Q :=
  fun p e s m ar be me c H lo lC h => vk_getf h.1 h.2.1 (h.2.2.2.2.2.2.2.1.2.2.2.1.1 j hj).2.1 h.2.2.2.2.2.2.2.2.2.1 (ho ▸ h.2.2.2.2.1) (h.2.2.2.2.2.2.1 _ (wsG_in hw)) (fun _ hx => hx) hd (k p e s m ar be me c H lo lC h)
theorem V.strLen {j : Nat} (hd : decode y.2.1 pc = .ok (.arraylength, 1)) (hj : j < 4) (k : V sd g d y (pc + 1) ls (.int (nI (strL.getD j 0)) :: st) M Q) : V sd g d y pc ls (.ref (220 + j) :: st) M Q :=
  fun p e s m ar be me c H lo lC h => va_tlen h.1 h.2.1 (h.2.2.2.2.2.2.2.1.2.2.2.1.1 j hj).2.2.2 h.2.2.2.2.2.2.2.2.2.1 rfl hd (k p e s m ar be me c H lo lC h)
theorem strL_le : ∀ j, j < 4 → strL.getD j 0 ≤ 9 := by decide
theorem strL_B : ∀ j, j < 4 → strL.getD j 0 = (strB.getD j []).length := by decide
theorem V.strByt {j i : Nat} (hd : decode y.2.1 pc = .ok (.baload, 1)) (hj : j < 4) (hi : i < strL.getD j 0) (k : V sd g d y (pc + 1) ls (.int ((strB.getD j []).getD i 0) :: st) M Q) : V sd g d y pc ls (.int (nI i) :: .ref (220 + j) :: st) M Q :=
  fun p e s m ar be me c H lo lC h => va_tb h.1 h.2.1 (h.2.2.2.2.2.2.2.1.2.2.2.1.1 j hj).2.2.2 h.2.2.2.2.2.2.2.2.2.1 (vp_in_nI hi (by have := strL_le j hj; omega)) (by rw [nI_clamp (by have := strL_le j hj; omega)]; rfl) hd (k p e s m ar be me c H lo lC h)
theorem V.cmpS (hd : decode y.2.1 pc = .ok (.getstatic 38, 3)) (ho : y.1.cls = RJ0) (k : V sd g d y (pc + 3) ls (.int 1 :: st) M Q) : V sd g d y pc ls st M Q :=
  fun p e s m ar be me c H lo lC h => va_gets h.1 h.2.1 h.2.2.2.2.2.2.2.1.2.2.2.2.1.1 h.2.2.2.2.2.2.2.2.2.1 (ho ▸ h.2.2.2.2.1) (h.2.2.2.2.2.2.1 _ (wsG_in slRJ0_38)) (fun _ hx => hx) hd (k p e s m ar be me c H lo lC h)
theorem V.fmtS (hd : decode y.2.1 pc = .ok (.getstatic 1053, 3)) (ho : y.1.cls = RJ0) (k1 : V sd g d y (pc + 3) ls (.null :: st) M Q) (k2 : V sd g d y (pc + 3) ls (.ref 230 :: st) M Q) : V sd g d y pc ls st M Q := by
  intro p e s m ar be me c H lo lC h
  obtain ⟨v, hv, hz⟩ := h.2.2.2.2.2.2.2.1.2.2.2.2.1.2
  rcases hv with rfl | rfl
  · exact va_gets h.1 h.2.1 hz h.2.2.2.2.2.2.2.2.2.1 (ho ▸ h.2.2.2.2.1) (h.2.2.2.2.2.2.1 _ (wsG_in slRJ0_1053)) (fun _ hx => hx) hd (k1 p e s m ar be me c H lo lC h)
  · exact va_gets h.1 h.2.1 hz h.2.2.2.2.2.2.2.2.2.1 (ho ▸ h.2.2.2.2.1) (h.2.2.2.2.2.2.1 _ (wsG_in slRJ0_1053)) (fun _ hx => hx) hd (k2 p e s m ar be me c H lo lC h)
theorem V.tret {x : Int32} {ty : FieldType} (hd : decode y.2.1 pc = .ok (.ireturn, 1)) (hr : y.2.2.2 = some ty) (hx : narrow ty (.int x) = .int x) (hq : Q (some (.int x)) M) : V sd g d y pc ls [.int x] M Q :=
  fun p e s m ar be me c H lo lC h => W.zret h.1 h.2.1 (h.2.2.1.trans hr) hx (fun t ht hW => ⟨some (.int x), M, rfl, hq, by rw [ht]; exact h.2.2.2.2.2.2.2.2.1, h.2.2.2.2.2.2.2.2.2.1.F ht⟩) h.2.2.2.2.2.2.2.2.2.1.2.2 hd (hlocks := h.2.2.2.2.2.1)
theorem V.ldcSw {own tx : String} {i j : Nat} (hd : decode y.2.1 pc = .ok (.ldc_w i, 3)) (ho : y.1.cls = own) (hw : (own, i, tx, j) ∈ srT) (k : V sd g d y (pc + 3) ls (.ref (210 + j) :: st) M Q) : V sd g d y pc ls st M Q := by
  intro p e s m ar be me c H lo lC h T hT X
  have hZ := h.2.2.2.2.2.2.2.1.2.2.2.2.2.1 _ hw
  obtain ⟨t, a1, b1⟩ := k p e s m ar be me c H lo lC h T hT X
  exact ⟨t, X.ldcStringW h.1 (ho ▸ h.2.2.2.2.1) (text := tx) hZ.1 hZ.2 (g := F0 m pc lC (st.map (cvv g.2.2.1))) rfl (by rw [h.2.1]; exact hd) t a1, b1⟩
theorem V.topR {a a' : Nat} (h : a = a') (k : V sd g d y pc ls (.ref a' :: st) M Q) : V sd g d y pc ls (.ref a :: st) M Q := h ▸ k
theorem V.invK {z : XM} {own : String} {idx j n : Nat} {As : List Value} {ls0 : List (Option Value)} (hd : decode y.2.1 pc = .ok (.invokevirtual idx, 3)) (ho : y.1.cls = own) (hw : Cond.methodLink own idx z.1 ∈ lwG) (hz : MV z) (hn : np z n) (hl : As.length = n) (hj : j < 4) (hc : z.1.cls = "java/lang/String") (hst : stS st ≤ 8) (h0 : ent z.2.2.1 (.ref (210 + j) :: As) = ls0) (hlen : (entL (.ref (210 + j) :: As)).length ≤ z.2.2.1)
    (k : V sd g d z 0 ls0 [] M (fun r M' => V sd g (d + 1) y (pc + 3) ls (rst r st) M' Q)) : V sd g (d + 1) y pc ls (As.reverse ++ .ref (210 + j) :: st) M Q := by
  subst ho
  intro p e s m ar be me c H lo lC h
  have ht := h.2.2.2.2.2.2.1
  refine V.after h (va_runV (As := As.map (cvv g.2.2.1)) (rest := st.map (cvv g.2.2.1)) ⟨h.1, h.2.1, h.2.2.2.1, h.2.2.2.2.1, ht⟩ (k.met (av := .ref (210 + j) :: As) hz.1 h0 hlen)
    ⟨callB_of n ht (wsG_good hz.1) rfl rfl rfl (ht _ (wsG_in hz.1.2.1)) (ht _ (wsG_in hw)) ⟨hz.1.2.2.1.1, hz.1.2.2.1.2, hn⟩ (V.rm hz.1), ht _ (wsG_in hz.2.1), ht _ (wsG_in hz.2.2)⟩
    ⟨PG_blind, by rw [hc]; exact vk_recv (i := j) h.2.2.2.2.2.2.2.1.2.2.2.1 hj h.2.2.2.2.2.2.2.2.2.1, h.pre (.ref (210 + j) :: As)⟩ rfl (by rw [List.length_map]; exact hl) h.lc.1 (by simp [cvv]) (lv_room (by rw [stS_cv]; exact hst)) hd ⟨Nat.le_refl _, Nat.le_refl _⟩) (fun r M' h => h)
end VS
theorem shr0N {n : Nat} (h : n < 1000) : nI n >>> ((0 : Int32) &&& 31) = nI n := (pk_shrN (by omega) _ 0 (by decide)).trans (by rw [Nat.pow_zero, Nat.div_one])
/-- the place of a char in what is left of a text -/
def ixL (c : Int32) : List Int32 → Nat → Int32
  | [], _ => -1
  | b :: l, k => if b = c.toInt8.toInt32 then nI k else ixL c l (k + 1)
def nmI (us : Nat) (c : Int32) : Int32 := if us = 0 then (if c = 108 then 0 else if c = 100 then 1 else if c = 104 then 2 else if c = 119 then 3 else if c = 107 then 4 else -1) else (if c = 115 then 0 else if c = 114 then 1 else if c = 109 then 2 else -1)
theorem ixL_nm0 : ∀ c, c < 256 → ixL (nI c) (strB.getD 0 []) 0 = nmI 0 (nI c) := by decide +kernel
theorem ixL_nm1 : ∀ c, c < 256 → ixL (nI c) (strB.getD 1 []) 0 = nmI 1 (nI c) := by decide +kernel
theorem drop_at {l : List Int32} {k : Nat} (h : k < l.length) : l.drop k = l.getD k 0 :: l.drop (k + 1) := by
  rw [List.drop_eq_getElem_cons h, List.getD_eq_getElem?_getD, List.getElem?_eq_getElem h]
  rfl
theorem i2cN {c : Nat} (h : c < 256) : (Int32.toUInt32 (nI c) % 65536).toInt32 = nI c := by
  rw [pk_char, pk_tn (by omega), Nat.mod_eq_of_lt (by omega)]

set_option maxHeartbeats 4000000 in
set_option maxRecDepth 100000 in
theorem c_coder {g : GG} {d : Nat} {M : Mem} {Q : Option Value → Mem → Prop} {j : Nat} (hj : j < 4) (hQ : Q (some (.int (0))) (M)) : V cS g d mJ0_coder_7d493 0 [some (.ref (210 + j))] [] M Q := by
  refine V.cmpS dJ0_coder_7d493_0 rfl ?_
  refine V.if_eq (tgt := 13) dJ0_coder_7d493_3 (by decide) (fun q => absurd q ((by decide))) (fun c3 => ?_)
  refine V.aload_n dJ0_coder_7d493_6 rfl (i := 0) rfl ?_
  refine V.strCod dJ0_coder_7d493_7 rfl (by first | assumption | decide | omega) slRJ0_15 ?_
  refine V.goto dJ0_coder_7d493_10 (tgt := 14) (by decide) ?_
  exact V.tret dJ0_coder_7d493_14 rfl (by rfl) (hQ)
set_option maxHeartbeats 4000000 in
set_option maxRecDepth 100000 in
theorem c_latin {g : GG} {d : Nat} {M : Mem} {Q : Option Value → Mem → Prop} {j : Nat} (hj : j < 4) (hQ : Q (some (.int (1))) (M)) : V cS g d mJ0_isLatin1_aae02 0 [some (.ref (210 + j))] [] M Q := by
  refine V.cmpS dJ0_isLatin1_aae02_0 rfl ?_
  refine V.if_eq (tgt := 17) dJ0_isLatin1_aae02_3 (by decide) (fun q => absurd q ((by decide))) (fun c3 => ?_)
  refine V.aload_n dJ0_isLatin1_aae02_6 rfl (i := 0) rfl ?_
  refine V.strCod dJ0_isLatin1_aae02_7 rfl (by first | assumption | decide | omega) slRJ0_15 ?_
  refine V.if_ne (tgt := 17) dJ0_isLatin1_aae02_10 (by decide) (fun q => absurd (rfl) q) (fun c10 => ?_)
  refine V.iconst dJ0_isLatin1_aae02_13 (v := 1) (by decide) ?_
  refine V.goto dJ0_isLatin1_aae02_14 (tgt := 18) (by decide) ?_
  exact V.zret dJ0_isLatin1_aae02_18 rfl (by first | exact Or.inl rfl | exact Or.inr rfl | assumption | exact b2i_zo _ | (repeat' split) <;> first | exact Or.inl rfl | exact Or.inr rfl | assumption | exact b2i_zo _) (hQ)
set_option maxHeartbeats 4000000 in
set_option maxRecDepth 100000 in
theorem c_strlen {g : GG} {d : Nat} {M : Mem} {Q : Option Value → Mem → Prop} {j : Nat} (hj : j < 4) (hQ : Q (some (.int (nI (strL.getD j 0)))) (M)) : V cS g (d + 1) mJ0_length_8abf5 0 [some (.ref (210 + j))] [] M Q := by
  refine V.aload_n dJ0_length_8abf5_0 rfl (i := 0) rfl ?_
  refine V.strVal dJ0_length_8abf5_1 rfl (by first | assumption | decide | omega) slRJ0_9 ?_
  refine V.strLen dJ0_length_8abf5_4 (by first | assumption | decide | omega) ?_
  refine V.aload_n dJ0_length_8abf5_5 rfl (i := 0) rfl ?_
  refine V.invK (z := mJ0_coder_7d493) (As := []) dJ0_length_8abf5_6 rfl mlRJ0_335 okJ0_coder_7d493 npJ0_coder_7d493 rfl (by first | assumption | decide | omega) rfl (Nat.le_of_ble_eq_true rfl) rfl (Nat.le_of_ble_eq_true rfl) (c_coder  (by first | assumption | decide | omega) ?_)
  show V cS g (d + 1) mJ0_length_8abf5 9 [some (.ref (210 + j))] [.int (0), .int (nI (strL.getD j 0))] (M) Q
  refine V.ishr dJ0_length_8abf5_9 ?_
  refine V.top (x' := (nI (strL.getD j 0))) ((shr0N (by have := strL_le j hj; omega))) ?_
  exact V.ret dJ0_length_8abf5_10 rfl (hQ)
set_option maxHeartbeats 4000000 in
set_option maxRecDepth 100000 in
theorem c_canEnc {g : GG} {d : Nat} {M : Mem} {Q : Option Value → Mem → Prop} {c : Int32}  (hQ : Q (some (.int (b2i (0 ≤ c ∧ c ≤ 255)))) (M)) : V cS g d mJ1_canEncode_9a6ad 0 [some (.int c)] [] M Q := by
  refine V.iload_n dJ1_canEncode_9a6ad_0 rfl (i := 0) rfl ?_
  suffices kJ1 : V cS g d mJ1_canEncode_9a6ad 16 [some (.int c)] [.int (if c < (0 : Int32) then (0 : Int32) else (if (255 : Int32) < c then (0 : Int32) else (1 : Int32)))] M Q by
    refine V.if_lt (tgt := 15) dJ1_canEncode_9a6ad_1 (by decide) (fun c1 => ?_) (fun c1 => ?_)
    · refine V.iconst dJ1_canEncode_9a6ad_15 (v := 0) (by decide) ?_
      rw [if_pos c1] at kJ1; exact kJ1
    · refine V.iload_n dJ1_canEncode_9a6ad_4 rfl (i := 0) rfl ?_
      refine V.sipush dJ1_canEncode_9a6ad_5 (v := 255) (by decide) ?_
      refine V.ic_gt (tgt := 15) dJ1_canEncode_9a6ad_8 (by decide) (fun c8 => ?_) (fun c8 => ?_)
      · refine V.iconst dJ1_canEncode_9a6ad_15 (v := 0) (by decide) ?_
        rw [if_neg c1, if_pos c8] at kJ1; exact kJ1
      · refine V.iconst dJ1_canEncode_9a6ad_11 (v := 1) (by decide) ?_
        refine V.goto dJ1_canEncode_9a6ad_12 (tgt := 16) (by decide) ?_
        rw [if_neg c1, if_neg c8] at kJ1; exact kJ1
  exact V.zret dJ1_canEncode_9a6ad_16 rfl (by first | exact Or.inl rfl | exact Or.inr rfl | assumption | exact b2i_zo _ | (repeat' split) <;> first | exact Or.inl rfl | exact Or.inr rfl | assumption | exact b2i_zo _) (Qi hQ (by unfold b2i; (repeat' split) <;> (try simp_all [Int32.not_le, Int32.not_lt]) <;> (try (simp only [Int32.lt_iff_toInt_lt, Int32.le_iff_toInt_le, ← Int32.toInt_inj, Int32.reduceToInt] at *; omega))))
set_option maxHeartbeats 4000000 in
set_option maxRecDepth 100000 in
theorem l_ix {g : GG} {d : Nat} {M : Mem} {Q : Option Value → Mem → Prop} {j c : Nat} {f0 : Int32} (hj : j < 4) : ∀ (r k : Nat), k + r = strL.getD j 0 → Q (some (.int (ixL (nI c) ((strB.getD j []).drop k) k))) M → V cS g d mJ1_indexOfChar_4cfef 7 [some (.ref (220 + j)), some (.int (nI c)), some (.int f0), some (.int (nI (strL.getD j 0))), some (.int (Int32.toInt8 (nI c)).toInt32), some (.int (nI k))] [] M Q := by
  have h9 := strL_le j hj
  have hB := strL_B j hj
  intro r
  induction r with
  | zero =>
    intro k hk hQ
    rw [List.drop_eq_nil_of_le (by omega)] at hQ
    refine V.iload dJ1_indexOfChar_4cfef_7 rfl ?_
    refine V.iload_n dJ1_indexOfChar_4cfef_9 rfl (i := 3) rfl ?_
    refine V.ic_ge (tgt := 31) dJ1_indexOfChar_4cfef_10 (by decide) (fun c10 => ?_) (fun q => absurd ((nI_le (a := strL.getD j 0) (b := k) (by omega) (by omega))) q)
    refine V.iconst dJ1_indexOfChar_4cfef_31 (v := (-1)) (by decide) ?_
    exact V.ret dJ1_indexOfChar_4cfef_32 rfl (hQ)
  | succ r ih =>
    intro k hk hQ
    have hkl : k < strL.getD j 0 := by omega
    rw [drop_at (by omega), ixL] at hQ
    by_cases hc : (strB.getD j []).getD k 0 = (Int32.toInt8 (nI c)).toInt32
    · rw [if_pos hc] at hQ
      refine V.iload dJ1_indexOfChar_4cfef_7 rfl ?_
      refine V.iload_n dJ1_indexOfChar_4cfef_9 rfl (i := 3) rfl ?_
      refine V.ic_ge (tgt := 31) dJ1_indexOfChar_4cfef_10 (by decide) (fun q => absurd q ((nI_ge (a := k) (b := strL.getD j 0) (by omega) (by omega)))) (fun c10 => ?_)
      refine V.aload_n dJ1_indexOfChar_4cfef_13 rfl (i := 0) rfl ?_
      refine V.iload dJ1_indexOfChar_4cfef_14 rfl ?_
      refine V.strByt dJ1_indexOfChar_4cfef_16 (by first | assumption | decide | omega) (by first | assumption | decide | omega) ?_
      refine V.iload dJ1_indexOfChar_4cfef_17 rfl ?_
      refine V.ic_ne (tgt := 25) dJ1_indexOfChar_4cfef_19 (by decide) (fun q => absurd (hc) q) (fun c19 => ?_)
      refine V.iload dJ1_indexOfChar_4cfef_22 rfl ?_
      exact V.ret dJ1_indexOfChar_4cfef_24 rfl (hQ)
    · rw [if_neg hc] at hQ
      refine V.iload dJ1_indexOfChar_4cfef_7 rfl ?_
      refine V.iload_n dJ1_indexOfChar_4cfef_9 rfl (i := 3) rfl ?_
      refine V.ic_ge (tgt := 31) dJ1_indexOfChar_4cfef_10 (by decide) (fun q => absurd q ((nI_ge (a := k) (b := strL.getD j 0) (by omega) (by omega)))) (fun c10 => ?_)
      refine V.aload_n dJ1_indexOfChar_4cfef_13 rfl (i := 0) rfl ?_
      refine V.iload dJ1_indexOfChar_4cfef_14 rfl ?_
      refine V.strByt dJ1_indexOfChar_4cfef_16 (by first | assumption | decide | omega) (by first | assumption | decide | omega) ?_
      refine V.iload dJ1_indexOfChar_4cfef_17 rfl ?_
      refine V.ic_ne (tgt := 25) dJ1_indexOfChar_4cfef_19 (by decide) (fun c19 => ?_) (fun q => absurd q (hc))
      refine V.iinc dJ1_indexOfChar_4cfef_25 rfl (v := (nI (k + 1))) (nI_1 _) (by decide) (fun _ h => by cases h; exact Or.inl rfl) rfl ?_
      refine V.goto dJ1_indexOfChar_4cfef_28 (tgt := 7) (by decide) ?_
      exact ih (k + 1) (by omega) hQ
set_option maxHeartbeats 4000000 in
set_option maxRecDepth 100000 in
theorem c_ixChar {g : GG} {d : Nat} {M : Mem} {Q : Option Value → Mem → Prop} {j c : Nat} (hj : j < 4) (hQ : Q (some (.int (ixL (nI c) (strB.getD j []) 0))) (M)) : V cS g d mJ1_indexOfChar_4cfef 0 [some (.ref (220 + j)), some (.int (nI c)), some (.int (nI 0)), some (.int (nI (strL.getD j 0))), none, none] [] M Q := by
  refine V.iload_n dJ1_indexOfChar_4cfef_0 rfl (i := 1) rfl ?_
  refine V.i2b dJ1_indexOfChar_4cfef_1 ?_
  refine V.istore dJ1_indexOfChar_4cfef_2 (i := 4) (by decide) (fun _ h => by cases h; exact Or.inl rfl) rfl ?_
  refine V.iload_n dJ1_indexOfChar_4cfef_4 rfl (i := 2) rfl ?_
  refine V.istore dJ1_indexOfChar_4cfef_5 (i := 5) (by decide) (fun _ h => by cases h; exact Or.inl rfl) rfl ?_
  exact l_ix hj (strL.getD j 0) 0 (by omega) hQ
set_option maxHeartbeats 4000000 in
set_option maxRecDepth 100000 in
theorem c_ix1 {g : GG} {d : Nat} {M : Mem} {Q : Option Value → Mem → Prop} {j c : Nat} (hj : j < 4) (hc : c < 256) (h0 : 0 < strL.getD j 0) (hQ : Q (some (.int (ixL (nI c) (strB.getD j []) 0))) (M)) : V cS g (d + 1) mJ1_indexOf_4cfef 0 [some (.ref (220 + j)), some (.int (nI c)), some (.int (nI 0)), some (.int (nI (strL.getD j 0)))] [] M Q := by
  refine V.iload_n dJ1_indexOf_4cfef_0 rfl (i := 1) rfl ?_
  refine V.invs (z := mJ1_canEncode_9a6ad) (As := [_]) dJ1_indexOf_4cfef_1 rfl mlRJ1_88 okJ1_canEncode_9a6ad npJ1_canEncode_9a6ad rfl (Nat.le_of_ble_eq_true rfl) rfl (Nat.le_of_ble_eq_true rfl) (c_canEnc   ?_)
  show V cS g (d + 1) mJ1_indexOf_4cfef 4 [some (.ref (220 + j)), some (.int (nI c)), some (.int (nI 0)), some (.int (nI (strL.getD j 0)))] [.int (b2i (0 ≤ (nI c) ∧ (nI c) ≤ 255))] (M) Q
  refine V.if_ne (tgt := 9) dJ1_indexOf_4cfef_4 (by decide) (fun c4 => ?_) (fun q => absurd q ((fun z => b2i_0.mp z ⟨nI_pos' (by omega), nI_le (b := 255) (by omega) (by omega)⟩)))
  refine V.iload_n dJ1_indexOf_4cfef_9 rfl (i := 2) rfl ?_
  refine V.iconst dJ1_indexOf_4cfef_10 (v := 0) (by decide) ?_
  refine V.mmax dJ1_indexOf_4cfef_11 rfl mlRJ1_92 (Nat.le_of_ble_eq_true rfl) ?_
  refine V.top (x' := (nI 0)) ((by decide)) ?_
  refine V.istore_n dJ1_indexOf_4cfef_14 rfl (i := 2) (by decide) (fun _ h => by cases h; exact Or.inl rfl) rfl ?_
  refine V.iload_n dJ1_indexOf_4cfef_15 rfl (i := 3) rfl ?_
  refine V.aload_n dJ1_indexOf_4cfef_16 rfl (i := 0) rfl ?_
  refine V.strLen dJ1_indexOf_4cfef_17 (by first | assumption | decide | omega) ?_
  refine V.mmin dJ1_indexOf_4cfef_18 rfl mlRJ1_38 (Nat.le_of_ble_eq_true rfl) ?_
  refine V.top (x' := (nI (strL.getD j 0))) ((ite_self _)) ?_
  refine V.istore_n dJ1_indexOf_4cfef_21 rfl (i := 3) (by decide) (fun _ h => by cases h; exact Or.inl rfl) rfl ?_
  refine V.iload_n dJ1_indexOf_4cfef_22 rfl (i := 2) rfl ?_
  refine V.iload_n dJ1_indexOf_4cfef_23 rfl (i := 3) rfl ?_
  refine V.ic_lt (tgt := 29) dJ1_indexOf_4cfef_24 (by decide) (fun c24 => ?_) (fun q => absurd ((nI_lt (a := 0) (by omega) (by have := strL_le j hj; omega))) q)
  refine V.aload_n dJ1_indexOf_4cfef_29 rfl (i := 0) rfl ?_
  refine V.iload_n dJ1_indexOf_4cfef_30 rfl (i := 1) rfl ?_
  refine V.iload_n dJ1_indexOf_4cfef_31 rfl (i := 2) rfl ?_
  refine V.iload_n dJ1_indexOf_4cfef_32 rfl (i := 3) rfl ?_
  refine V.invs (z := mJ1_indexOfChar_4cfef) (As := [_, _, _, _]) dJ1_indexOf_4cfef_33 rfl mlRJ1_95 okJ1_indexOfChar_4cfef npJ1_indexOfChar_4cfef rfl (Nat.le_of_ble_eq_true rfl) rfl (Nat.le_of_ble_eq_true rfl) (c_ixChar hj ?_)
  show V cS g (d + 1) mJ1_indexOf_4cfef 36 [some (.ref (220 + j)), some (.int (nI c)), some (.int (nI 0)), some (.int (nI (strL.getD j 0)))] [.int (ixL (nI c) (strB.getD j []) 0)] M Q
  exact V.ret dJ1_indexOf_4cfef_36 rfl (hQ)
set_option maxHeartbeats 4000000 in
set_option maxRecDepth 100000 in
theorem c_ix2 {g : GG} {d : Nat} {M : Mem} {Q : Option Value → Mem → Prop} {j c : Nat} (hj : j < 4) (hc : c < 256) (h0 : 0 < strL.getD j 0) (hQ : Q (some (.int (ixL (nI c) (strB.getD j []) 0))) (M)) : V cS g (d + 2) mJ0_indexOf_7cf53 0 [some (.ref (210 + j)), some (.int (nI c)), some (.int (nI 0))] [] M Q := by
  refine V.aload_n dJ0_indexOf_7cf53_0 rfl (i := 0) rfl ?_
  refine V.invK (z := mJ0_isLatin1_aae02) (As := []) dJ0_indexOf_7cf53_1 rfl mlRJ0_492 okJ0_isLatin1_aae02 npJ0_isLatin1_aae02 rfl (by first | assumption | decide | omega) rfl (Nat.le_of_ble_eq_true rfl) rfl (Nat.le_of_ble_eq_true rfl) (c_latin  (by first | assumption | decide | omega) ?_)
  show V cS g (d + 2) mJ0_indexOf_7cf53 4 [some (.ref (210 + j)), some (.int (nI c)), some (.int (nI 0))] [.int (1)] (M) Q
  refine V.if_eq (tgt := 23) dJ0_indexOf_7cf53_4 (by decide) (fun q => absurd q ((by decide))) (fun c4 => ?_)
  refine V.aload_n dJ0_indexOf_7cf53_7 rfl (i := 0) rfl ?_
  refine V.strVal dJ0_indexOf_7cf53_8 rfl (by first | assumption | decide | omega) slRJ0_9 ?_
  refine V.iload_n dJ0_indexOf_7cf53_11 rfl (i := 1) rfl ?_
  refine V.iload_n dJ0_indexOf_7cf53_12 rfl (i := 2) rfl ?_
  refine V.aload_n dJ0_indexOf_7cf53_13 rfl (i := 0) rfl ?_
  refine V.invK (z := mJ0_length_8abf5) (As := []) dJ0_indexOf_7cf53_14 rfl mlRJ0_505 okJ0_length_8abf5 npJ0_length_8abf5 rfl (by first | assumption | decide | omega) rfl (Nat.le_of_ble_eq_true rfl) rfl (Nat.le_of_ble_eq_true rfl) (c_strlen  (by first | assumption | decide | omega) ?_)
  show V cS g (d + 2) mJ0_indexOf_7cf53 17 [some (.ref (210 + j)), some (.int (nI c)), some (.int (nI 0))] [.int (nI (strL.getD j 0)), .int (nI 0), .int (nI c), .ref (220 + j)] ((M)) Q
  refine V.invs (z := mJ1_indexOf_4cfef) (As := [_, _, _, _]) dJ0_indexOf_7cf53_17 rfl mlRJ0_637 okJ1_indexOf_4cfef npJ1_indexOf_4cfef rfl (Nat.le_of_ble_eq_true rfl) rfl (Nat.le_of_ble_eq_true rfl) (c_ix1 hj hc h0 ?_)
  show V cS g (d + 2) mJ0_indexOf_7cf53 20 [some (.ref (210 + j)), some (.int (nI c)), some (.int (nI 0))] [.int (ixL (nI c) (strB.getD j []) 0)] M Q
  refine V.goto dJ0_indexOf_7cf53_20 (tgt := 36) (by decide) ?_
  exact V.ret dJ0_indexOf_7cf53_36 rfl (hQ)
set_option maxHeartbeats 4000000 in
set_option maxRecDepth 100000 in
theorem c_ix3 {g : GG} {d : Nat} {M : Mem} {Q : Option Value → Mem → Prop} {j c : Nat} (hj : j < 4) (hc : c < 256) (h0 : 0 < strL.getD j 0) (hQ : Q (some (.int (ixL (nI c) (strB.getD j []) 0))) (M)) : V cS g (d + 3) mJ0_indexOf_0f7a4 0 [some (.ref (210 + j)), some (.int (nI c))] [] M Q := by
  refine V.aload_n dJ0_indexOf_0f7a4_0 rfl (i := 0) rfl ?_
  refine V.iload_n dJ0_indexOf_0f7a4_1 rfl (i := 1) rfl ?_
  refine V.iconst dJ0_indexOf_0f7a4_2 (v := 0) (by decide) ?_
  refine V.top (x' := (nI 0)) ((by decide)) ?_
  refine V.invK (z := mJ0_indexOf_7cf53) (As := [_, _]) dJ0_indexOf_0f7a4_3 rfl mlRJ0_633 okJ0_indexOf_7cf53 npJ0_indexOf_7cf53 rfl (by first | assumption | decide | omega) rfl (Nat.le_of_ble_eq_true rfl) rfl (Nat.le_of_ble_eq_true rfl) (c_ix2 hj hc h0 ?_)
  show V cS g (d + 3) mJ0_indexOf_0f7a4 6 [some (.ref (210 + j)), some (.int (nI c))] [.int (ixL (nI c) (strB.getD j []) 0)] M Q
  exact V.ret dJ0_indexOf_0f7a4_6 rfl (hQ)
theorem c_ixN {g : GG} {d : Nat} {M : Mem} {Q : Option Value → Mem → Prop} {us c : Nat} (hu : us < 2) (hc : c < 256) (hQ : Q (some (.int (nmI us (nI c)))) M) : V cS g (d + 3) mJ0_indexOf_0f7a4 0 [some (.ref (210 + us)), some (.int (nI c))] [] M Q := by
  refine c_ix3 (j := us) (by omega) hc ?_ ?_
  · have : us = 0 ∨ us = 1 := by omega
    rcases this with rfl | rfl <;> decide
  · have : us = 0 ∨ us = 1 := by omega
    rcases this with rfl | rfl
    · rw [ixL_nm0 c hc]; exact hQ
    · rw [ixL_nm1 c hc]; exact hQ
theorem dJ3_checkIndex_8e157_0 : decode cJ3_checkIndex_8e157 0 = .ok (.iload_n 0, 1) := by decide +kernel
theorem dJ3_checkIndex_8e157_1 : decode cJ3_checkIndex_8e157 1 = .ok (.ifCond .lt 8, 3) := by decide +kernel
theorem dJ3_checkIndex_8e157_4 : decode cJ3_checkIndex_8e157 4 = .ok (.iload_n 0, 1) := by decide +kernel
theorem dJ3_checkIndex_8e157_5 : decode cJ3_checkIndex_8e157 5 = .ok (.iload_n 1, 1) := by decide +kernel
theorem dJ3_checkIndex_8e157_6 : decode cJ3_checkIndex_8e157 6 = .ok (.if_icmp .lt 10, 3) := by decide +kernel
theorem dJ3_checkIndex_8e157_16 : decode cJ3_checkIndex_8e157 16 = .ok (.iload_n 0, 1) := by decide +kernel
theorem dJ3_checkIndex_8e157_17 : decode cJ3_checkIndex_8e157 17 = .ok (.ireturn, 1) := by decide +kernel
set_option maxHeartbeats 4000000 in
set_option maxRecDepth 100000 in
theorem c_chk3a {g : GG} {d : Nat} {M : Mem} {Q : Option Value → Mem → Prop} {i n : Nat} (hi : i < n) (hn : n < 1000) (hQ : Q (some (.int (nI i))) (M)) : V cS g d mJ3_checkIndex_8e157 0 [some (.int (nI i)), some (.int (nI n)), some (.ref 230)] [] M Q := by
  refine V.iload_n dJ3_checkIndex_8e157_0 rfl (i := 0) rfl ?_
  refine V.if_lt (tgt := 9) dJ3_checkIndex_8e157_1 (by decide) (fun q => absurd q ((nI_pos (by omega)))) (fun c1 => ?_)
  refine V.iload_n dJ3_checkIndex_8e157_4 rfl (i := 0) rfl ?_
  refine V.iload_n dJ3_checkIndex_8e157_5 rfl (i := 1) rfl ?_
  refine V.ic_lt (tgt := 16) dJ3_checkIndex_8e157_6 (by decide) (fun c6 => ?_) (fun q => absurd ((nI_lt (by omega) (by omega))) q)
  refine V.iload_n dJ3_checkIndex_8e157_16 rfl (i := 0) rfl ?_
  exact V.ret dJ3_checkIndex_8e157_17 rfl (hQ)
set_option maxHeartbeats 4000000 in
set_option maxRecDepth 100000 in
theorem c_chk3b {g : GG} {d : Nat} {M : Mem} {Q : Option Value → Mem → Prop} {i n : Nat} (hi : i < n) (hn : n < 1000) (hQ : Q (some (.int (nI i))) M) : V cS g d mJ3_checkIndex_8e157 0 [some (.int (nI i)), some (.int (nI n)), some .null] [] M Q := by
  refine V.fg (ls' := [some (.int (nI i)), some (.int (nI n)), none]) ⟨rfl, rfl, trivial⟩ ?_
  refine V.iload_n dJ3_checkIndex_8e157_0 rfl (i := 0) rfl ?_
  refine V.if_lt (tgt := 9) dJ3_checkIndex_8e157_1 (by decide) (fun q => absurd q ((nI_pos (by omega)))) (fun c1 => ?_)
  refine V.iload_n dJ3_checkIndex_8e157_4 rfl (i := 0) rfl ?_
  refine V.iload_n dJ3_checkIndex_8e157_5 rfl (i := 1) rfl ?_
  refine V.ic_lt (tgt := 16) dJ3_checkIndex_8e157_6 (by decide) (fun c6 => ?_) (fun q => absurd ((nI_lt (by omega) (by omega))) q)
  refine V.iload_n dJ3_checkIndex_8e157_16 rfl (i := 0) rfl ?_
  exact V.ret dJ3_checkIndex_8e157_17 rfl (hQ)
set_option maxHeartbeats 4000000 in
set_option maxRecDepth 100000 in
theorem c_chk0 {g : GG} {d : Nat} {M : Mem} {Q : Option Value → Mem → Prop} {i n : Nat} (hi : i < n) (hn : n < 1000) (hQ : Q none M) : V cS g (d + 1) mJ0_checkIndex_df160 0 [some (.int (nI i)), some (.int (nI n))] [] M Q := by
  refine V.iload_n dJ0_checkIndex_df160_0 rfl (i := 0) rfl ?_
  refine V.iload_n dJ0_checkIndex_df160_1 rfl (i := 1) rfl ?_
  refine V.fmtS dJ0_checkIndex_df160_2 rfl ?_ ?_
  · refine V.invs (z := mJ3_checkIndex_8e157) (As := [_, _, .null]) dJ0_checkIndex_df160_5 rfl mlRJ0_1059 okJ3_checkIndex_8e157 npJ3_checkIndex_8e157 rfl (Nat.le_of_ble_eq_true rfl) rfl (Nat.le_of_ble_eq_true rfl) (c_chk3b hi hn ?_)
    show V cS g (d + 1) mJ0_checkIndex_df160 8 [some (.int (nI i)), some (.int (nI n))] [.int (nI i)] M Q
    refine V.pop dJ0_checkIndex_df160_8 rfl ?_
    exact V.vret dJ0_checkIndex_df160_9 rfl (hQ)
  · refine V.invs (z := mJ3_checkIndex_8e157) (As := [_, _, .ref 230]) dJ0_checkIndex_df160_5 rfl mlRJ0_1059 okJ3_checkIndex_8e157 npJ3_checkIndex_8e157 rfl (Nat.le_of_ble_eq_true rfl) rfl (Nat.le_of_ble_eq_true rfl) (c_chk3a hi hn ?_)
    show V cS g (d + 1) mJ0_checkIndex_df160 8 [some (.int (nI i)), some (.int (nI n))] [.int (nI i)] M Q
    refine V.pop dJ0_checkIndex_df160_8 rfl ?_
    exact V.vret dJ0_checkIndex_df160_9 rfl (hQ)
/-- the char at a place -/
def chS (j i : Nat) : Int32 := (strB.getD j []).getD i 0
theorem chS_c : ∀ j, j < 4 → ∀ i, i < 10 → (Int32.toUInt32 ((strB.getD j []).getD i 0 &&& 255) % 65536).toInt32 = chS j i := by decide +kernel
theorem chS_n : ∀ j, j < 4 → ∀ i, i < 10 → narrow .char (.int (chS j i)) = .int (chS j i) := by decide +kernel

set_option maxHeartbeats 4000000 in
set_option maxRecDepth 100000 in
theorem c_char1 {g : GG} {d : Nat} {M : Mem} {Q : Option Value → Mem → Prop} {j i : Nat} (hj : j < 4) (hi : i < strL.getD j 0) (hQ : Q (some (.int (chS j i))) (M)) : V cS g (d + 2) mJ1_charAt_3b067 0 [some (.ref (220 + j)), some (.int (nI i))] [] M Q := by
  refine V.iload_n dJ1_charAt_3b067_0 rfl (i := 1) rfl ?_
  refine V.aload_n dJ1_charAt_3b067_1 rfl (i := 0) rfl ?_
  refine V.strLen dJ1_charAt_3b067_2 (by first | assumption | decide | omega) ?_
  refine V.invs (z := mJ0_checkIndex_df160) (As := [_, _]) dJ1_charAt_3b067_3 rfl mlRJ1_9 okJ0_checkIndex_df160 npJ0_checkIndex_df160 rfl (Nat.le_of_ble_eq_true rfl) rfl (Nat.le_of_ble_eq_true rfl) (c_chk0 hi (by have := strL_le j hj; omega) ?_)
  show V cS g (d + 2) mJ1_charAt_3b067 6 [some (.ref (220 + j)), some (.int (nI i))] [] M Q
  refine V.aload_n dJ1_charAt_3b067_6 rfl (i := 0) rfl ?_
  refine V.iload_n dJ1_charAt_3b067_7 rfl (i := 1) rfl ?_
  refine V.strByt dJ1_charAt_3b067_8 (hj) (hi) ?_
  refine V.sipush dJ1_charAt_3b067_9 (v := 255) (by decide) ?_
  refine V.iand dJ1_charAt_3b067_12 ?_
  refine V.i2c dJ1_charAt_3b067_13 ?_
  refine V.top (x' := (chS j i)) ((chS_c j hj i (by have := strL_le j hj; omega))) ?_
  exact V.tret dJ1_charAt_3b067_14 rfl (chS_n j hj i (by have := strL_le j hj; omega)) (hQ)
set_option maxHeartbeats 4000000 in
set_option maxRecDepth 100000 in
theorem c_charAt {g : GG} {d : Nat} {M : Mem} {Q : Option Value → Mem → Prop} {j i : Nat} (hj : j < 4) (hi : i < strL.getD j 0) (hQ : Q (some (.int (chS j i))) (M)) : V cS g (d + 3) mJ0_charAt_5068e 0 [some (.ref (210 + j)), some (.int (nI i))] [] M Q := by
  refine V.aload_n dJ0_charAt_5068e_0 rfl (i := 0) rfl ?_
  refine V.invK (z := mJ0_isLatin1_aae02) (As := []) dJ0_charAt_5068e_1 rfl mlRJ0_492 okJ0_isLatin1_aae02 npJ0_isLatin1_aae02 rfl (by first | assumption | decide | omega) rfl (Nat.le_of_ble_eq_true rfl) rfl (Nat.le_of_ble_eq_true rfl) (c_latin  (by first | assumption | decide | omega) ?_)
  show V cS g (d + 3) mJ0_charAt_5068e 4 [some (.ref (210 + j)), some (.int (nI i))] [.int (1)] (M) Q
  refine V.if_eq (tgt := 16) dJ0_charAt_5068e_4 (by decide) (fun q => absurd q ((by decide))) (fun c4 => ?_)
  refine V.aload_n dJ0_charAt_5068e_7 rfl (i := 0) rfl ?_
  refine V.strVal dJ0_charAt_5068e_8 rfl (by first | assumption | decide | omega) slRJ0_9 ?_
  refine V.iload_n dJ0_charAt_5068e_11 rfl (i := 1) rfl ?_
  refine V.invs (z := mJ1_charAt_3b067) (As := [_, _]) dJ0_charAt_5068e_12 rfl mlRJ0_495 okJ1_charAt_3b067 npJ1_charAt_3b067 rfl (Nat.le_of_ble_eq_true rfl) rfl (Nat.le_of_ble_eq_true rfl) (c_char1 hj hi ?_)
  show V cS g (d + 3) mJ0_charAt_5068e 15 [some (.ref (210 + j)), some (.int (nI i))] [.int (chS j i)] M Q
  exact V.tret dJ0_charAt_5068e_15 rfl (chS_n j hj i (by have := strL_le j hj; omega)) (hQ)

