/-! ===== the reference: slate, least, hang ===== -/
/-- what the reference keeps from call to call -/
def KpX (M M' : Mem) : Prop := (∀ c, c = 84 ∨ c = 86 ∨ c = 87 ∨ c = 97 ∨ c = 98 ∨ c = 99 ∨ c = 100 → M' c = M c) ∧ M' 83 3 = M 83 3 ∧ M' 83 22 = M 83 22
theorem KpX.rf {M : Mem} : KpX M M := ⟨fun _ _ => rfl, rfl, rfl⟩
theorem KpX.tr {M M1 M2 : Mem} (h : KpX M M1) (h2 : KpX M1 M2) : KpX M M2 := ⟨fun c hc => (h2.1 c hc).trans (h.1 c hc), h2.2.1.trans h.2.1, h2.2.2.trans h.2.2⟩
theorem KpX.d {M M1 : Mem} (h : KpX M M1) : M1 84 = M 84 := h.1 84 (Or.inl rfl)
theorem KpF.x {M M' : Mem} (h : KpF M M') : KpX M M' := ⟨fun c hc => h.1 c (by omega) (by omega) (by omega) (by omega) (by omega) (by omega), h.2 3 (by omega), h.2 22 (by omega)⟩
theorem KpH.x {M M' : Mem} (h : KpH M M') : KpX M M' := h.f.x
theorem KpR.x {M M' : Mem} (h : KpR M M') : KpX M M' := h.up.x
theorem eqx.x {S : List Nat} {M M' : Mem} (h : eqx S M M') (hs : ∀ c, c ∈ S → c ≠ 83 ∧ c ≠ 84 ∧ c ≠ 86 ∧ c ≠ 87 ∧ c ≠ 97 ∧ c ≠ 98 ∧ c ≠ 99 ∧ c ≠ 100) : KpX M M' := ⟨fun c hc => h c (fun z => by have := hs c z; omega), by rw [h 83 (fun z => (hs 83 z).1 rfl)], by rw [h 83 (fun z => (hs 83 z).1 rfl)]⟩
theorem insR_in {off : Nat → Int32} {b x : Nat} : ∀ {r : List Nat}, x = b ∨ x ∈ r → x ∈ insR off b r
  | [], h => by rcases h with h | h; rw [h]; exact List.mem_cons_self; cases h
  | y :: t, h => by
    unfold insR
    split
    · rcases h with h | h
      · rw [h]; exact List.mem_cons_self
      · exact List.mem_cons_of_mem _ h
    · rcases h with h | h
      · exact List.mem_cons_of_mem _ (insR_in (Or.inl h))
      · rcases List.mem_cons.mp h with h | h
        · rw [h]; exact List.mem_cons_self
        · exact List.mem_cons_of_mem _ (insR_in (Or.inr h))
theorem odR_in {off : Nat → Int32} {p : Nat → Bool} {b : Nat} (hp : p b = true) : ∀ {n : Nat}, b < n → b ∈ odR off p n
  | 0, h => absurd h (Nat.not_lt_zero _)
  | n + 1, h => by
    unfold odR
    by_cases hq : b = n
    · subst hq
      rw [if_pos hp]
      exact insR_in (Or.inl rfl)
    · have := odR_in (off := off) hp (n := n) (by omega)
      split
      · exact insR_in (Or.inr this)
      · exact this
theorem odR_at {off : Nat → Int32} {p : Nat → Bool} {b n : Nat} (hp : p b = true) (hb : b < n) : ∃ k, k < (odR off p n).length ∧ (odR off p n).getD ((odR off p n).length - 1 - k) 0 = b := by
  obtain ⟨i, hi, he⟩ := List.getElem_of_mem (odR_in (off := off) hp hb)
  refine ⟨(odR off p n).length - 1 - i, by omega, ?_⟩
  rw [show (odR off p n).length - 1 - ((odR off p n).length - 1 - i) = i by omega, getD_el hi]
  exact he
theorem held9 (v : Int32) : heldR v (-900) 900 = heldF v (-900) 900 := by
  unfold heldR heldF
  (repeat' split) <;> first | rfl | (simp only [Int32.lt_iff_toInt_lt, Int32.le_iff_toInt_le, ← Int32.toInt_inj, Int32.reduceToInt] at *; omega)
/-- the gaps of the reference -/
def gR (S : List Int32) (M : Mem) (h : Int32) (ne : Nat) (a b : Nat) : Int32 := gpR (hpR S M h) (wyR M) (M 84 101) a b ne

set_option maxHeartbeats 4000000 in
set_option maxRecDepth 100000 in
theorem l_fk {g : GG} {d : Nat} {M : Mem} {Q : Option Value → Mem → Prop} {w v : Int32} {n m b k0 : Nat} {od : Nat → Nat} (hO : OdX M od m n) (hk0 : k0 < m) (hb : od k0 = b) (hc : V rS g d mX10_slate 91 [some (.ref 83), some (.int (nI b)), some (.int w), some (.int v), some (.int (nI k0))] [] M Q) : ∀ (r k : Nat), k + r = k0 → V rS g d mX10_slate 74 [some (.ref 83), some (.int (nI b)), some (.int w), some (.int v), some (.int (nI k))] [] M Q := by
  obtain ⟨o1, o2, o3, o4, o5⟩ := hO
  intro r
  induction r with
  | zero =>
    intro k hk
    obtain rfl : k = k0 := by omega
    have hk8 : k < 8 := by omega
    refine V.aload_n dX10_slate_74 rfl (i := 0) rfl ?_
    refine V.getR dX10_slate_75 rfl flRX10_32 rfl ⟨by decide, by decide⟩ ?_
    refine V.iload dX10_slate_78 rfl ?_
    refine V.ialdN dX10_slate_80 rfl ⟨by decide, by decide⟩ (by first | assumption | decide | omega) (by decide) ?_
    refine V.top (x' := (nI (od k))) ((o4 k hk0).1) ?_
    refine V.iload_n dX10_slate_81 rfl (i := 1) rfl ?_
    refine V.ic_eq (tgt := 91) dX10_slate_82 (by decide) (fun c82 => ?_) (fun q => absurd ((by rw [hb])) q)
    exact hc
  | succ r ih =>
    intro k hk
    have hk8 : k < 8 := by omega
    have h1 := (o4 k (by omega)).2
    have h2 := (o4 k0 hk0).2
    refine V.aload_n dX10_slate_74 rfl (i := 0) rfl ?_
    refine V.getR dX10_slate_75 rfl flRX10_32 rfl ⟨by decide, by decide⟩ ?_
    refine V.iload dX10_slate_78 rfl ?_
    refine V.ialdN dX10_slate_80 rfl ⟨by decide, by decide⟩ (by first | assumption | decide | omega) (by decide) ?_
    refine V.top (x' := (nI (od k))) ((o4 k (by omega)).1) ?_
    refine V.iload_n dX10_slate_81 rfl (i := 1) rfl ?_
    refine V.ic_eq (tgt := 91) dX10_slate_82 (by decide) (fun q => absurd q ((fun z => absurd (o5 k k0 (by omega) hk0 (by rw [hb]; exact (nI_eq (by omega) (by omega)).mp z)) (by omega)))) (fun c82 => ?_)
    refine V.iinc dX10_slate_85 rfl (v := (nI (k + 1))) (nI_1 _) (by decide) (fun _ h => by cases h; exact Or.inl rfl) rfl ?_
    refine V.goto dX10_slate_88 (tgt := 74) (by decide) ?_
    exact ih (k + 1) (by omega)
set_option maxHeartbeats 4000000 in
set_option maxRecDepth 100000 in
theorem c10_slate {g : GG} {d : Nat} {M : Mem} {Q : Option Value → Mem → Prop} {a w v : Int32} {S : List Int32} {n ne : Nat} (hV : VR S M n ne) (hbad : ¬ ((0 ≤ a ∧ a < nI n) ∧ (0 ≤ w ∧ w ≤ 23) ∧ 0 ≤ v ∧ v ≤ 1) → Q (some (.int (-1000000001))) (put M 87 1 (M 87 1 + 1))) (hst : ((0 ≤ a ∧ a < nI n) ∧ (0 ≤ w ∧ w ≤ 23) ∧ 0 ≤ v ∧ v ≤ 1) → ∀ b, b < n → a = nI b → stR M w b = false → Q (some (.int (-1000000003))) (put M 87 3 (M 87 3 + 1))) (hnone : ((0 ≤ a ∧ a < nI n) ∧ (0 ≤ w ∧ w ≤ 23) ∧ 0 ≤ v ∧ v ≤ 1) → ∀ b, b < n → a = nI b → stR M w b = true → ∀ M', KpX M M' → (gdF (loT (geR (gR S M w ne)) (gR S M w ne) (offR M) (odK M w n) (M 84 102) (odL M w n)) (offR M) (odK M w n) (M 84 102) (odL M w n)) = false → Q (some (.int (-1000000002))) (put M' 87 2 (M' 87 2 + 1))) (hok : ((0 ≤ a ∧ a < nI n) ∧ (0 ≤ w ∧ w ≤ 23) ∧ 0 ≤ v ∧ v ≤ 1) → ∀ b, b < n → a = nI b → stR M w b = true → ∀ M' k, KpX M M' → (gdF (loT (geR (gR S M w ne)) (gR S M w ne) (offR M) (odK M w n) (M 84 102) (odL M w n)) (offR M) (odK M w n) (M 84 102) (odL M w n)) = true → k < odL M w n → odK M w n k = b → Q (some (.int (if v = 0 then (loT (geR (gR S M w ne)) (gR S M w ne) (offR M) (odK M w n) (M 84 102) (odL M w n)) k else (hiT (geR (gR S M w ne)) (gR S M w ne) (offR M) (odK M w n) (M 84 102) (odL M w n) (odL M w n)) k))) M') : V rS g (d + 67) mX10_slate 0 [some (.ref 83), some (.int a), some (.int w), some (.int v), none] [] M Q := by
  have h8 := hV.2.1
  by_cases h : ((0 ≤ a ∧ a < nI n) ∧ (0 ≤ w ∧ w ≤ 23) ∧ 0 ≤ v ∧ v ≤ 1)
  · obtain ⟨b, hb, rfl⟩ := nI_ex (n := n) (by omega) h.1.1 h.1.2
    by_cases hs : stR M w b = true
    · skip
      refine V.aload_n dX10_slate_0 rfl (i := 0) rfl ?_
      refine V.iload_n dX10_slate_1 rfl (i := 1) rfl ?_
      refine V.invv (z := mX10_isBell) (As := [_]) dX10_slate_2 rfl mlRX10_170 okX10_isBell npX10_isBell rfl rfl rfl ⟨by decide, by decide⟩ (Nat.le_of_ble_eq_true rfl) rfl (Nat.le_of_ble_eq_true rfl) (c_bellR hV.1 h8 ?_)
      show V rS g (d + 67) mX10_slate 5 [some (.ref 83), some (.int (nI b)), some (.int w), some (.int v), none] [.int (b2i (0 ≤ nI b ∧ nI b < nI n))] M Q
      refine V.if_eq (tgt := 25) dX10_slate_5 (by decide) (fun q => absurd q ((fun z => b2i_0.mp z h.1))) (fun c5 => ?_)
      refine V.iload_n dX10_slate_8 rfl (i := 2) rfl ?_
      refine V.invs (z := mX10_isHour) (As := [_]) dX10_slate_9 rfl mlRX10_191 okX10_isHour npX10_isHour rfl (Nat.le_of_ble_eq_true rfl) rfl (Nat.le_of_ble_eq_true rfl) (c_hourR   ?_)
      show V rS g (d + 67) mX10_slate 12 [some (.ref 83), some (.int (nI b)), some (.int w), some (.int v), none] [.int (b2i (0 ≤ w ∧ w ≤ 23))] (M) Q
      refine V.if_eq (tgt := 25) dX10_slate_12 (by decide) (fun q => absurd q ((fun z => b2i_0.mp z h.2.1))) (fun c12 => ?_)
      refine V.iload_n dX10_slate_15 rfl (i := 3) rfl ?_
      refine V.i2l dX10_slate_16 ?_
      refine V.lconst dX10_slate_17 (v := 0) (by decide) ?_
      refine V.lconst dX10_slate_18 (v := 1) (by decide) ?_
      refine V.invs (z := mX10_in) (As := [_, _, _]) dX10_slate_19 rfl mlRX10_66 okX10_in npX10_in rfl (Nat.le_of_ble_eq_true rfl) rfl (Nat.le_of_ble_eq_true rfl) (c_in32 (v := v) (lo := (0 : Int32)) (hi := (1 : Int32)) (by first | rfl | decide) (by first | rfl | decide)   ?_)
      show V rS g (d + 67) mX10_slate 22 [some (.ref 83), some (.int (nI b)), some (.int w), some (.int v), none] [.int (b2i ((0 : Int32) ≤ v ∧ v ≤ (1 : Int32)))] (M) Q
      refine V.if_ne (tgt := 31) dX10_slate_22 (by decide) (fun c22 => ?_) (fun q => absurd q ((fun z => b2i_0.mp z h.2.2)))
      refine V.aload_n dX10_slate_31 rfl (i := 0) rfl ?_
      refine V.iload_n dX10_slate_32 rfl (i := 1) rfl ?_
      refine V.iload_n dX10_slate_33 rfl (i := 2) rfl ?_
      refine V.invv (z := mX10_isStruck) (As := [_, _]) dX10_slate_34 rfl mlRX10_194 okX10_isStruck npX10_isStruck rfl rfl rfl ⟨by decide, by decide⟩ (Nat.le_of_ble_eq_true rfl) rfl (Nat.le_of_ble_eq_true rfl) (c_struck  (by omega) ((hV.2.2.2.2.2.2.1 b hb).2) ?_)
      show V rS g (d + 67) mX10_slate 37 [some (.ref 83), some (.int (nI b)), some (.int w), some (.int v), none] [.int (b2i (strk ((M) 84 (108 + 7 * b + 0)) ((M) 84 (108 + 7 * b + 1)) ((M) 84 (108 + 7 * b + 6)) w = true))] (M) Q
      refine V.top (x' := (b2i (stR M w b = true))) (rfl) ?_
      refine V.if_ne (tgt := 46) dX10_slate_37 (by decide) (fun c37 => ?_) (fun q => absurd q ((fun z => b2i_0.mp z hs)))
      refine V.aload_n dX10_slate_46 rfl (i := 0) rfl ?_
      refine V.iload_n dX10_slate_47 rfl (i := 2) rfl ?_
      refine V.invv (z := mX10_findOrder) (As := [_]) dX10_slate_48 rfl mlRX10_261 okX10_findOrder npX10_findOrder rfl rfl rfl ⟨by decide, by decide⟩ (Nat.le_of_ble_eq_true rfl) rfl (Nat.le_of_ble_eq_true rfl) (c_findOrder hV (fun M1 hM1 hO hA => ?_))
      show V rS g (d + 67) mX10_slate 51 [some (.ref 83), some (.int (nI b)), some (.int w), some (.int v), none] [] M1 Q
      refine V.aload_n dX10_slate_51 rfl (i := 0) rfl ?_
      refine V.aload_n dX10_slate_52 rfl (i := 0) rfl ?_
      refine V.getR dX10_slate_53 rfl flRX10_7 rfl ⟨by decide, by decide⟩ ?_
      refine V.bipush dX10_slate_56 (v := 102) (by decide) ?_
      refine V.top (x' := nI 102) (by decide) ?_
      refine V.ialdN dX10_slate_58 rfl ⟨by decide, by decide⟩ (by first | assumption | decide | omega) (by decide) ?_
      refine V.top (x' := (M 84 102)) ((by rw [hM1.d])) ?_
      refine V.invv (z := mX10_findSlates) (As := [_]) dX10_slate_59 rfl mlRX10_264 okX10_findSlates npX10_findSlates rfl rfl rfl ⟨by decide, by decide⟩ (Nat.le_of_ble_eq_true rfl) rfl (Nat.le_of_ble_eq_true rfl) (c_fs hO hA (fun M2 hM2 h93 h94 => ?_))
      show V rS g (d + 67) mX10_slate 62 [some (.ref 83), some (.int (nI b)), some (.int w), some (.int v), none] [.int (b2i (gdF (loT (geR (gR S M w ne)) (gR S M w ne) (offR M1) (odK M w n) (M 84 102) (odL M w n)) (offR M1) (odK M w n) (M 84 102) (odL M w n) = true))] M2 Q
      skip
      have hX : KpX M M2 := hM1.x.tr (hM2.x (by decide))
      have eo : offR M1 = offR M := by unfold offR; rw [hM1.d]
      rw [eo] at h93 h94
      rw [eo]
      by_cases hg : (gdF (loT (geR (gR S M w ne)) (gR S M w ne) (offR M) (odK M w n) (M 84 102) (odL M w n)) (offR M) (odK M w n) (M 84 102) (odL M w n)) = true
      · obtain ⟨k0, hk0, hk1⟩ := odR_at (off := offR M) (p := stR M w) hs hb
        have hO2 : OdX M2 (odK M w n) (odL M w n) n := by
          unfold OdX
          rw [hM2 83 (by decide), hM2 91 (by decide)]
          exact hO
        have hk8 : k0 < 8 := by have := hO.2.1; unfold odL at this; omega
        have hcont : V rS g (d + 67) mX10_slate 91 [some (.ref 83), some (.int (nI b)), some (.int w), some (.int v), some (.int (nI k0))] [] M2 Q := by
          refine V.iload_n dX10_slate_91 rfl (i := 3) rfl ?_
          refine V.if_ne (tgt := 105) dX10_slate_92 (by decide) (fun c92 => ?_) (fun c92 => ?_)
          · refine V.aload_n dX10_slate_105 rfl (i := 0) rfl ?_
            refine V.getR dX10_slate_106 rfl flRX10_41 rfl ⟨by decide, by decide⟩ ?_
            refine V.iload dX10_slate_109 rfl ?_
            refine V.ialdN dX10_slate_111 rfl ⟨by decide, by decide⟩ (by first | assumption | decide | omega) (by decide) ?_
            exact V.ret dX10_slate_112 rfl (Qi (hok h b hb rfl hs M2 k0 hX hg hk0 hk1) (by first | (rw [if_pos c92]; exact h93 k0 hk0) | (rw [if_neg c92]; exact h94 k0 hk0)))
          · refine V.aload_n dX10_slate_95 rfl (i := 0) rfl ?_
            refine V.getR dX10_slate_96 rfl flRX10_38 rfl ⟨by decide, by decide⟩ ?_
            refine V.iload dX10_slate_99 rfl ?_
            refine V.ialdN dX10_slate_101 rfl ⟨by decide, by decide⟩ (by first | assumption | decide | omega) (by decide) ?_
            refine V.goto dX10_slate_102 (tgt := 112) (by decide) ?_
            exact V.ret dX10_slate_112 rfl (Qi (hok h b hb rfl hs M2 k0 hX hg hk0 hk1) (by first | (rw [if_pos c92]; exact h93 k0 hk0) | (rw [if_neg c92]; exact h94 k0 hk0)))
        refine V.if_ne (tgt := 71) dX10_slate_62 (by decide) (fun c62 => ?_) (fun q => absurd q ((fun z => b2i_0.mp z hg)))
        refine V.iconst dX10_slate_71 (v := 0) (by decide) ?_
        refine V.istore dX10_slate_72 (i := 4) (by decide) (fun _ h => by cases h; exact Or.inl rfl) rfl ?_
        exact l_fk hO2 hk0 hk1 hcont k0 0 (by omega)
      · skip
        refine V.if_ne (tgt := 71) dX10_slate_62 (by decide) (fun q => absurd ((b2i_f hg)) q) (fun c62 => ?_)
        refine V.aload_n dX10_slate_65 rfl (i := 0) rfl ?_
        refine V.iconst dX10_slate_66 (v := 2) (by decide) ?_
        refine V.invv (z := mX10_finds) (As := [_]) dX10_slate_67 rfl mlRX10_131 okX10_finds npX10_finds rfl rfl rfl ⟨by decide, by decide⟩ (Nat.le_of_ble_eq_true rfl) rfl (Nat.le_of_ble_eq_true rfl) (c_fnd2   ?_)
        show V rS g (d + 67) mX10_slate 70 [some (.ref 83), some (.int (nI b)), some (.int w), some (.int v), none] [.int (-1000000002 : Int32)] (put M2 87 2 (M2 87 2 + 1)) Q
        exact V.ret dX10_slate_70 rfl (hnone h b hb rfl hs M2 hX (Bool.eq_false_iff.mpr hg))
    · skip
      refine V.aload_n dX10_slate_0 rfl (i := 0) rfl ?_
      refine V.iload_n dX10_slate_1 rfl (i := 1) rfl ?_
      refine V.invv (z := mX10_isBell) (As := [_]) dX10_slate_2 rfl mlRX10_170 okX10_isBell npX10_isBell rfl rfl rfl ⟨by decide, by decide⟩ (Nat.le_of_ble_eq_true rfl) rfl (Nat.le_of_ble_eq_true rfl) (c_bellR hV.1 h8 ?_)
      show V rS g (d + 67) mX10_slate 5 [some (.ref 83), some (.int (nI b)), some (.int w), some (.int v), none] [.int (b2i (0 ≤ nI b ∧ nI b < nI n))] M Q
      refine V.if_eq (tgt := 25) dX10_slate_5 (by decide) (fun q => absurd q ((fun z => b2i_0.mp z h.1))) (fun c5 => ?_)
      refine V.iload_n dX10_slate_8 rfl (i := 2) rfl ?_
      refine V.invs (z := mX10_isHour) (As := [_]) dX10_slate_9 rfl mlRX10_191 okX10_isHour npX10_isHour rfl (Nat.le_of_ble_eq_true rfl) rfl (Nat.le_of_ble_eq_true rfl) (c_hourR   ?_)
      show V rS g (d + 67) mX10_slate 12 [some (.ref 83), some (.int (nI b)), some (.int w), some (.int v), none] [.int (b2i (0 ≤ w ∧ w ≤ 23))] (M) Q
      refine V.if_eq (tgt := 25) dX10_slate_12 (by decide) (fun q => absurd q ((fun z => b2i_0.mp z h.2.1))) (fun c12 => ?_)
      refine V.iload_n dX10_slate_15 rfl (i := 3) rfl ?_
      refine V.i2l dX10_slate_16 ?_
      refine V.lconst dX10_slate_17 (v := 0) (by decide) ?_
      refine V.lconst dX10_slate_18 (v := 1) (by decide) ?_
      refine V.invs (z := mX10_in) (As := [_, _, _]) dX10_slate_19 rfl mlRX10_66 okX10_in npX10_in rfl (Nat.le_of_ble_eq_true rfl) rfl (Nat.le_of_ble_eq_true rfl) (c_in32 (v := v) (lo := (0 : Int32)) (hi := (1 : Int32)) (by first | rfl | decide) (by first | rfl | decide)   ?_)
      show V rS g (d + 67) mX10_slate 22 [some (.ref 83), some (.int (nI b)), some (.int w), some (.int v), none] [.int (b2i ((0 : Int32) ≤ v ∧ v ≤ (1 : Int32)))] (M) Q
      refine V.if_ne (tgt := 31) dX10_slate_22 (by decide) (fun c22 => ?_) (fun q => absurd q ((fun z => b2i_0.mp z h.2.2)))
      refine V.aload_n dX10_slate_31 rfl (i := 0) rfl ?_
      refine V.iload_n dX10_slate_32 rfl (i := 1) rfl ?_
      refine V.iload_n dX10_slate_33 rfl (i := 2) rfl ?_
      refine V.invv (z := mX10_isStruck) (As := [_, _]) dX10_slate_34 rfl mlRX10_194 okX10_isStruck npX10_isStruck rfl rfl rfl ⟨by decide, by decide⟩ (Nat.le_of_ble_eq_true rfl) rfl (Nat.le_of_ble_eq_true rfl) (c_struck  (by omega) ((hV.2.2.2.2.2.2.1 b hb).2) ?_)
      show V rS g (d + 67) mX10_slate 37 [some (.ref 83), some (.int (nI b)), some (.int w), some (.int v), none] [.int (b2i (strk ((M) 84 (108 + 7 * b + 0)) ((M) 84 (108 + 7 * b + 1)) ((M) 84 (108 + 7 * b + 6)) w = true))] (M) Q
      refine V.top (x' := (b2i (stR M w b = true))) (rfl) ?_
      refine V.if_ne (tgt := 46) dX10_slate_37 (by decide) (fun q => absurd ((b2i_f hs)) q) (fun c37 => ?_)
      refine V.aload_n dX10_slate_40 rfl (i := 0) rfl ?_
      refine V.iconst dX10_slate_41 (v := 3) (by decide) ?_
      refine V.invv (z := mX10_finds) (As := [_]) dX10_slate_42 rfl mlRX10_131 okX10_finds npX10_finds rfl rfl rfl ⟨by decide, by decide⟩ (Nat.le_of_ble_eq_true rfl) rfl (Nat.le_of_ble_eq_true rfl) (c_fnd3   ?_)
      show V rS g (d + 67) mX10_slate 45 [some (.ref 83), some (.int (nI b)), some (.int w), some (.int v), none] [.int (-1000000003 : Int32)] (put (M) 87 3 ((M) 87 3 + 1)) Q
      exact V.ret dX10_slate_45 rfl (hst h b hb rfl (Bool.eq_false_iff.mpr hs))
  · skip
    refine V.aload_n dX10_slate_0 rfl (i := 0) rfl ?_
    refine V.iload_n dX10_slate_1 rfl (i := 1) rfl ?_
    refine V.invv (z := mX10_isBell) (As := [_]) dX10_slate_2 rfl mlRX10_170 okX10_isBell npX10_isBell rfl rfl rfl ⟨by decide, by decide⟩ (Nat.le_of_ble_eq_true rfl) rfl (Nat.le_of_ble_eq_true rfl) (c_bellR hV.1 h8 ?_)
    show V rS g (d + 67) mX10_slate 5 [some (.ref 83), some (.int a), some (.int w), some (.int v), none] [.int (b2i (0 ≤ a ∧ a < nI n))] M Q
    refine V.if_eq (tgt := 25) dX10_slate_5 (by decide) (fun c5 => ?_) (fun c5 => ?_)
    · refine V.aload_n dX10_slate_25 rfl (i := 0) rfl ?_
      refine V.iconst dX10_slate_26 (v := 1) (by decide) ?_
      refine V.invv (z := mX10_finds) (As := [_]) dX10_slate_27 rfl mlRX10_131 okX10_finds npX10_finds rfl rfl rfl ⟨by decide, by decide⟩ (Nat.le_of_ble_eq_true rfl) rfl (Nat.le_of_ble_eq_true rfl) (c_fnd1   ?_)
      show V rS g (d + 67) mX10_slate 30 [some (.ref 83), some (.int a), some (.int w), some (.int v), none] [.int (-1000000001 : Int32)] (put M 87 1 (M 87 1 + 1)) Q
      exact V.ret dX10_slate_30 rfl (hbad h)
    · refine V.iload_n dX10_slate_8 rfl (i := 2) rfl ?_
      refine V.invs (z := mX10_isHour) (As := [_]) dX10_slate_9 rfl mlRX10_191 okX10_isHour npX10_isHour rfl (Nat.le_of_ble_eq_true rfl) rfl (Nat.le_of_ble_eq_true rfl) (c_hourR   ?_)
      show V rS g (d + 67) mX10_slate 12 [some (.ref 83), some (.int a), some (.int w), some (.int v), none] [.int (b2i (0 ≤ w ∧ w ≤ 23))] (M) Q
      refine V.if_eq (tgt := 25) dX10_slate_12 (by decide) (fun c12 => ?_) (fun c12 => ?_)
      · refine V.aload_n dX10_slate_25 rfl (i := 0) rfl ?_
        refine V.iconst dX10_slate_26 (v := 1) (by decide) ?_
        refine V.invv (z := mX10_finds) (As := [_]) dX10_slate_27 rfl mlRX10_131 okX10_finds npX10_finds rfl rfl rfl ⟨by decide, by decide⟩ (Nat.le_of_ble_eq_true rfl) rfl (Nat.le_of_ble_eq_true rfl) (c_fnd1   ?_)
        show V rS g (d + 67) mX10_slate 30 [some (.ref 83), some (.int a), some (.int w), some (.int v), none] [.int (-1000000001 : Int32)] (put (M) 87 1 ((M) 87 1 + 1)) Q
        exact V.ret dX10_slate_30 rfl (hbad h)
      · refine V.iload_n dX10_slate_15 rfl (i := 3) rfl ?_
        refine V.i2l dX10_slate_16 ?_
        refine V.lconst dX10_slate_17 (v := 0) (by decide) ?_
        refine V.lconst dX10_slate_18 (v := 1) (by decide) ?_
        refine V.invs (z := mX10_in) (As := [_, _, _]) dX10_slate_19 rfl mlRX10_66 okX10_in npX10_in rfl (Nat.le_of_ble_eq_true rfl) rfl (Nat.le_of_ble_eq_true rfl) (c_in32 (v := v) (lo := (0 : Int32)) (hi := (1 : Int32)) (by first | rfl | decide) (by first | rfl | decide)   ?_)
        show V rS g (d + 67) mX10_slate 22 [some (.ref 83), some (.int a), some (.int w), some (.int v), none] [.int (b2i ((0 : Int32) ≤ v ∧ v ≤ (1 : Int32)))] (M) Q
        refine V.if_ne (tgt := 31) dX10_slate_22 (by decide) (fun c22 => ?_) (fun c22 => ?_)
        · exact absurd ⟨(Classical.byContradiction fun z => c5 (b2i_f z)), (Classical.byContradiction fun z => c12 (b2i_f z)), (Classical.byContradiction fun z => c22 (b2i_f z))⟩ h
        · refine V.aload_n dX10_slate_25 rfl (i := 0) rfl ?_
          refine V.iconst dX10_slate_26 (v := 1) (by decide) ?_
          refine V.invv (z := mX10_finds) (As := [_]) dX10_slate_27 rfl mlRX10_131 okX10_finds npX10_finds rfl rfl rfl ⟨by decide, by decide⟩ (Nat.le_of_ble_eq_true rfl) rfl (Nat.le_of_ble_eq_true rfl) (c_fnd1   ?_)
          show V rS g (d + 67) mX10_slate 30 [some (.ref 83), some (.int a), some (.int w), some (.int v), none] [.int (-1000000001 : Int32)] (put (M) 87 1 ((M) 87 1 + 1)) Q
          exact V.ret dX10_slate_30 rfl (hbad h)
set_option maxHeartbeats 4000000 in
set_option maxRecDepth 100000 in
theorem l_lst {g : GG} {d : Nat} {Q : Option Value → Mem → Prop} {a : Int32} {n m : Nat} {od : Nat → Nat} {G : Nat → Nat → Int32} {M0 : Mem} (hO : OdX M0 od m n) (hA : ApX M0 G od m) (hQ : ∀ M', eqx [93, 94] M0 M' → fst (fun t => gdF (loT (geR G) G (offR M0) od (nI t) m) (offR M0) od (nI t) m) 2001 < 2001 → Q (some (.int (nI (fst (fun t => gdF (loT (geR G) G (offR M0) od (nI t) m) (offR M0) od (nI t) m) 2001)))) M') (hno : ∀ M', eqx [93, 94] M0 M' → ¬ fst (fun t => gdF (loT (geR G) G (offR M0) od (nI t) m) (offR M0) od (nI t) m) 2001 < 2001 → Q (some (.int (-1000000002))) (put M' 87 2 (M' 87 2 + 1))) : ∀ (k t : Nat) (M : Mem), t + k = 2001 → eqx [93, 94] M0 M → (∀ j, j < t → (fun t => gdF (loT (geR G) G (offR M0) od (nI t) m) (offR M0) od (nI t) m) j = false) → V rS g (d + 2) mX10_least 20 [some (.ref 83), some (.int a), some (.int (nI t))] [] M Q := by
  intro k
  induction k with
  | zero =>
    intro t M hk he hj
    obtain rfl : t = 2001 := by omega
    refine V.iload_n dX10_least_20 rfl (i := 2) rfl ?_
    refine V.sipush dX10_least_21 (v := 2000) (by decide) ?_
    refine V.ic_gt (tgt := 43) dX10_least_24 (by decide) (fun c24 => ?_) (fun q => absurd ((by decide)) q)
    refine V.aload_n dX10_least_43 rfl (i := 0) rfl ?_
    refine V.iconst dX10_least_44 (v := 2) (by decide) ?_
    refine V.invv (z := mX10_finds) (As := [_]) dX10_least_45 rfl mlRX10_131 okX10_finds npX10_finds rfl rfl rfl ⟨by decide, by decide⟩ (Nat.le_of_ble_eq_true rfl) rfl (Nat.le_of_ble_eq_true rfl) (c_fnd2   ?_)
    show V rS g (d + 2) mX10_least 48 [some (.ref 83), some (.int a), some (.int (nI 2001))] [.int (-1000000002 : Int32)] (put M 87 2 (M 87 2 + 1)) Q
    exact V.ret dX10_least_48 rfl (hno M he (fun z => by rw [fst_all hj] at z; exact absurd z (Nat.lt_irrefl _)))
  | succ k ih =>
    intro t M hk he hj
    have hOM : OdX M od m n := by
      unfold OdX
      rw [he 83 (by decide), he 91 (by decide)]
      exact hO
    have hAM : ApX M G od m := fun i j h2 h3 => by rw [he 92 (by decide)]; exact hA i j h2 h3
    have eo : offR M = offR M0 := by unfold offR; rw [he 84 (by decide)]
    by_cases hg : (fun t => gdF (loT (geR G) G (offR M0) od (nI t) m) (offR M0) od (nI t) m) t = true
    · have hf : fst (fun t => gdF (loT (geR G) G (offR M0) od (nI t) m) (offR M0) od (nI t) m) 2001 = t := fst_is (by omega) hg hj
      refine V.iload_n dX10_least_20 rfl (i := 2) rfl ?_
      refine V.sipush dX10_least_21 (v := 2000) (by decide) ?_
      refine V.ic_gt (tgt := 43) dX10_least_24 (by decide) (fun q => absurd q ((fun z => absurd z (nI_nlt (a := 2000) (b := t) (by omega) (by omega))))) (fun c24 => ?_)
      refine V.aload_n dX10_least_27 rfl (i := 0) rfl ?_
      refine V.iload_n dX10_least_28 rfl (i := 2) rfl ?_
      refine V.invv (z := mX10_findSlates) (As := [_]) dX10_least_29 rfl mlRX10_264 okX10_findSlates npX10_findSlates rfl rfl rfl ⟨by decide, by decide⟩ (Nat.le_of_ble_eq_true rfl) rfl (Nat.le_of_ble_eq_true rfl) (c_fs (d := d) hOM hAM (fun M1 hM1 h93 h94 => ?_))
      show V rS g (d + 2) mX10_least 32 [some (.ref 83), some (.int a), some (.int (nI t))] [.int (b2i (gdF (loT (geR G) G (offR M) od (nI t) m) (offR M) od (nI t) m = true))] M1 Q
      refine V.top (x' := (b2i ((fun t => gdF (loT (geR G) G (offR M0) od (nI t) m) (offR M0) od (nI t) m) t = true))) ((by rw [eo])) ?_
      refine V.if_eq (tgt := 37) dX10_least_32 (by decide) (fun q => absurd q ((fun z => b2i_0.mp z hg))) (fun c32 => ?_)
      refine V.iload_n dX10_least_35 rfl (i := 2) rfl ?_
      exact V.ret dX10_least_36 rfl (by have h9 := hQ M1 (he.tr hM1) (by omega); rw [hf] at h9; exact h9)
    · skip
      refine V.iload_n dX10_least_20 rfl (i := 2) rfl ?_
      refine V.sipush dX10_least_21 (v := 2000) (by decide) ?_
      refine V.ic_gt (tgt := 43) dX10_least_24 (by decide) (fun q => absurd q ((fun z => absurd z (nI_nlt (a := 2000) (b := t) (by omega) (by omega))))) (fun c24 => ?_)
      refine V.aload_n dX10_least_27 rfl (i := 0) rfl ?_
      refine V.iload_n dX10_least_28 rfl (i := 2) rfl ?_
      refine V.invv (z := mX10_findSlates) (As := [_]) dX10_least_29 rfl mlRX10_264 okX10_findSlates npX10_findSlates rfl rfl rfl ⟨by decide, by decide⟩ (Nat.le_of_ble_eq_true rfl) rfl (Nat.le_of_ble_eq_true rfl) (c_fs (d := d) hOM hAM (fun M1 hM1 h93 h94 => ?_))
      show V rS g (d + 2) mX10_least 32 [some (.ref 83), some (.int a), some (.int (nI t))] [.int (b2i (gdF (loT (geR G) G (offR M) od (nI t) m) (offR M) od (nI t) m = true))] M1 Q
      refine V.top (x' := (b2i ((fun t => gdF (loT (geR G) G (offR M0) od (nI t) m) (offR M0) od (nI t) m) t = true))) ((by rw [eo])) ?_
      refine V.if_eq (tgt := 37) dX10_least_32 (by decide) (fun c32 => ?_) (fun q => absurd ((b2i_f hg)) q)
      refine V.iinc dX10_least_37 rfl (v := (nI (t + 1))) (nI_1 _) (by decide) (fun _ h => by cases h; exact Or.inl rfl) rfl ?_
      refine V.goto dX10_least_40 (tgt := 20) (by decide) ?_
      exact ih (t + 1) M1 (by omega) (he.tr hM1) (fun j h => by by_cases hq : j = t; subst hq; exact Bool.eq_false_iff.mpr hg; exact hj j (by omega))
set_option maxHeartbeats 4000000 in
set_option maxRecDepth 100000 in
theorem c10_least {g : GG} {d : Nat} {M : Mem} {Q : Option Value → Mem → Prop} {a : Int32} {S : List Int32} {n ne : Nat} (hV : VR S M n ne) (hbad : ¬ (0 ≤ a ∧ a ≤ 23) → Q (some (.int (-1000000001))) (put M 87 1 (M 87 1 + 1))) (hnone : (0 ≤ a ∧ a ≤ 23) → ∀ M', KpX M M' → ¬ fst (fun t => (gdF (loT (geR (gR S M a ne)) (gR S M a ne) (offR M) (odK M a n) (nI t) (odL M a n)) (offR M) (odK M a n) (nI t) (odL M a n))) 2001 < 2001 → Q (some (.int (-1000000002))) (put M' 87 2 (M' 87 2 + 1))) (hok : (0 ≤ a ∧ a ≤ 23) → ∀ M', KpX M M' → fst (fun t => (gdF (loT (geR (gR S M a ne)) (gR S M a ne) (offR M) (odK M a n) (nI t) (odL M a n)) (offR M) (odK M a n) (nI t) (odL M a n))) 2001 < 2001 → Q (some (.int (nI (fst (fun t => (gdF (loT (geR (gR S M a ne)) (gR S M a ne) (offR M) (odK M a n) (nI t) (odL M a n)) (offR M) (odK M a n) (nI t) (odL M a n))) 2001)))) M') : V rS g (d + 67) mX10_least 0 [some (.ref 83), some (.int a), none] [] M Q := by
  by_cases h : 0 ≤ a ∧ a ≤ 23
  · skip
    refine V.iload_n dX10_least_0 rfl (i := 1) rfl ?_
    refine V.invs (z := mX10_isHour) (As := [_]) dX10_least_1 rfl mlRX10_191 okX10_isHour npX10_isHour rfl (Nat.le_of_ble_eq_true rfl) rfl (Nat.le_of_ble_eq_true rfl) (c_hourR   ?_)
    show V rS g (d + 67) mX10_least 4 [some (.ref 83), some (.int a), none] [.int (b2i (0 ≤ a ∧ a ≤ 23))] (M) Q
    refine V.if_ne (tgt := 13) dX10_least_4 (by decide) (fun c4 => ?_) (fun q => absurd q ((fun z => b2i_0.mp z h)))
    refine V.aload_n dX10_least_13 rfl (i := 0) rfl ?_
    refine V.iload_n dX10_least_14 rfl (i := 1) rfl ?_
    refine V.invv (z := mX10_findOrder) (As := [_]) dX10_least_15 rfl mlRX10_261 okX10_findOrder npX10_findOrder rfl rfl rfl ⟨by decide, by decide⟩ (Nat.le_of_ble_eq_true rfl) rfl (Nat.le_of_ble_eq_true rfl) (c_findOrder hV (fun M1 hM1 hO hA => ?_))
    show V rS g (d + 67) mX10_least 18 [some (.ref 83), some (.int a), none] [] M1 Q
    refine V.iconst dX10_least_18 (v := 0) (by decide) ?_
    refine V.istore_n dX10_least_19 rfl (i := 2) (by decide) (fun _ h => by cases h; exact Or.inl rfl) rfl ?_
    skip
    have eo : offR M1 = offR M := by unfold offR; rw [hM1.d]
    refine l_lst (d := d + 65) hO hA (fun M2 hM2 hf => ?_) (fun M2 hM2 hf => ?_) 2001 0 M1 (by omega) eqx.rf (fun j hj => absurd hj (Nat.not_lt_zero _))
    · rw [eo] at hf
      rw [eo]
      exact hok h M2 (hM1.x.tr (hM2.x (by decide))) hf
    · rw [eo] at hf
      exact hnone h M2 (hM1.x.tr (hM2.x (by decide))) hf
  · skip
    refine V.iload_n dX10_least_0 rfl (i := 1) rfl ?_
    refine V.invs (z := mX10_isHour) (As := [_]) dX10_least_1 rfl mlRX10_191 okX10_isHour npX10_isHour rfl (Nat.le_of_ble_eq_true rfl) rfl (Nat.le_of_ble_eq_true rfl) (c_hourR   ?_)
    show V rS g (d + 67) mX10_least 4 [some (.ref 83), some (.int a), none] [.int (b2i (0 ≤ a ∧ a ≤ 23))] (M) Q
    refine V.if_ne (tgt := 13) dX10_least_4 (by decide) (fun c4 => ?_) (fun c4 => ?_)
    · exact absurd (Classical.byContradiction fun z => c4 (b2i_f z)) h
    · refine V.aload_n dX10_least_7 rfl (i := 0) rfl ?_
      refine V.iconst dX10_least_8 (v := 1) (by decide) ?_
      refine V.invv (z := mX10_finds) (As := [_]) dX10_least_9 rfl mlRX10_131 okX10_finds npX10_finds rfl rfl rfl ⟨by decide, by decide⟩ (Nat.le_of_ble_eq_true rfl) rfl (Nat.le_of_ble_eq_true rfl) (c_fnd1   ?_)
      show V rS g (d + 67) mX10_least 12 [some (.ref 83), some (.int a), none] [.int (-1000000001 : Int32)] (put (M) 87 1 ((M) 87 1 + 1)) Q
      exact V.ret dX10_least_12 rfl (hbad h)
/-- the reference's memory with other offsets -/
def zoR (M : Mem) (f : Nat → Int32) : Mem := fun c j => if c = 84 ∧ 108 ≤ j ∧ j < 164 ∧ (j - 108) % 7 = 4 then f ((j - 108) / 7) else M c j
theorem zoR_o {M : Mem} {f : Nat → Int32} {c : Nat} (h : c ≠ 84) : zoR M f c = M c := by
  funext j
  unfold zoR
  rw [if_neg (fun q => h q.1)]
theorem zoR_b {M : Mem} {f : Nat → Int32} {b : Nat} (h : b < 8) : zoR M f 84 (108 + 7 * b + 4) = f b := by
  unfold zoR
  rw [if_pos ⟨rfl, by omega, by omega, by omega⟩, show (108 + 7 * b + 4 - 108) / 7 = b by omega]
theorem zoR_n {M : Mem} {f : Nat → Int32} {j : Nat} (h : ¬ (108 ≤ j ∧ j < 164 ∧ (j - 108) % 7 = 4)) : zoR M f 84 j = M 84 j := by
  unfold zoR
  rw [if_neg (fun q => h q.2)]
theorem zoR_put {M : Mem} {f : Nat → Int32} {b : Nat} {v : Int32} (h : b < 8) : put (zoR M f) 84 (108 + 7 * b + 4) v = zoR M (fun x => if x = b then v else f x) := by
  funext c j
  unfold put zoR
  by_cases h1 : c = 84 ∧ 108 ≤ j ∧ j < 164 ∧ (j - 108) % 7 = 4
  · rw [if_pos h1, if_pos h1]
    by_cases h2 : j = 108 + 7 * b + 4
    · rw [if_pos ⟨h1.1, h2⟩]; exact (if_pos (by omega)).symm
    · rw [if_neg (fun q => h2 q.2)]; exact (if_neg (by omega)).symm
  · rw [if_neg (fun q => h1 ⟨q.1, by omega, by omega, by omega⟩), if_neg h1, if_neg h1]
theorem zoR_same {M : Mem} : zoR M (offR M) = M := by
  funext c j
  unfold zoR offR
  by_cases h1 : c = 84 ∧ 108 ≤ j ∧ j < 164 ∧ (j - 108) % 7 = 4
  · rw [if_pos h1, h1.1, show 108 + 7 * ((j - 108) / 7) + 4 = j by omega]
  · rw [if_neg h1]

set_option maxHeartbeats 4000000 in
set_option maxRecDepth 100000 in
theorem l_hang {g : GG} {d : Nat} {M : Mem} {Q : Option Value → Mem → Prop} {a : Int32} {n m : Nat} {od : Nat → Nat} {T : Nat → Int32} (hO : OdX M od m n) (h93 : ∀ i, i < m → M 93 i = T i) (hQ : Q (some (.int (nI (tkC T (offR M) od m)))) (zoR M (foT T (offR M) od m))) : ∀ (r k : Nat) (l4 : Option Value), k + r = m → V rS g (d + 2) mX10_hang 42 [some (.ref 83), some (.int a), some (.int (nI (tkC T (offR M) od k))), some (.int (nI k)), l4] [] (zoR M (foT T (offR M) od k)) Q := by
  obtain ⟨o1, o2, o3, o4, o5⟩ := hO
  intro r
  induction r with
  | zero =>
    intro k l4 hk
    obtain rfl : k = m := by omega
    refine V.fg (ls' := [some (.ref 83), some (.int a), some (.int (nI (tkC T (offR M) od k))), some (.int (nI k)), none]) ⟨rfl, rfl, rfl, rfl, trivial⟩ ?_
    refine V.iload_n dX10_hang_42 rfl (i := 3) rfl ?_
    refine V.aload_n dX10_hang_43 rfl (i := 0) rfl ?_
    refine V.getI dX10_hang_44 rfl flRX10_255 rfl ⟨by decide, by decide⟩ ?_
    refine V.top (x' := (nI k)) ((by rw [zoR_o (by decide)]; exact o1)) ?_
    refine V.ic_ge (tgt := 110) dX10_hang_47 (by decide) (fun c47 => ?_) (fun q => absurd ((Int32.le_refl _)) q)
    refine V.iload_n dX10_hang_110 rfl (i := 2) rfl ?_
    exact V.ret dX10_hang_111 rfl (hQ)
  | succ r ih =>
    intro k l4 hk
    have hk8 : k < 8 := by omega
    have hok := o4 k (by omega)
    have hod8 : od k < 8 := by omega
    have hof : (zoR M (foT T (offR M) od k)) 84 (108 + 7 * od k + 4) = foT T (offR M) od k (od k) := zoR_b hod8
    refine V.fg (ls' := [some (.ref 83), some (.int a), some (.int (nI (tkC T (offR M) od k))), some (.int (nI k)), none]) ⟨rfl, rfl, rfl, rfl, trivial⟩ ?_
    have e1 : nI (tkC T (offR M) od k) + (if heldF (T k) (-900) 900 = foT T (offR M) od k (od k) then (0 : Int32) else (1 : Int32)) = nI (tkC T (offR M) od (k + 1)) := by
      rw [tkC]
      split
      · rw [Int32.add_zero, Nat.add_zero]
      · exact nI_1 _
    refine V.iload_n dX10_hang_42 rfl (i := 3) rfl ?_
    refine V.aload_n dX10_hang_43 rfl (i := 0) rfl ?_
    refine V.getI dX10_hang_44 rfl flRX10_255 rfl ⟨by decide, by decide⟩ ?_
    refine V.top (x' := (nI m)) ((by rw [zoR_o (by decide)]; exact o1)) ?_
    refine V.ic_ge (tgt := 110) dX10_hang_47 (by decide) (fun q => absurd q ((nI_ge (a := k) (b := m) (by omega) (by omega)))) (fun c47 => ?_)
    refine V.aload_n dX10_hang_50 rfl (i := 0) rfl ?_
    refine V.getR dX10_hang_51 rfl flRX10_38 rfl ⟨by decide, by decide⟩ ?_
    refine V.iload_n dX10_hang_54 rfl (i := 3) rfl ?_
    refine V.ialdN dX10_hang_55 rfl ⟨by decide, by decide⟩ (by first | assumption | decide | omega) (by decide) ?_
    refine V.top (x' := (T k)) ((by rw [zoR_o (by decide)]; exact h93 k (by omega))) ?_
    refine V.sipush dX10_hang_56 (v := (-900)) (by decide) ?_
    refine V.sipush dX10_hang_59 (v := 900) (by decide) ?_
    refine V.invs (z := mX10_held) (As := [_, _, _]) dX10_hang_62 rfl mlRX10_140 okX10_held npX10_held rfl (Nat.le_of_ble_eq_true rfl) rfl (Nat.le_of_ble_eq_true rfl) (c_heldR   ?_)
    show V rS g (d + 2) mX10_hang 65 [some (.ref 83), some (.int a), some (.int (nI (tkC T (offR M) od k))), some (.int (nI k)), none] [.int (heldR (T k) (-900 : Int32) (900 : Int32))] ((zoR M (foT T (offR M) od k))) Q
    refine V.top (x' := (heldF (T k) (-900) 900)) ((held9 _)) ?_
    refine V.istore dX10_hang_65 (i := 4) (by decide) (fun _ h => by cases h; exact Or.inl rfl) rfl ?_
    refine V.iload_n dX10_hang_67 rfl (i := 2) rfl ?_
    refine V.iload dX10_hang_68 rfl ?_
    refine V.aload_n dX10_hang_70 rfl (i := 0) rfl ?_
    refine V.aload_n dX10_hang_71 rfl (i := 0) rfl ?_
    refine V.getR dX10_hang_72 rfl flRX10_32 rfl ⟨by decide, by decide⟩ ?_
    refine V.iload_n dX10_hang_75 rfl (i := 3) rfl ?_
    refine V.ialdN dX10_hang_76 rfl ⟨by decide, by decide⟩ (hk8) (by decide) ?_
    refine V.top (x' := (nI (od k))) ((by rw [zoR_o (by decide)]; exact hok.1)) ?_
    refine V.iconst dX10_hang_77 (v := 4) (by decide) ?_
    refine V.invv (z := mX10_of) (As := [_, _]) dX10_hang_78 rfl mlRX10_175 okX10_of npX10_of rfl rfl rfl ⟨by decide, by decide⟩ (Nat.le_of_ble_eq_true rfl) rfl (Nat.le_of_ble_eq_true rfl) (c_of  (by omega) (by decide) ?_)
    show V rS g (d + 2) mX10_hang 81 [some (.ref 83), some (.int a), some (.int (nI (tkC T (offR M) od k))), some (.int (nI k)), some (.int (heldF (T k) (-900) 900))] [.int (((zoR M (foT T (offR M) od k))) 84 (108 + 7 * (od k) + 4)), .int (heldF (T k) (-900) 900), .int (nI (tkC T (offR M) od k))] (((zoR M (foT T (offR M) od k)))) Q
    refine V.top (x' := (foT T (offR M) od k (od k))) (hof) ?_
    suffices kJ81 : V rS g (d + 2) mX10_hang 89 [some (.ref 83), some (.int a), some (.int (nI (tkC T (offR M) od k))), some (.int (nI k)), some (.int (heldF (T k) (-900) 900))] [.int (if (heldF (T k) (-900) 900) = (foT T (offR M) od k (od k)) then (0 : Int32) else (1 : Int32)), .int (nI (tkC T (offR M) od k))] (((zoR M (foT T (offR M) od k)))) Q by
      refine V.ic_eq (tgt := 88) dX10_hang_81 (by decide) (fun c81 => ?_) (fun c81 => ?_)
      · refine V.iconst dX10_hang_88 (v := 0) (by decide) ?_
        rw [if_pos c81] at kJ81; exact kJ81
      · refine V.iconst dX10_hang_84 (v := 1) (by decide) ?_
        refine V.goto dX10_hang_85 (tgt := 89) (by decide) ?_
        rw [if_neg c81] at kJ81; exact kJ81
    refine V.iadd dX10_hang_89 ?_
    refine V.top (x' := (nI (tkC T (offR M) od (k + 1)))) (e1) ?_
    refine V.istore_n dX10_hang_90 rfl (i := 2) (by decide) (fun _ h => by cases h; exact Or.inl rfl) rfl ?_
    refine V.aload_n dX10_hang_91 rfl (i := 0) rfl ?_
    refine V.aload_n dX10_hang_92 rfl (i := 0) rfl ?_
    refine V.getR dX10_hang_93 rfl flRX10_32 rfl ⟨by decide, by decide⟩ ?_
    refine V.iload_n dX10_hang_96 rfl (i := 3) rfl ?_
    refine V.ialdN dX10_hang_97 rfl ⟨by decide, by decide⟩ (hk8) (by decide) ?_
    refine V.top (x' := (nI (od k))) ((by rw [zoR_o (by decide)]; exact hok.1)) ?_
    refine V.iconst dX10_hang_98 (v := 4) (by decide) ?_
    refine V.iload dX10_hang_99 rfl ?_
    refine V.invv (z := mX10_becomes) (As := [_, _, _]) dX10_hang_101 rfl mlRX10_162 okX10_becomes npX10_becomes rfl rfl rfl ⟨by decide, by decide⟩ (Nat.le_of_ble_eq_true rfl) rfl (Nat.le_of_ble_eq_true rfl) (c_bec  (by omega) (by decide) ?_)
    show V rS g (d + 2) mX10_hang 104 [some (.ref 83), some (.int a), some (.int (nI (tkC T (offR M) od (k + 1)))), some (.int (nI k)), some (.int (heldF (T k) (-900) 900))] [] (put (((zoR M (foT T (offR M) od k)))) 84 (108 + 7 * (od k) + 4) (heldF (T k) (-900) 900)) Q
    refine V.mem (zoR_put hod8) ?_
    refine V.iinc dX10_hang_104 rfl (v := (nI (k + 1))) (nI_1 _) (by decide) (fun _ h => by cases h; exact Or.inl rfl) rfl ?_
    refine V.goto dX10_hang_107 (tgt := 42) (by decide) ?_
    exact ih (k + 1) _ (by omega)
set_option maxHeartbeats 4000000 in
set_option maxRecDepth 100000 in
theorem c10_hang {g : GG} {d : Nat} {M : Mem} {Q : Option Value → Mem → Prop} {a : Int32} {S : List Int32} {n ne : Nat} (hV : VR S M n ne) (hbad : ¬ (0 ≤ a ∧ a ≤ 23) → Q (some (.int (-1000000001))) (put M 87 1 (M 87 1 + 1))) (hnone : (0 ≤ a ∧ a ≤ 23) → ∀ M', KpX M M' → (gdF (loT (geR (gR S M a ne)) (gR S M a ne) (offR M) (odK M a n) (M 84 102) (odL M a n)) (offR M) (odK M a n) (M 84 102) (odL M a n)) = false → Q (some (.int (-1000000002))) (put M' 87 2 (M' 87 2 + 1))) (hok : (0 ≤ a ∧ a ≤ 23) → ∀ M', KpX M M' → (gdF (loT (geR (gR S M a ne)) (gR S M a ne) (offR M) (odK M a n) (M 84 102) (odL M a n)) (offR M) (odK M a n) (M 84 102) (odL M a n)) = true → Q (some (.int (nI (tkC (loT (geR (gR S M a ne)) (gR S M a ne) (offR M) (odK M a n) (M 84 102) (odL M a n)) (offR M) (odK M a n) (odL M a n))))) (zoR M' (foT (loT (geR (gR S M a ne)) (gR S M a ne) (offR M) (odK M a n) (M 84 102) (odL M a n)) (offR M) (odK M a n) (odL M a n)))) : V rS g (d + 67) mX10_hang 0 [some (.ref 83), some (.int a), none, none, none] [] M Q := by
  have h8 := hV.2.1
  by_cases h : 0 ≤ a ∧ a ≤ 23
  · skip
    refine V.iload_n dX10_hang_0 rfl (i := 1) rfl ?_
    refine V.invs (z := mX10_isHour) (As := [_]) dX10_hang_1 rfl mlRX10_191 okX10_isHour npX10_isHour rfl (Nat.le_of_ble_eq_true rfl) rfl (Nat.le_of_ble_eq_true rfl) (c_hourR   ?_)
    show V rS g (d + 67) mX10_hang 4 [some (.ref 83), some (.int a), none, none, none] [.int (b2i (0 ≤ a ∧ a ≤ 23))] (M) Q
    refine V.if_ne (tgt := 13) dX10_hang_4 (by decide) (fun c4 => ?_) (fun q => absurd q ((fun z => b2i_0.mp z h)))
    refine V.aload_n dX10_hang_13 rfl (i := 0) rfl ?_
    refine V.iload_n dX10_hang_14 rfl (i := 1) rfl ?_
    refine V.invv (z := mX10_findOrder) (As := [_]) dX10_hang_15 rfl mlRX10_261 okX10_findOrder npX10_findOrder rfl rfl rfl ⟨by decide, by decide⟩ (Nat.le_of_ble_eq_true rfl) rfl (Nat.le_of_ble_eq_true rfl) (c_findOrder hV (fun M1 hM1 hO hA => ?_))
    show V rS g (d + 67) mX10_hang 18 [some (.ref 83), some (.int a), none, none, none] [] M1 Q
    refine V.aload_n dX10_hang_18 rfl (i := 0) rfl ?_
    refine V.aload_n dX10_hang_19 rfl (i := 0) rfl ?_
    refine V.getR dX10_hang_20 rfl flRX10_7 rfl ⟨by decide, by decide⟩ ?_
    refine V.bipush dX10_hang_23 (v := 102) (by decide) ?_
    refine V.top (x' := nI 102) (by decide) ?_
    refine V.ialdN dX10_hang_25 rfl ⟨by decide, by decide⟩ (by first | assumption | decide | omega) (by decide) ?_
    refine V.top (x' := (M 84 102)) ((by rw [hM1.d])) ?_
    refine V.invv (z := mX10_findSlates) (As := [_]) dX10_hang_26 rfl mlRX10_264 okX10_findSlates npX10_findSlates rfl rfl rfl ⟨by decide, by decide⟩ (Nat.le_of_ble_eq_true rfl) rfl (Nat.le_of_ble_eq_true rfl) (c_fs hO hA (fun M2 hM2 h93 h94 => ?_))
    show V rS g (d + 67) mX10_hang 29 [some (.ref 83), some (.int a), none, none, none] [.int (b2i (gdF (loT (geR (gR S M a ne)) (gR S M a ne) (offR M1) (odK M a n) (M 84 102) (odL M a n)) (offR M1) (odK M a n) (M 84 102) (odL M a n) = true))] M2 Q
    skip
    have hX : KpX M M2 := hM1.x.tr (hM2.x (by decide))
    have eo : offR M1 = offR M := by unfold offR; rw [hM1.d]
    have eo2 : offR M2 = offR M := by unfold offR; rw [hX.d]
    rw [eo] at h93
    rw [eo]
    have hO2 : OdX M2 (odK M a n) (odL M a n) n := by
      unfold OdX
      rw [hM2 83 (by decide), hM2 91 (by decide)]
      exact hO
    by_cases hg : (gdF (loT (geR (gR S M a ne)) (gR S M a ne) (offR M) (odK M a n) (M 84 102) (odL M a n)) (offR M) (odK M a n) (M 84 102) (odL M a n)) = true
    · skip
      refine V.if_ne (tgt := 38) dX10_hang_29 (by decide) (fun c29 => ?_) (fun q => absurd q ((fun z => b2i_0.mp z hg)))
      refine V.iconst dX10_hang_38 (v := 0) (by decide) ?_
      refine V.istore_n dX10_hang_39 rfl (i := 2) (by decide) (fun _ h => by cases h; exact Or.inl rfl) rfl ?_
      refine V.iconst dX10_hang_40 (v := 0) (by decide) ?_
      refine V.istore_n dX10_hang_41 rfl (i := 3) (by decide) (fun _ h => by cases h; exact Or.inl rfl) rfl ?_
      exact V.mem zoR_same.symm (l_hang (d := d + 65) hO2 h93 (by rw [eo2]; exact hok h M2 hX hg) (odL M a n) 0 _ (by omega))
    · skip
      refine V.if_ne (tgt := 38) dX10_hang_29 (by decide) (fun q => absurd ((b2i_f hg)) q) (fun c29 => ?_)
      refine V.aload_n dX10_hang_32 rfl (i := 0) rfl ?_
      refine V.iconst dX10_hang_33 (v := 2) (by decide) ?_
      refine V.invv (z := mX10_finds) (As := [_]) dX10_hang_34 rfl mlRX10_131 okX10_finds npX10_finds rfl rfl rfl ⟨by decide, by decide⟩ (Nat.le_of_ble_eq_true rfl) rfl (Nat.le_of_ble_eq_true rfl) (c_fnd2   ?_)
      show V rS g (d + 67) mX10_hang 37 [some (.ref 83), some (.int a), none, none, none] [.int (-1000000002 : Int32)] (put M2 87 2 (M2 87 2 + 1)) Q
      exact V.ret dX10_hang_37 rfl (hnone h M2 hX (Bool.eq_false_iff.mpr hg))
  · skip
    refine V.iload_n dX10_hang_0 rfl (i := 1) rfl ?_
    refine V.invs (z := mX10_isHour) (As := [_]) dX10_hang_1 rfl mlRX10_191 okX10_isHour npX10_isHour rfl (Nat.le_of_ble_eq_true rfl) rfl (Nat.le_of_ble_eq_true rfl) (c_hourR   ?_)
    show V rS g (d + 67) mX10_hang 4 [some (.ref 83), some (.int a), none, none, none] [.int (b2i (0 ≤ a ∧ a ≤ 23))] (M) Q
    refine V.if_ne (tgt := 13) dX10_hang_4 (by decide) (fun c4 => ?_) (fun c4 => ?_)
    · exact absurd (Classical.byContradiction fun z => c4 (b2i_f z)) h
    · refine V.aload_n dX10_hang_7 rfl (i := 0) rfl ?_
      refine V.iconst dX10_hang_8 (v := 1) (by decide) ?_
      refine V.invv (z := mX10_finds) (As := [_]) dX10_hang_9 rfl mlRX10_131 okX10_finds npX10_finds rfl rfl rfl ⟨by decide, by decide⟩ (Nat.le_of_ble_eq_true rfl) rfl (Nat.le_of_ble_eq_true rfl) (c_fnd1   ?_)
      show V rS g (d + 67) mX10_hang 12 [some (.ref 83), some (.int a), none, none, none] [.int (-1000000001 : Int32)] (put (M) 87 1 ((M) 87 1 + 1)) Q
      exact V.ret dX10_hang_12 rfl (hbad h)

