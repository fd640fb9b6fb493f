/-! ===== the reference: move, text, check ===== -/
def lfM (M : Mem) (o k : Nat) : Mem := um M 101 (fun q => if q < k then M 100 (o + q) else M 101 q)
theorem lfM_0 {M : Mem} {o : Nat} : lfM M o 0 = M := by
  funext c i
  unfold lfM um
  by_cases h : c = 101
  · subst h; rw [if_pos rfl, if_neg (Nat.not_lt_zero _)]
  · rw [if_neg h]
theorem lfM_s {M : Mem} {o k : Nat} : put (lfM M o k) 101 k (M 100 (o + k)) = lfM M o (k + 1) := by
  funext c i
  by_cases h : c = 101
  · subst h
    by_cases hi : i = k
    · subst hi; rw [put_s]; unfold lfM; rw [um_s, if_pos (by omega)]
    · rw [put_n (fun z => hi z.2)]
      unfold lfM
      rw [um_s, um_s]
      by_cases hq : i < k
      · rw [if_pos hq, if_pos (by omega)]
      · rw [if_neg hq, if_neg (by omega)]
  · rw [put_cell h]; unfold lfM; rw [um_n h, um_n h]
def mvM (M : Mem) (o p K k : Nat) : Mem := um (lfM M o K) 100 (fun q => if p ≤ q ∧ q < p + k then M 100 (o + (q - p)) else M 100 q)
theorem mvM_0 {M : Mem} {o p K : Nat} : mvM M o p K 0 = lfM M o K := by
  funext c i
  unfold mvM um
  by_cases h : c = 100
  · subst h; rw [if_pos rfl, if_neg (fun z => by omega)]; rfl
  · rw [if_neg h]
theorem mvM_1 {M : Mem} {o p K k q : Nat} (h : q < K) : mvM M o p K k 101 q = M 100 (o + q) := by
  unfold mvM lfM
  rw [um_n (by decide), um_s, if_pos h]
theorem mvM_s {M : Mem} {o p K k : Nat} : put (mvM M o p K k) 100 (p + k) (M 100 (o + k)) = mvM M o p K (k + 1) := by
  funext c i
  by_cases h : c = 100
  · subst h
    by_cases hi : i = p + k
    · subst hi; rw [put_s]; unfold mvM; rw [um_s, if_pos ⟨by omega, by omega⟩, show p + k - p = k by omega]
    · rw [put_n (fun z => hi z.2)]
      unfold mvM
      rw [um_s, um_s]
      by_cases hq : p ≤ i ∧ i < p + k
      · rw [if_pos hq, if_pos ⟨hq.1, by omega⟩]
      · rw [if_neg hq, if_neg (fun z => hq ⟨z.1, by omega⟩)]
  · rw [put_cell h]; unfold mvM; rw [um_n h, um_n h]

set_option maxHeartbeats 4000000 in
set_option maxRecDepth 100000 in
theorem l_mv2 {g : GG} {d : Nat} {M : Mem} {Q : Option Value → Mem → Prop} {s x t y K : Nat} (hs : s < 4) (ht : t < 4) (hx : x + K ≤ 40) (hy : y + K ≤ 40) (hQ : Q (some (.int (nI K))) (mvM M (40 * s + x) (40 * t + y) K K)) : ∀ (r k : Nat), k + r = K → V rS g (d + 2) mX10_move 152 [some (.ref 83), some (.int (nI s)), some (.int (nI x)), some (.int (nI t)), some (.int (nI y)), some (.int (nI K)), some (.int (nI k))] [] (mvM M (40 * s + x) (40 * t + y) K k) Q := by
  intro r
  induction r with
  | zero =>
    intro k hk
    obtain rfl : k = K := by omega
    refine V.iload dX10_move_152 rfl ?_
    refine V.iload dX10_move_154 rfl ?_
    refine V.ic_ge (tgt := 187) dX10_move_156 (by decide) (fun c156 => ?_) (fun q => absurd ((Int32.le_refl _)) q)
    refine V.iload dX10_move_187 rfl ?_
    exact V.ret dX10_move_189 rfl (hQ)
  | succ r ih =>
    intro k hk
    refine V.iload dX10_move_152 rfl ?_
    refine V.iload dX10_move_154 rfl ?_
    refine V.ic_ge (tgt := 187) dX10_move_156 (by decide) (fun q => absurd q ((nI_ge (a := k) (b := K) (by omega) (by omega)))) (fun c156 => ?_)
    refine V.aload_n dX10_move_159 rfl (i := 0) rfl ?_
    refine V.getR dX10_move_160 rfl flRX10_59 rfl ⟨by decide, by decide⟩ ?_
    refine V.bipush dX10_move_163 (v := 40) (by decide) ?_
    refine V.iload_n dX10_move_165 rfl (i := 3) rfl ?_
    refine V.imul dX10_move_166 ?_
    refine V.top (x' := (nI (40 * t))) (pk_mul 40 t) ?_
    refine V.iload dX10_move_167 rfl ?_
    refine V.iadd dX10_move_169 ?_
    refine V.top (x' := (nI ((40 * t) + y))) (nI_add (40 * t) y) ?_
    refine V.iload dX10_move_170 rfl ?_
    refine V.iadd dX10_move_172 ?_
    refine V.top (x' := (nI (((40 * t) + y) + k))) (nI_add ((40 * t) + y) k) ?_
    refine V.aload_n dX10_move_173 rfl (i := 0) rfl ?_
    refine V.getR dX10_move_174 rfl flRX10_62 rfl ⟨by decide, by decide⟩ ?_
    refine V.iload dX10_move_177 rfl ?_
    refine V.ialdN dX10_move_179 rfl ⟨by decide, by decide⟩ (by first | assumption | decide | omega) (by decide) ?_
    refine V.top (x' := (M 100 ((40 * s + x) + k))) ((mvM_1 (by omega))) ?_
    refine V.iastN dX10_move_180 rfl ⟨by decide, by decide⟩ (by first | assumption | decide | omega) (by decide) ?_
    refine V.mem mvM_s ?_
    refine V.iinc dX10_move_181 rfl (v := (nI (k + 1))) (nI_1 _) (by decide) (fun _ h => by cases h; exact Or.inl rfl) rfl ?_
    refine V.goto dX10_move_184 (tgt := 152) (by decide) ?_
    exact ih (k + 1) (by omega)
set_option maxHeartbeats 4000000 in
set_option maxRecDepth 100000 in
theorem l_mv1 {g : GG} {d : Nat} {M : Mem} {Q : Option Value → Mem → Prop} {s x t y K : Nat} (hs : s < 4) (ht : t < 4) (hx : x + K ≤ 40) (hy : y + K ≤ 40) (hQ : Q (some (.int (nI K))) (mvM M (40 * s + x) (40 * t + y) K K)) : ∀ (r k : Nat), k + r = K → V rS g (d + 2) mX10_move 115 [some (.ref 83), some (.int (nI s)), some (.int (nI x)), some (.int (nI t)), some (.int (nI y)), some (.int (nI K)), some (.int (nI k))] [] (lfM M (40 * s + x) k) Q := by
  intro r
  induction r with
  | zero =>
    intro k hk
    obtain rfl : k = K := by omega
    refine V.iload dX10_move_115 rfl ?_
    refine V.iload dX10_move_117 rfl ?_
    refine V.ic_ge (tgt := 149) dX10_move_119 (by decide) (fun c119 => ?_) (fun q => absurd ((Int32.le_refl _)) q)
    refine V.iconst dX10_move_149 (v := 0) (by decide) ?_
    refine V.istore dX10_move_150 (i := 6) (by decide) (fun _ h => by cases h; exact Or.inl rfl) rfl ?_
    exact V.mem mvM_0.symm (l_mv2 hs ht hx hy hQ k 0 (by omega))
  | succ r ih =>
    intro k hk
    have e100 : lfM M (40 * s + x) k 100 = M 100 := by unfold lfM; rw [um_n (by decide)]
    refine V.iload dX10_move_115 rfl ?_
    refine V.iload dX10_move_117 rfl ?_
    refine V.ic_ge (tgt := 149) dX10_move_119 (by decide) (fun q => absurd q ((nI_ge (a := k) (b := K) (by omega) (by omega)))) (fun c119 => ?_)
    refine V.aload_n dX10_move_122 rfl (i := 0) rfl ?_
    refine V.getR dX10_move_123 rfl flRX10_62 rfl ⟨by decide, by decide⟩ ?_
    refine V.iload dX10_move_126 rfl ?_
    refine V.aload_n dX10_move_128 rfl (i := 0) rfl ?_
    refine V.getR dX10_move_129 rfl flRX10_59 rfl ⟨by decide, by decide⟩ ?_
    refine V.bipush dX10_move_132 (v := 40) (by decide) ?_
    refine V.iload_n dX10_move_134 rfl (i := 1) rfl ?_
    refine V.imul dX10_move_135 ?_
    refine V.top (x' := (nI (40 * s))) (pk_mul 40 s) ?_
    refine V.iload_n dX10_move_136 rfl (i := 2) rfl ?_
    refine V.iadd dX10_move_137 ?_
    refine V.top (x' := (nI ((40 * s) + x))) (nI_add (40 * s) x) ?_
    refine V.iload dX10_move_138 rfl ?_
    refine V.iadd dX10_move_140 ?_
    refine V.top (x' := (nI (((40 * s) + x) + k))) (nI_add ((40 * s) + x) k) ?_
    refine V.ialdN dX10_move_141 rfl ⟨by decide, by decide⟩ (by first | assumption | decide | omega) (by decide) ?_
    refine V.top (x' := (M 100 ((40 * s + x) + k))) ((by rw [e100])) ?_
    refine V.iastN dX10_move_142 rfl ⟨by decide, by decide⟩ (by first | assumption | decide | omega) (by decide) ?_
    refine V.mem lfM_s ?_
    refine V.iinc dX10_move_143 rfl (v := (nI (k + 1))) (nI_1 _) (by decide) (fun _ h => by cases h; exact Or.inl rfl) rfl ?_
    refine V.goto dX10_move_146 (tgt := 115) (by decide) ?_
    exact ih (k + 1) (by omega)
theorem mv_le {z : Nat} {i c : Int32} (hz : z ≤ 40) (h0 : 0 ≤ c) (hi : 0 ≤ i) (h : c ≤ nI z - i) : i ≤ nI z := by
  refine Classical.byContradiction fun q => ?_
  have h1 := Int32.lt_iff_toInt_lt.mp (Int32.not_le.mp q)
  have h2 := Int32.le_iff_toInt_le.mp h0
  have h3 := Int32.le_iff_toInt_le.mp hi
  have h4 := Int32.le_iff_toInt_le.mp h
  have e0 : (0 : Int32).toInt = 0 := by decide
  rw [nI_toInt (by omega)] at h1
  rw [e0] at h2 h3
  have h5 := i.toInt_lt
  have e : (nI z - i).toInt = (z : Int) - i.toInt := by
    rw [Int32.toInt_sub, nI_toInt (by omega)]
    exact Int.bmod_eq_of_le (by omega) (by omega)
  omega

set_option maxHeartbeats 4000000 in
set_option maxRecDepth 100000 in
theorem c10_move {g : GG} {d : Nat} {M : Mem} {Q : Option Value → Mem → Prop} {a i b j c : Int32} (hsz : ∀ s, s < 4 → ∃ z, z ≤ 40 ∧ M 99 s = nI z) (hbad : ¬ ((0 ≤ a ∧ a ≤ 3) ∧ 0 ≤ b ∧ b ≤ 3) → Q (some (.int (-1000000001))) (put M 87 1 (M 87 1 + 1))) (hnone : ∀ s t, s < 4 → t < 4 → a = nI s → b = nI t → (M 98 s = 0 ∨ M 98 t = 0) → Q (some (.int (-1000000002))) (put M 87 2 (M 87 2 + 1))) (hkind : ∀ s t, s < 4 → t < 4 → a = nI s → b = nI t → ¬ (M 98 s = 0 ∨ M 98 t = 0) → ¬ M 98 s = M 98 t → Q (some (.int (-1000000005))) (put M 87 5 (M 87 5 + 1))) (hbad2 : ∀ s t, s < 4 → t < 4 → a = nI s → b = nI t → ¬ (M 98 s = 0 ∨ M 98 t = 0) → M 98 s = M 98 t → ¬ ((0 ≤ c ∧ 0 ≤ i ∧ i ≤ M 99 s ∧ c ≤ M 99 s - i) ∧ (0 ≤ c ∧ 0 ≤ j ∧ j ≤ M 99 t ∧ c ≤ M 99 t - j)) → Q (some (.int (-1000000001))) (put M 87 1 (M 87 1 + 1))) (hok : ∀ s t x y K, s < 4 → t < 4 → a = nI s → b = nI t → i = nI x → j = nI y → c = nI K → x + K ≤ 40 → y + K ≤ 40 → ¬ (M 98 s = 0 ∨ M 98 t = 0) → M 98 s = M 98 t → (0 ≤ c ∧ 0 ≤ i ∧ i ≤ M 99 s ∧ c ≤ M 99 s - i) ∧ (0 ≤ c ∧ 0 ≤ j ∧ j ≤ M 99 t ∧ c ≤ M 99 t - j) → Q (some (.int (nI K))) (mvM M (40 * s + x) (40 * t + y) K K)) : V rS g (d + 2) mX10_move 0 [some (.ref 83), some (.int a), some (.int i), some (.int b), some (.int j), some (.int c), none] [] M Q := by
  by_cases h : ((0 ≤ a ∧ a ≤ 3) ∧ 0 ≤ b ∧ b ≤ 3)
  · obtain ⟨s, hs, rfl⟩ := nI_ex (n := 4) (by omega) h.1.1 (Int32.lt_of_le_of_lt h.1.2 (by decide))
    obtain ⟨t, ht, rfl⟩ := nI_ex (n := 4) (by omega) h.2.1 (Int32.lt_of_le_of_lt h.2.2 (by decide))
    by_cases hm : M 98 s = 0 ∨ M 98 t = 0
    · skip
      refine V.iload_n dX10_move_0 rfl (i := 1) rfl ?_
      refine V.invs (z := mX10_isSheet) (As := [_]) dX10_move_1 rfl mlRX10_197 okX10_isSheet npX10_isSheet rfl (Nat.le_of_ble_eq_true rfl) rfl (Nat.le_of_ble_eq_true rfl) (c_sheetR   ?_)
      show V rS g (d + 2) mX10_move 4 [some (.ref 83), some (.int (nI s)), some (.int i), some (.int (nI t)), some (.int j), some (.int c), none] [.int (b2i (0 ≤ (nI s) ∧ (nI s) ≤ 3))] (M) Q
      refine V.if_eq (tgt := 14) dX10_move_4 (by decide) (fun q => absurd q ((fun z => b2i_0.mp z h.1))) (fun c4 => ?_)
      refine V.iload_n dX10_move_7 rfl (i := 3) rfl ?_
      refine V.invs (z := mX10_isSheet) (As := [_]) dX10_move_8 rfl mlRX10_197 okX10_isSheet npX10_isSheet rfl (Nat.le_of_ble_eq_true rfl) rfl (Nat.le_of_ble_eq_true rfl) (c_sheetR   ?_)
      show V rS g (d + 2) mX10_move 11 [some (.ref 83), some (.int (nI s)), some (.int i), some (.int (nI t)), some (.int j), some (.int c), none] [.int (b2i (0 ≤ (nI t) ∧ (nI t) ≤ 3))] ((M)) Q
      refine V.if_ne (tgt := 20) dX10_move_11 (by decide) (fun c11 => ?_) (fun q => absurd q ((fun z => b2i_0.mp z h.2)))
      refine V.aload_n dX10_move_20 rfl (i := 0) rfl ?_
      refine V.getR dX10_move_21 rfl flRX10_53 rfl ⟨by decide, by decide⟩ ?_
      refine V.iload_n dX10_move_24 rfl (i := 1) rfl ?_
      refine V.ialdN dX10_move_25 rfl ⟨by decide, by decide⟩ (by first | assumption | decide | omega) (by decide) ?_
      refine V.if_eq (tgt := 38) dX10_move_26 (by decide) (fun c26 => ?_) (fun c26 => ?_)
      · refine V.aload_n dX10_move_38 rfl (i := 0) rfl ?_
        refine V.iconst dX10_move_39 (v := 2) (by decide) ?_
        refine V.invv (z := mX10_finds) (As := [_]) dX10_move_40 rfl mlRX10_131 okX10_finds npX10_finds rfl rfl rfl ⟨by decide, by decide⟩ (Nat.le_of_ble_eq_true rfl) rfl (Nat.le_of_ble_eq_true rfl) (c_fnd2   ?_)
        show V rS g (d + 2) mX10_move 43 [some (.ref 83), some (.int (nI s)), some (.int i), some (.int (nI t)), some (.int j), some (.int c), none] [.int (-1000000002 : Int32)] (put ((M)) 87 2 (((M)) 87 2 + 1)) Q
        exact V.ret dX10_move_43 rfl (hnone s t hs ht rfl rfl hm)
      · refine V.aload_n dX10_move_29 rfl (i := 0) rfl ?_
        refine V.getR dX10_move_30 rfl flRX10_53 rfl ⟨by decide, by decide⟩ ?_
        refine V.iload_n dX10_move_33 rfl (i := 3) rfl ?_
        refine V.ialdN dX10_move_34 rfl ⟨by decide, by decide⟩ (by first | assumption | decide | omega) (by decide) ?_
        refine V.if_ne (tgt := 44) dX10_move_35 (by decide) (fun c35 => ?_) (fun c35 => ?_)
        · exact absurd hm (fun z => z.elim c26 c35)
        · refine V.aload_n dX10_move_38 rfl (i := 0) rfl ?_
          refine V.iconst dX10_move_39 (v := 2) (by decide) ?_
          refine V.invv (z := mX10_finds) (As := [_]) dX10_move_40 rfl mlRX10_131 okX10_finds npX10_finds rfl rfl rfl ⟨by decide, by decide⟩ (Nat.le_of_ble_eq_true rfl) rfl (Nat.le_of_ble_eq_true rfl) (c_fnd2   ?_)
          show V rS g (d + 2) mX10_move 43 [some (.ref 83), some (.int (nI s)), some (.int i), some (.int (nI t)), some (.int j), some (.int c), none] [.int (-1000000002 : Int32)] (put ((M)) 87 2 (((M)) 87 2 + 1)) Q
          exact V.ret dX10_move_43 rfl (hnone s t hs ht rfl rfl hm)
    · have hm1 : ¬ M 98 s = 0 := fun z => hm (Or.inl z)
      have hm2 : ¬ M 98 t = 0 := fun z => hm (Or.inr z)
      obtain ⟨z1, hz1, e1⟩ := hsz s hs
      obtain ⟨z2, hz2, e2⟩ := hsz t ht
      by_cases hal : M 98 s = M 98 t
      · by_cases hst : (0 ≤ c ∧ 0 ≤ i ∧ i ≤ M 99 s ∧ c ≤ M 99 s - i) ∧ (0 ≤ c ∧ 0 ≤ j ∧ j ≤ M 99 t ∧ c ≤ M 99 t - j)
        · obtain ⟨x, K, rfl, rfl, h1⟩ := standN hz1 (e1 ▸ hst.1)
          obtain ⟨y, K', rfl, hkk, h2⟩ := standN hz2 (e2 ▸ hst.2)
          have hst3 := hst.1.2.2.2
          rw [e1, pk_sub (by omega)] at hst3
          have hK : K ≤ 40 := by omega
          have hKK : K = K' := (nI_eq (by omega) (by omega)).mp hkk
          subst hKK
          refine V.iload_n dX10_move_0 rfl (i := 1) rfl ?_
          refine V.invs (z := mX10_isSheet) (As := [_]) dX10_move_1 rfl mlRX10_197 okX10_isSheet npX10_isSheet rfl (Nat.le_of_ble_eq_true rfl) rfl (Nat.le_of_ble_eq_true rfl) (c_sheetR   ?_)
          show V rS g (d + 2) mX10_move 4 [some (.ref 83), some (.int (nI s)), some (.int (nI x)), some (.int (nI t)), some (.int (nI y)), some (.int (nI K)), none] [.int (b2i (0 ≤ (nI s) ∧ (nI s) ≤ 3))] (M) Q
          refine V.if_eq (tgt := 14) dX10_move_4 (by decide) (fun q => absurd q ((fun z => b2i_0.mp z h.1))) (fun c4 => ?_)
          refine V.iload_n dX10_move_7 rfl (i := 3) rfl ?_
          refine V.invs (z := mX10_isSheet) (As := [_]) dX10_move_8 rfl mlRX10_197 okX10_isSheet npX10_isSheet rfl (Nat.le_of_ble_eq_true rfl) rfl (Nat.le_of_ble_eq_true rfl) (c_sheetR   ?_)
          show V rS g (d + 2) mX10_move 11 [some (.ref 83), some (.int (nI s)), some (.int (nI x)), some (.int (nI t)), some (.int (nI y)), some (.int (nI K)), none] [.int (b2i (0 ≤ (nI t) ∧ (nI t) ≤ 3))] ((M)) Q
          refine V.if_ne (tgt := 20) dX10_move_11 (by decide) (fun c11 => ?_) (fun q => absurd q ((fun z => b2i_0.mp z h.2)))
          refine V.aload_n dX10_move_20 rfl (i := 0) rfl ?_
          refine V.getR dX10_move_21 rfl flRX10_53 rfl ⟨by decide, by decide⟩ ?_
          refine V.iload_n dX10_move_24 rfl (i := 1) rfl ?_
          refine V.ialdN dX10_move_25 rfl ⟨by decide, by decide⟩ (by first | assumption | decide | omega) (by decide) ?_
          refine V.if_eq (tgt := 38) dX10_move_26 (by decide) (fun q => absurd q (hm1)) (fun c26 => ?_)
          refine V.aload_n dX10_move_29 rfl (i := 0) rfl ?_
          refine V.getR dX10_move_30 rfl flRX10_53 rfl ⟨by decide, by decide⟩ ?_
          refine V.iload_n dX10_move_33 rfl (i := 3) rfl ?_
          refine V.ialdN dX10_move_34 rfl ⟨by decide, by decide⟩ (by first | assumption | decide | omega) (by decide) ?_
          refine V.if_ne (tgt := 44) dX10_move_35 (by decide) (fun c35 => ?_) (fun q => absurd q (hm2))
          refine V.aload_n dX10_move_44 rfl (i := 0) rfl ?_
          refine V.getR dX10_move_45 rfl flRX10_53 rfl ⟨by decide, by decide⟩ ?_
          refine V.iload_n dX10_move_48 rfl (i := 1) rfl ?_
          refine V.ialdN dX10_move_49 rfl ⟨by decide, by decide⟩ (by first | assumption | decide | omega) (by decide) ?_
          refine V.aload_n dX10_move_50 rfl (i := 0) rfl ?_
          refine V.getR dX10_move_51 rfl flRX10_53 rfl ⟨by decide, by decide⟩ ?_
          refine V.iload_n dX10_move_54 rfl (i := 3) rfl ?_
          refine V.ialdN dX10_move_55 rfl ⟨by decide, by decide⟩ (by first | assumption | decide | omega) (by decide) ?_
          refine V.ic_eq (tgt := 65) dX10_move_56 (by decide) (fun c56 => ?_) (fun q => absurd (hal) q)
          refine V.iload dX10_move_65 rfl ?_
          refine V.if_lt (tgt := 106) dX10_move_67 (by decide) (fun q => absurd q ((Int32.not_lt.mpr hst.1.1))) (fun c67 => ?_)
          refine V.iload_n dX10_move_70 rfl (i := 2) rfl ?_
          refine V.if_lt (tgt := 106) dX10_move_71 (by decide) (fun q => absurd q ((Int32.not_lt.mpr hst.1.2.1))) (fun c71 => ?_)
          refine V.iload dX10_move_74 rfl ?_
          refine V.if_lt (tgt := 106) dX10_move_76 (by decide) (fun q => absurd q ((Int32.not_lt.mpr hst.2.2.1))) (fun c76 => ?_)
          refine V.iload dX10_move_79 rfl ?_
          refine V.aload_n dX10_move_81 rfl (i := 0) rfl ?_
          refine V.getR dX10_move_82 rfl flRX10_56 rfl ⟨by decide, by decide⟩ ?_
          refine V.iload_n dX10_move_85 rfl (i := 1) rfl ?_
          refine V.ialdN dX10_move_86 rfl ⟨by decide, by decide⟩ (by first | assumption | decide | omega) (by decide) ?_
          refine V.iload_n dX10_move_87 rfl (i := 2) rfl ?_
          refine V.isub dX10_move_88 ?_
          refine V.ic_gt (tgt := 106) dX10_move_89 (by decide) (fun q => absurd q ((Int32.not_lt.mpr hst.1.2.2.2))) (fun c89 => ?_)
          refine V.iload dX10_move_92 rfl ?_
          refine V.aload_n dX10_move_94 rfl (i := 0) rfl ?_
          refine V.getR dX10_move_95 rfl flRX10_56 rfl ⟨by decide, by decide⟩ ?_
          refine V.iload_n dX10_move_98 rfl (i := 3) rfl ?_
          refine V.ialdN dX10_move_99 rfl ⟨by decide, by decide⟩ (by first | assumption | decide | omega) (by decide) ?_
          refine V.iload dX10_move_100 rfl ?_
          refine V.isub dX10_move_102 ?_
          refine V.ic_le (tgt := 112) dX10_move_103 (by decide) (fun c103 => ?_) (fun q => absurd (hst.2.2.2.2) q)
          refine V.iconst dX10_move_112 (v := 0) (by decide) ?_
          refine V.istore dX10_move_113 (i := 6) (by decide) (fun _ h => by cases h; exact Or.inl rfl) rfl ?_
          exact V.mem lfM_0.symm (l_mv1 hs ht (by omega) (by omega) (hok s t x y K hs ht rfl rfl rfl rfl rfl (by omega) (by omega) hm hal hst) K 0 (by omega))
        · skip
          refine V.iload_n dX10_move_0 rfl (i := 1) rfl ?_
          refine V.invs (z := mX10_isSheet) (As := [_]) dX10_move_1 rfl mlRX10_197 okX10_isSheet npX10_isSheet rfl (Nat.le_of_ble_eq_true rfl) rfl (Nat.le_of_ble_eq_true rfl) (c_sheetR   ?_)
          show V rS g (d + 2) mX10_move 4 [some (.ref 83), some (.int (nI s)), some (.int i), some (.int (nI t)), some (.int j), some (.int c), none] [.int (b2i (0 ≤ (nI s) ∧ (nI s) ≤ 3))] (M) Q
          refine V.if_eq (tgt := 14) dX10_move_4 (by decide) (fun q => absurd q ((fun z => b2i_0.mp z h.1))) (fun c4 => ?_)
          refine V.iload_n dX10_move_7 rfl (i := 3) rfl ?_
          refine V.invs (z := mX10_isSheet) (As := [_]) dX10_move_8 rfl mlRX10_197 okX10_isSheet npX10_isSheet rfl (Nat.le_of_ble_eq_true rfl) rfl (Nat.le_of_ble_eq_true rfl) (c_sheetR   ?_)
          show V rS g (d + 2) mX10_move 11 [some (.ref 83), some (.int (nI s)), some (.int i), some (.int (nI t)), some (.int j), some (.int c), none] [.int (b2i (0 ≤ (nI t) ∧ (nI t) ≤ 3))] ((M)) Q
          refine V.if_ne (tgt := 20) dX10_move_11 (by decide) (fun c11 => ?_) (fun q => absurd q ((fun z => b2i_0.mp z h.2)))
          refine V.aload_n dX10_move_20 rfl (i := 0) rfl ?_
          refine V.getR dX10_move_21 rfl flRX10_53 rfl ⟨by decide, by decide⟩ ?_
          refine V.iload_n dX10_move_24 rfl (i := 1) rfl ?_
          refine V.ialdN dX10_move_25 rfl ⟨by decide, by decide⟩ (by first | assumption | decide | omega) (by decide) ?_
          refine V.if_eq (tgt := 38) dX10_move_26 (by decide) (fun q => absurd q (hm1)) (fun c26 => ?_)
          refine V.aload_n dX10_move_29 rfl (i := 0) rfl ?_
          refine V.getR dX10_move_30 rfl flRX10_53 rfl ⟨by decide, by decide⟩ ?_
          refine V.iload_n dX10_move_33 rfl (i := 3) rfl ?_
          refine V.ialdN dX10_move_34 rfl ⟨by decide, by decide⟩ (by first | assumption | decide | omega) (by decide) ?_
          refine V.if_ne (tgt := 44) dX10_move_35 (by decide) (fun c35 => ?_) (fun q => absurd q (hm2))
          refine V.aload_n dX10_move_44 rfl (i := 0) rfl ?_
          refine V.getR dX10_move_45 rfl flRX10_53 rfl ⟨by decide, by decide⟩ ?_
          refine V.iload_n dX10_move_48 rfl (i := 1) rfl ?_
          refine V.ialdN dX10_move_49 rfl ⟨by decide, by decide⟩ (by first | assumption | decide | omega) (by decide) ?_
          refine V.aload_n dX10_move_50 rfl (i := 0) rfl ?_
          refine V.getR dX10_move_51 rfl flRX10_53 rfl ⟨by decide, by decide⟩ ?_
          refine V.iload_n dX10_move_54 rfl (i := 3) rfl ?_
          refine V.ialdN dX10_move_55 rfl ⟨by decide, by decide⟩ (by first | assumption | decide | omega) (by decide) ?_
          refine V.ic_eq (tgt := 65) dX10_move_56 (by decide) (fun c56 => ?_) (fun q => absurd (hal) q)
          refine V.iload dX10_move_65 rfl ?_
          refine V.if_lt (tgt := 106) dX10_move_67 (by decide) (fun c67 => ?_) (fun c67 => ?_)
          · refine V.aload_n dX10_move_106 rfl (i := 0) rfl ?_
            refine V.iconst dX10_move_107 (v := 1) (by decide) ?_
            refine V.invv (z := mX10_finds) (As := [_]) dX10_move_108 rfl mlRX10_131 okX10_finds npX10_finds rfl rfl rfl ⟨by decide, by decide⟩ (Nat.le_of_ble_eq_true rfl) rfl (Nat.le_of_ble_eq_true rfl) (c_fnd1   ?_)
            show V rS g (d + 2) mX10_move 111 [some (.ref 83), some (.int (nI s)), some (.int i), some (.int (nI t)), some (.int j), some (.int c), none] [.int (-1000000001 : Int32)] (put ((M)) 87 1 (((M)) 87 1 + 1)) Q
            exact V.ret dX10_move_111 rfl (hbad2 s t hs ht rfl rfl hm hal hst)
          · refine V.iload_n dX10_move_70 rfl (i := 2) rfl ?_
            refine V.if_lt (tgt := 106) dX10_move_71 (by decide) (fun c71 => ?_) (fun c71 => ?_)
            · refine V.aload_n dX10_move_106 rfl (i := 0) rfl ?_
              refine V.iconst dX10_move_107 (v := 1) (by decide) ?_
              refine V.invv (z := mX10_finds) (As := [_]) dX10_move_108 rfl mlRX10_131 okX10_finds npX10_finds rfl rfl rfl ⟨by decide, by decide⟩ (Nat.le_of_ble_eq_true rfl) rfl (Nat.le_of_ble_eq_true rfl) (c_fnd1   ?_)
              show V rS g (d + 2) mX10_move 111 [some (.ref 83), some (.int (nI s)), some (.int i), some (.int (nI t)), some (.int j), some (.int c), none] [.int (-1000000001 : Int32)] (put ((M)) 87 1 (((M)) 87 1 + 1)) Q
              exact V.ret dX10_move_111 rfl (hbad2 s t hs ht rfl rfl hm hal hst)
            · refine V.iload dX10_move_74 rfl ?_
              refine V.if_lt (tgt := 106) dX10_move_76 (by decide) (fun c76 => ?_) (fun c76 => ?_)
              · refine V.aload_n dX10_move_106 rfl (i := 0) rfl ?_
                refine V.iconst dX10_move_107 (v := 1) (by decide) ?_
                refine V.invv (z := mX10_finds) (As := [_]) dX10_move_108 rfl mlRX10_131 okX10_finds npX10_finds rfl rfl rfl ⟨by decide, by decide⟩ (Nat.le_of_ble_eq_true rfl) rfl (Nat.le_of_ble_eq_true rfl) (c_fnd1   ?_)
                show V rS g (d + 2) mX10_move 111 [some (.ref 83), some (.int (nI s)), some (.int i), some (.int (nI t)), some (.int j), some (.int c), none] [.int (-1000000001 : Int32)] (put ((M)) 87 1 (((M)) 87 1 + 1)) Q
                exact V.ret dX10_move_111 rfl (hbad2 s t hs ht rfl rfl hm hal hst)
              · refine V.iload dX10_move_79 rfl ?_
                refine V.aload_n dX10_move_81 rfl (i := 0) rfl ?_
                refine V.getR dX10_move_82 rfl flRX10_56 rfl ⟨by decide, by decide⟩ ?_
                refine V.iload_n dX10_move_85 rfl (i := 1) rfl ?_
                refine V.ialdN dX10_move_86 rfl ⟨by decide, by decide⟩ (by first | assumption | decide | omega) (by decide) ?_
                refine V.iload_n dX10_move_87 rfl (i := 2) rfl ?_
                refine V.isub dX10_move_88 ?_
                refine V.ic_gt (tgt := 106) dX10_move_89 (by decide) (fun c89 => ?_) (fun c89 => ?_)
                · refine V.aload_n dX10_move_106 rfl (i := 0) rfl ?_
                  refine V.iconst dX10_move_107 (v := 1) (by decide) ?_
                  refine V.invv (z := mX10_finds) (As := [_]) dX10_move_108 rfl mlRX10_131 okX10_finds npX10_finds rfl rfl rfl ⟨by decide, by decide⟩ (Nat.le_of_ble_eq_true rfl) rfl (Nat.le_of_ble_eq_true rfl) (c_fnd1   ?_)
                  show V rS g (d + 2) mX10_move 111 [some (.ref 83), some (.int (nI s)), some (.int i), some (.int (nI t)), some (.int j), some (.int c), none] [.int (-1000000001 : Int32)] (put ((M)) 87 1 (((M)) 87 1 + 1)) Q
                  exact V.ret dX10_move_111 rfl (hbad2 s t hs ht rfl rfl hm hal hst)
                · refine V.iload dX10_move_92 rfl ?_
                  refine V.aload_n dX10_move_94 rfl (i := 0) rfl ?_
                  refine V.getR dX10_move_95 rfl flRX10_56 rfl ⟨by decide, by decide⟩ ?_
                  refine V.iload_n dX10_move_98 rfl (i := 3) rfl ?_
                  refine V.ialdN dX10_move_99 rfl ⟨by decide, by decide⟩ (by first | assumption | decide | omega) (by decide) ?_
                  refine V.iload dX10_move_100 rfl ?_
                  refine V.isub dX10_move_102 ?_
                  refine V.ic_le (tgt := 112) dX10_move_103 (by decide) (fun c103 => ?_) (fun c103 => ?_)
                  · exact absurd ⟨⟨Int32.not_lt.mp c67, Int32.not_lt.mp c71, by rw [e1]; exact mv_le hz1 (Int32.not_lt.mp c67) (Int32.not_lt.mp c71) (e1 ▸ Int32.not_lt.mp c89), Int32.not_lt.mp c89⟩, Int32.not_lt.mp c67, Int32.not_lt.mp c76, by rw [e2]; exact mv_le hz2 (Int32.not_lt.mp c67) (Int32.not_lt.mp c76) (e2 ▸ c103), c103⟩ hst
                  · refine V.aload_n dX10_move_106 rfl (i := 0) rfl ?_
                    refine V.iconst dX10_move_107 (v := 1) (by decide) ?_
                    refine V.invv (z := mX10_finds) (As := [_]) dX10_move_108 rfl mlRX10_131 okX10_finds npX10_finds rfl rfl rfl ⟨by decide, by decide⟩ (Nat.le_of_ble_eq_true rfl) rfl (Nat.le_of_ble_eq_true rfl) (c_fnd1   ?_)
                    show V rS g (d + 2) mX10_move 111 [some (.ref 83), some (.int (nI s)), some (.int i), some (.int (nI t)), some (.int j), some (.int c), none] [.int (-1000000001 : Int32)] (put ((M)) 87 1 (((M)) 87 1 + 1)) Q
                    exact V.ret dX10_move_111 rfl (hbad2 s t hs ht rfl rfl hm hal hst)
      · skip
        refine V.iload_n dX10_move_0 rfl (i := 1) rfl ?_
        refine V.invs (z := mX10_isSheet) (As := [_]) dX10_move_1 rfl mlRX10_197 okX10_isSheet npX10_isSheet rfl (Nat.le_of_ble_eq_true rfl) rfl (Nat.le_of_ble_eq_true rfl) (c_sheetR   ?_)
        show V rS g (d + 2) mX10_move 4 [some (.ref 83), some (.int (nI s)), some (.int i), some (.int (nI t)), some (.int j), some (.int c), none] [.int (b2i (0 ≤ (nI s) ∧ (nI s) ≤ 3))] (M) Q
        refine V.if_eq (tgt := 14) dX10_move_4 (by decide) (fun q => absurd q ((fun z => b2i_0.mp z h.1))) (fun c4 => ?_)
        refine V.iload_n dX10_move_7 rfl (i := 3) rfl ?_
        refine V.invs (z := mX10_isSheet) (As := [_]) dX10_move_8 rfl mlRX10_197 okX10_isSheet npX10_isSheet rfl (Nat.le_of_ble_eq_true rfl) rfl (Nat.le_of_ble_eq_true rfl) (c_sheetR   ?_)
        show V rS g (d + 2) mX10_move 11 [some (.ref 83), some (.int (nI s)), some (.int i), some (.int (nI t)), some (.int j), some (.int c), none] [.int (b2i (0 ≤ (nI t) ∧ (nI t) ≤ 3))] ((M)) Q
        refine V.if_ne (tgt := 20) dX10_move_11 (by decide) (fun c11 => ?_) (fun q => absurd q ((fun z => b2i_0.mp z h.2)))
        refine V.aload_n dX10_move_20 rfl (i := 0) rfl ?_
        refine V.getR dX10_move_21 rfl flRX10_53 rfl ⟨by decide, by decide⟩ ?_
        refine V.iload_n dX10_move_24 rfl (i := 1) rfl ?_
        refine V.ialdN dX10_move_25 rfl ⟨by decide, by decide⟩ (by first | assumption | decide | omega) (by decide) ?_
        refine V.if_eq (tgt := 38) dX10_move_26 (by decide) (fun q => absurd q (hm1)) (fun c26 => ?_)
        refine V.aload_n dX10_move_29 rfl (i := 0) rfl ?_
        refine V.getR dX10_move_30 rfl flRX10_53 rfl ⟨by decide, by decide⟩ ?_
        refine V.iload_n dX10_move_33 rfl (i := 3) rfl ?_
        refine V.ialdN dX10_move_34 rfl ⟨by decide, by decide⟩ (by first | assumption | decide | omega) (by decide) ?_
        refine V.if_ne (tgt := 44) dX10_move_35 (by decide) (fun c35 => ?_) (fun q => absurd q (hm2))
        refine V.aload_n dX10_move_44 rfl (i := 0) rfl ?_
        refine V.getR dX10_move_45 rfl flRX10_53 rfl ⟨by decide, by decide⟩ ?_
        refine V.iload_n dX10_move_48 rfl (i := 1) rfl ?_
        refine V.ialdN dX10_move_49 rfl ⟨by decide, by decide⟩ (by first | assumption | decide | omega) (by decide) ?_
        refine V.aload_n dX10_move_50 rfl (i := 0) rfl ?_
        refine V.getR dX10_move_51 rfl flRX10_53 rfl ⟨by decide, by decide⟩ ?_
        refine V.iload_n dX10_move_54 rfl (i := 3) rfl ?_
        refine V.ialdN dX10_move_55 rfl ⟨by decide, by decide⟩ (by first | assumption | decide | omega) (by decide) ?_
        refine V.ic_eq (tgt := 65) dX10_move_56 (by decide) (fun q => absurd q (hal)) (fun c56 => ?_)
        refine V.aload_n dX10_move_59 rfl (i := 0) rfl ?_
        refine V.iconst dX10_move_60 (v := 5) (by decide) ?_
        refine V.invv (z := mX10_finds) (As := [_]) dX10_move_61 rfl mlRX10_131 okX10_finds npX10_finds rfl rfl rfl ⟨by decide, by decide⟩ (Nat.le_of_ble_eq_true rfl) rfl (Nat.le_of_ble_eq_true rfl) (c_fnd5   ?_)
        show V rS g (d + 2) mX10_move 64 [some (.ref 83), some (.int (nI s)), some (.int i), some (.int (nI t)), some (.int j), some (.int c), none] [.int (-1000000005 : Int32)] (put ((M)) 87 5 (((M)) 87 5 + 1)) Q
        exact V.ret dX10_move_64 rfl (hkind s t hs ht rfl rfl hm hal)
  · skip
    refine V.iload_n dX10_move_0 rfl (i := 1) rfl ?_
    refine V.invs (z := mX10_isSheet) (As := [_]) dX10_move_1 rfl mlRX10_197 okX10_isSheet npX10_isSheet rfl (Nat.le_of_ble_eq_true rfl) rfl (Nat.le_of_ble_eq_true rfl) (c_sheetR   ?_)
    show V rS g (d + 2) mX10_move 4 [some (.ref 83), some (.int a), some (.int i), some (.int b), some (.int j), some (.int c), none] [.int (b2i (0 ≤ a ∧ a ≤ 3))] (M) Q
    refine V.if_eq (tgt := 14) dX10_move_4 (by decide) (fun c4 => ?_) (fun c4 => ?_)
    · refine V.aload_n dX10_move_14 rfl (i := 0) rfl ?_
      refine V.iconst dX10_move_15 (v := 1) (by decide) ?_
      refine V.invv (z := mX10_finds) (As := [_]) dX10_move_16 rfl mlRX10_131 okX10_finds npX10_finds rfl rfl rfl ⟨by decide, by decide⟩ (Nat.le_of_ble_eq_true rfl) rfl (Nat.le_of_ble_eq_true rfl) (c_fnd1   ?_)
      show V rS g (d + 2) mX10_move 19 [some (.ref 83), some (.int a), some (.int i), some (.int b), some (.int j), some (.int c), none] [.int (-1000000001 : Int32)] (put (M) 87 1 ((M) 87 1 + 1)) Q
      exact V.ret dX10_move_19 rfl (hbad h)
    · refine V.iload_n dX10_move_7 rfl (i := 3) rfl ?_
      refine V.invs (z := mX10_isSheet) (As := [_]) dX10_move_8 rfl mlRX10_197 okX10_isSheet npX10_isSheet rfl (Nat.le_of_ble_eq_true rfl) rfl (Nat.le_of_ble_eq_true rfl) (c_sheetR   ?_)
      show V rS g (d + 2) mX10_move 11 [some (.ref 83), some (.int a), some (.int i), some (.int b), some (.int j), some (.int c), none] [.int (b2i (0 ≤ b ∧ b ≤ 3))] ((M)) Q
      refine V.if_ne (tgt := 20) dX10_move_11 (by decide) (fun c11 => ?_) (fun c11 => ?_)
      · exact absurd ⟨(Classical.byContradiction fun z => c4 (b2i_f z)), (Classical.byContradiction fun z => c11 (b2i_f z))⟩ h
      · refine V.aload_n dX10_move_14 rfl (i := 0) rfl ?_
        refine V.iconst dX10_move_15 (v := 1) (by decide) ?_
        refine V.invv (z := mX10_finds) (As := [_]) dX10_move_16 rfl mlRX10_131 okX10_finds npX10_finds rfl rfl rfl ⟨by decide, by decide⟩ (Nat.le_of_ble_eq_true rfl) rfl (Nat.le_of_ble_eq_true rfl) (c_fnd1   ?_)
        show V rS g (d + 2) mX10_move 19 [some (.ref 83), some (.int a), some (.int i), some (.int b), some (.int j), some (.int c), none] [.int (-1000000001 : Int32)] (put ((M)) 87 1 (((M)) 87 1 + 1)) Q
        exact V.ret dX10_move_19 rfl (hbad h)
def txM (M : Mem) (us k : Nat) : Mem := um M 84 (fun j => if 203 + 50 * us ≤ j ∧ j < 203 + 50 * us + k then M 84 (303 + (j - (203 + 50 * us))) else M 84 j)
theorem txM_0 {M : Mem} {us : Nat} : txM M us 0 = M := by
  funext c i
  unfold txM um
  by_cases h : c = 84
  · subst h; rw [if_pos rfl, if_neg (fun z => by omega)]
  · rw [if_neg h]
theorem txM_h {M : Mem} {us k j : Nat} (hu : us < 2) (hk : k ≤ 50) (h : 303 ≤ j) : txM M us k 84 j = M 84 j := by
  unfold txM
  rw [um_s, if_neg (fun z => by omega)]
theorem txM_s {M : Mem} {us k : Nat} : put (txM M us k) 84 (203 + 50 * us + k) (M 84 (303 + k)) = txM M us (k + 1) := by
  funext c i
  by_cases h : c = 84
  · subst h
    by_cases hi : i = 203 + 50 * us + k
    · subst hi; rw [put_s]; unfold txM; rw [um_s, if_pos ⟨by omega, by omega⟩, show 203 + 50 * us + k - (203 + 50 * us) = k by omega]
    · rw [put_n (fun z => hi z.2)]
      unfold txM
      rw [um_s, um_s]
      by_cases hq : 203 + 50 * us ≤ i ∧ i < 203 + 50 * us + k
      · rw [if_pos hq, if_pos ⟨hq.1, by omega⟩]
      · rw [if_neg hq, if_neg (fun z => hq ⟨z.1, by omega⟩)]
  · rw [put_cell h]; unfold txM; rw [um_n h, um_n h]

set_option maxHeartbeats 4000000 in
set_option maxRecDepth 100000 in
theorem l_txR {g : GG} {d : Nat} {M : Mem} {Q : Option Value → Mem → Prop} {us t : Nat} {v : Int32} (hu : us < 2) (h50 : t ≤ 50) (hQ : Q (some (.int 1)) (txM M us t)) : ∀ (r k : Nat), k + r = t → V rS g (d + 2) mX10_text 71 [some (.ref 83), some (.int (nI us)), some (.int (nI t)), some (.int v), some (.int (nI k))] [] (txM M us k) Q := by
  intro r
  induction r with
  | zero =>
    intro k hk
    obtain rfl : k = t := by omega
    refine V.iload dX10_text_71 rfl ?_
    refine V.iload_n dX10_text_73 rfl (i := 2) rfl ?_
    refine V.ic_ge (tgt := 110) dX10_text_74 (by decide) (fun c74 => ?_) (fun q => absurd ((Int32.le_refl _)) q)
    refine V.iconst dX10_text_110 (v := 1) (by decide) ?_
    exact V.ret dX10_text_111 rfl (hQ)
  | succ r ih =>
    intro k hk
    refine V.iload dX10_text_71 rfl ?_
    refine V.iload_n dX10_text_73 rfl (i := 2) rfl ?_
    refine V.ic_ge (tgt := 110) dX10_text_74 (by decide) (fun q => absurd q ((nI_ge (a := k) (b := t) (by omega) (by omega)))) (fun c74 => ?_)
    refine V.aload_n dX10_text_77 rfl (i := 0) rfl ?_
    refine V.getR dX10_text_78 rfl flRX10_7 rfl ⟨by decide, by decide⟩ ?_
    refine V.sipush dX10_text_81 (v := 203) (by decide) ?_
    refine V.bipush dX10_text_84 (v := 50) (by decide) ?_
    refine V.iload_n dX10_text_86 rfl (i := 1) rfl ?_
    refine V.imul dX10_text_87 ?_
    refine V.top (x' := (nI (50 * us))) (pk_mul 50 us) ?_
    refine V.iadd dX10_text_88 ?_
    refine V.top (x' := (nI (203 + (50 * us)))) (nI_add 203 (50 * us)) ?_
    refine V.iload dX10_text_89 rfl ?_
    refine V.iadd dX10_text_91 ?_
    refine V.top (x' := (nI ((203 + (50 * us)) + k))) (nI_add (203 + (50 * us)) k) ?_
    refine V.aload_n dX10_text_92 rfl (i := 0) rfl ?_
    refine V.getR dX10_text_93 rfl flRX10_7 rfl ⟨by decide, by decide⟩ ?_
    refine V.sipush dX10_text_96 (v := 303) (by decide) ?_
    refine V.iload dX10_text_99 rfl ?_
    refine V.iadd dX10_text_101 ?_
    refine V.top (x' := (nI (303 + k))) (nI_add 303 k) ?_
    refine V.ialdN dX10_text_102 rfl ⟨by decide, by decide⟩ (by first | assumption | decide | omega) (by decide) ?_
    refine V.top (x' := (M 84 (303 + k))) ((txM_h hu (by omega) (by omega))) ?_
    refine V.iastN dX10_text_103 rfl ⟨by decide, by decide⟩ (by first | assumption | decide | omega) (by decide) ?_
    refine V.mem txM_s ?_
    refine V.iinc dX10_text_104 rfl (v := (nI (k + 1))) (nI_1 _) (by decide) (fun _ h => by cases h; exact Or.inl rfl) rfl ?_
    refine V.goto dX10_text_107 (tgt := 71) (by decide) ?_
    exact ih (k + 1) (by omega)
set_option maxHeartbeats 4000000 in
set_option maxRecDepth 100000 in
theorem c10_text {g : GG} {d : Nat} {M : Mem} {Q : Option Value → Mem → Prop} {a : Int32} {t : Nat} (ht : M 84 106 = nI t) (h50 : t ≤ 50) (hbad : ¬ (0 ≤ a ∧ a ≤ 1) → Q (some (.int (-1000000001))) (put M 87 1 (M 87 1 + 1))) (hno : ∀ us, us < 2 → a = nI us → ∀ M' k1 o1 b, rdT (nx (fun i => M 84 (303 + i)) t) us = (b, k1, o1) → ¬ (b = true ∧ k1 = t) → KpR (put M 84 106 0) M' → Q (some (.int (-10 - nI k1))) M') (hok : ∀ us, us < 2 → a = nI us → ∀ M' o1, rdT (nx (fun i => M 84 (303 + i)) t) us = (true, t, o1) → KpR (put M 84 106 0) M' → Q (some (.int 1)) (txM (put M' 84 (181 + us) (nI t)) us t)) : V rS g (d + 61) mX10_text 0 [some (.ref 83), some (.int a), none, none, none] [] M Q := by
  by_cases h : (0 ≤ a ∧ a ≤ 1)
  · obtain ⟨us, hu, rfl⟩ := nI_ex (n := 2) (by omega) h.1 (Int32.lt_of_le_of_lt h.2 (by decide))
    have e303 : (fun i => put M 84 106 0 84 (303 + i)) = (fun i => M 84 (303 + i)) := funext fun i => by rw [put_n (fun z => by omega)]
    have hcont : ∀ (M' : Mem) (v : Int32) (b : Bool) (k1 : Nat) (o1 : List Int32), rdT (nx (fun i => M 84 (303 + i)) t) us = (b, k1, o1) → KpR (put M 84 106 0) M' → (b = true ∧ k1 = t → M' 83 8 = -1) → (¬ (b = true ∧ k1 = t) → M' 83 8 = nI k1) → V rS g (d + 61) mX10_text 42 [some (.ref 83), some (.int (nI us)), some (.int (nI t)), some (.int v), none] [] M' Q := by
      intro M' v b k1 o1 hr hK h1 h2
      by_cases hb : b = true ∧ k1 = t
      · obtain ⟨rfl, rfl⟩ := hb
        have h8 := h1 ⟨rfl, rfl⟩
        refine V.aload_n dX10_text_42 rfl (i := 0) rfl ?_
        refine V.getI dX10_text_43 rfl flRX10_79 rfl ⟨by decide, by decide⟩ ?_
        refine V.top (x' := (-1 : Int32)) (h8) ?_
        refine V.if_lt (tgt := 57) dX10_text_46 (by decide) (fun c46 => ?_) (fun q => absurd ((by decide)) q)
        refine V.aload_n dX10_text_57 rfl (i := 0) rfl ?_
        refine V.getR dX10_text_58 rfl flRX10_7 rfl ⟨by decide, by decide⟩ ?_
        refine V.sipush dX10_text_61 (v := 181) (by decide) ?_
        refine V.iload_n dX10_text_64 rfl (i := 1) rfl ?_
        refine V.iadd dX10_text_65 ?_
        refine V.top (x' := (nI (181 + us))) (nI_add 181 us) ?_
        refine V.iload_n dX10_text_66 rfl (i := 2) rfl ?_
        refine V.iastN dX10_text_67 rfl ⟨by decide, by decide⟩ (by first | assumption | decide | omega) (by decide) ?_
        refine V.iconst dX10_text_68 (v := 0) (by decide) ?_
        refine V.istore dX10_text_69 (i := 4) (by decide) (fun _ h => by cases h; exact Or.inl rfl) rfl ?_
        exact V.mem txM_0.symm (l_txR (d := d + 59) hu h50 (hok us hu rfl M' o1 hr hK) k1 0 (by omega))
      · have h8 := h2 hb
        have hk1 : k1 ≤ t := (rdT_len hr).1
        refine V.aload_n dX10_text_42 rfl (i := 0) rfl ?_
        refine V.getI dX10_text_43 rfl flRX10_79 rfl ⟨by decide, by decide⟩ ?_
        refine V.top (x' := (nI k1)) (h8) ?_
        refine V.if_lt (tgt := 57) dX10_text_46 (by decide) (fun q => absurd q ((Int32.not_lt.mpr (nI_pos' (by omega))))) (fun c46 => ?_)
        refine V.bipush dX10_text_49 (v := (-10)) (by decide) ?_
        refine V.aload_n dX10_text_51 rfl (i := 0) rfl ?_
        refine V.getI dX10_text_52 rfl flRX10_79 rfl ⟨by decide, by decide⟩ ?_
        refine V.top (x' := (nI k1)) (h8) ?_
        refine V.isub dX10_text_55 ?_
        exact V.ret dX10_text_56 rfl (hno us hu rfl M' k1 o1 b hr hb hK)
    refine V.iload_n dX10_text_0 rfl (i := 1) rfl ?_
    refine V.i2l dX10_text_1 ?_
    refine V.lconst dX10_text_2 (v := 0) (by decide) ?_
    refine V.lconst dX10_text_3 (v := 1) (by decide) ?_
    refine V.invs (z := mX10_in) (As := [_, _, _]) dX10_text_4 rfl mlRX10_66 okX10_in npX10_in rfl (Nat.le_of_ble_eq_true rfl) rfl (Nat.le_of_ble_eq_true rfl) (c_in32 (v := (nI us)) (lo := (0 : Int32)) (hi := (1 : Int32)) (by first | rfl | decide) (by first | rfl | decide)   ?_)
    show V rS g (d + 61) mX10_text 7 [some (.ref 83), some (.int (nI us)), none, none, none] [.int (b2i ((0 : Int32) ≤ (nI us) ∧ (nI us) ≤ (1 : Int32)))] M Q
    refine V.if_ne (tgt := 16) dX10_text_7 (by decide) (fun c7 => ?_) (fun q => absurd q ((fun z => b2i_0.mp z h)))
    refine V.aload_n dX10_text_16 rfl (i := 0) rfl ?_
    refine V.getR dX10_text_17 rfl flRX10_7 rfl ⟨by decide, by decide⟩ ?_
    refine V.bipush dX10_text_20 (v := 106) (by decide) ?_
    refine V.top (x' := nI 106) (by decide) ?_
    refine V.ialdN dX10_text_22 rfl ⟨by decide, by decide⟩ (by first | assumption | decide | omega) (by decide) ?_
    refine V.top (x' := (nI t)) (ht) ?_
    refine V.istore_n dX10_text_23 rfl (i := 2) (by decide) (fun _ h => by cases h; exact Or.inl rfl) rfl ?_
    refine V.aload_n dX10_text_24 rfl (i := 0) rfl ?_
    refine V.getR dX10_text_25 rfl flRX10_7 rfl ⟨by decide, by decide⟩ ?_
    refine V.bipush dX10_text_28 (v := 106) (by decide) ?_
    refine V.iconst dX10_text_30 (v := 0) (by decide) ?_
    refine V.top1 (x' := nI 106) (by decide) ?_
    refine V.iastN dX10_text_31 rfl ⟨by decide, by decide⟩ (by first | assumption | decide | omega) (by decide) ?_
    refine V.aload_n dX10_text_32 rfl (i := 0) rfl ?_
    refine V.sipush dX10_text_33 (v := 303) (by decide) ?_
    refine V.iload_n dX10_text_36 rfl (i := 2) rfl ?_
    refine V.iload_n dX10_text_37 rfl (i := 1) rfl ?_
    refine V.invv (z := mX10_worked) (As := [_, _, _]) dX10_text_38 rfl mlRX10_136 okX10_worked npX10_worked rfl rfl rfl ⟨by decide, by decide⟩ (Nat.le_of_ble_eq_true rfl) rfl (Nat.le_of_ble_eq_true rfl) (c_worked (base := 303) hu h50 (by omega) (fun M1 v b k1 o1 hr hK _ h1 h2 => ?_))
    show V rS g (d + 61) mX10_text 41 [some (.ref 83), some (.int (nI us)), some (.int (nI t)), none, none] [.int v] M1 Q
    refine V.istore_n dX10_text_41 rfl (i := 3) (by decide) (fun _ h => by cases h; exact Or.inl rfl) rfl ?_
    exact hcont M1 v b k1 o1 (e303 ▸ hr) hK (fun z => (h1 z).1) h2
  · skip
    refine V.iload_n dX10_text_0 rfl (i := 1) rfl ?_
    refine V.i2l dX10_text_1 ?_
    refine V.lconst dX10_text_2 (v := 0) (by decide) ?_
    refine V.lconst dX10_text_3 (v := 1) (by decide) ?_
    refine V.invs (z := mX10_in) (As := [_, _, _]) dX10_text_4 rfl mlRX10_66 okX10_in npX10_in rfl (Nat.le_of_ble_eq_true rfl) rfl (Nat.le_of_ble_eq_true rfl) (c_in32 (v := a) (lo := (0 : Int32)) (hi := (1 : Int32)) (by first | rfl | decide) (by first | rfl | decide)   ?_)
    show V rS g (d + 61) mX10_text 7 [some (.ref 83), some (.int a), none, none, none] [.int (b2i ((0 : Int32) ≤ a ∧ a ≤ (1 : Int32)))] M Q
    refine V.if_ne (tgt := 16) dX10_text_7 (by decide) (fun c7 => ?_) (fun c7 => ?_)
    · exact absurd (Classical.byContradiction fun z => c7 (b2i_f z)) h
    · refine V.aload_n dX10_text_10 rfl (i := 0) rfl ?_
      refine V.iconst dX10_text_11 (v := 1) (by decide) ?_
      refine V.invv (z := mX10_finds) (As := [_]) dX10_text_12 rfl mlRX10_131 okX10_finds npX10_finds rfl rfl rfl ⟨by decide, by decide⟩ (Nat.le_of_ble_eq_true rfl) rfl (Nat.le_of_ble_eq_true rfl) (c_fnd1   ?_)
      show V rS g (d + 61) mX10_text 15 [some (.ref 83), some (.int a), none, none, none] [.int (-1000000001 : Int32)] (put M 87 1 (M 87 1 + 1)) Q
      exact V.ret dX10_text_15 rfl (hbad h)
def wkM (M : Mem) : Nat → Mem
  | 0 => M
  | k + 1 => put (wkM M k) 84 (108 + 7 * k + 4) (M 84 (183 + k))
theorem wkM_o {M : Mem} {c : Nat} (h : c ≠ 84) : ∀ k, wkM M k c = M c
  | 0 => rfl
  | k + 1 => by rw [wkM, put_cell h]; exact wkM_o h k
theorem wkM_n {M : Mem} {j : Nat} : ∀ k, k ≤ 8 → (j < 108 ∨ 164 ≤ j) → wkM M k 84 j = M 84 j
  | 0, _, _ => rfl
  | k + 1, hk, hj => by rw [wkM, put_n (fun z => by omega)]; exact wkM_n k (by omega) hj
theorem wkM_b {M : Mem} {b : Nat} : ∀ k, b < k → wkM M k 84 (108 + 7 * b + 4) = M 84 (183 + b)
  | 0, h => absurd h (Nat.not_lt_zero _)
  | k + 1, h => by
    rw [wkM]
    by_cases hb : b = k
    · subst hb; rw [put_s]
    · rw [put_n (fun z => by omega)]; exact wkM_b k (by omega)
theorem cB_anN {p : Nat → Bool} : ∀ n, 0 < cB p n ↔ anB p n = true := by
  intro n
  induction n with
  | zero => exact ⟨fun h => absurd h (Nat.lt_irrefl _), fun h => absurd h Bool.false_ne_true⟩
  | succ n ih =>
    rw [cB, anB, Bool.or_eq_true, ← ih]
    by_cases h : p n = true
    · rw [if_pos h]; exact ⟨fun _ => Or.inr h, fun _ => by omega⟩
    · rw [if_neg h]; exact ⟨fun z => Or.inl (by omega), fun z => z.elim (fun y => by omega) (fun y => absurd y h)⟩

set_option maxHeartbeats 4000000 in
set_option maxRecDepth 100000 in
theorem l_caR {g : GG} {d : Nat} {M : Mem} {Q : Option Value → Mem → Prop} {hp : Nat → Nat → Bool} {wy : Nat → Nat → Int32} {n ne : Nat} (hH : HdR M hp wy n ne) (h8 : n ≤ 8) (hne : M 84 104 = nI ne) (h10 : ne ≤ 10) {i : Nat} (hi : i < n) (hQ : Q (some (.int (b2i (anB (fun a => anB (clP hp wy (M 84 101) a (M 84 (183 + a)) i (M 84 (183 + i))) ne) i = true)))) (wkM M (i + 1))) : ∀ (k a : Nat), a + k = i → anB (fun a => anB (clP hp wy (M 84 101) a (M 84 (183 + a)) i (M 84 (183 + i))) ne) a = false → V rS g (d + 3) mX10_clashesAhead 2 [some (.ref 83), some (.int (nI i)), some (.int (nI a))] [] (wkM M (i + 1)) Q := by
  have hd : ∀ x, x < n → HdX (wkM M (i + 1)) hp wy ne x := fun x hx e he => by rw [wkM_o (by decide), wkM_o (by decide)]; exact hH x e hx he
  intro k
  induction k with
  | zero =>
    intro a hk hf
    obtain rfl : a = i := by omega
    refine V.iload_n dX10_clashesAhead_2 rfl (i := 2) rfl ?_
    refine V.iload_n dX10_clashesAhead_3 rfl (i := 1) rfl ?_
    refine V.ic_ge (tgt := 25) dX10_clashesAhead_4 (by decide) (fun c4 => ?_) (fun q => absurd ((Int32.le_refl _)) q)
    refine V.iconst dX10_clashesAhead_25 (v := 0) (by decide) ?_
    exact V.zret dX10_clashesAhead_26 rfl (by first | exact Or.inl rfl | exact Or.inr rfl | assumption | exact b2i_zo _ | (repeat' split) <;> first | exact Or.inl rfl | exact Or.inr rfl | assumption | exact b2i_zo _) (Qi hQ (by rw [hf]; rfl))
  | succ k ih =>
    intro a hk hf
    have e1 : nI (cB (clP hp wy ((wkM M (i + 1)) 84 101) a ((wkM M (i + 1)) 84 (108 + 7 * a + 4) + 0) i ((wkM M (i + 1)) 84 (108 + 7 * i + 4))) ne) = nI (cB (clP hp wy (M 84 101) a (M 84 (183 + a)) i (M 84 (183 + i))) ne) := by
      rw [wkM_n _ (by omega) (by omega), wkM_b _ (by omega), wkM_b _ (by omega), Int32.add_zero]
    have hle : (cB (clP hp wy (M 84 101) a (M 84 (183 + a)) i (M 84 (183 + i))) ne) ≤ 10 := Nat.le_trans (cB_le _ _) h10
    by_cases hc : anB (clP hp wy (M 84 101) a (M 84 (183 + a)) i (M 84 (183 + i))) ne = true
    · have hcb := (cB_anN ne).mpr hc
      refine V.iload_n dX10_clashesAhead_2 rfl (i := 2) rfl ?_
      refine V.iload_n dX10_clashesAhead_3 rfl (i := 1) rfl ?_
      refine V.ic_ge (tgt := 25) dX10_clashesAhead_4 (by decide) (fun q => absurd q ((nI_ge (a := a) (b := i) (by omega) (by omega)))) (fun c4 => ?_)
      refine V.aload_n dX10_clashesAhead_7 rfl (i := 0) rfl ?_
      refine V.iload_n dX10_clashesAhead_8 rfl (i := 2) rfl ?_
      refine V.iload_n dX10_clashesAhead_9 rfl (i := 1) rfl ?_
      refine V.iconst dX10_clashesAhead_10 (v := 0) (by decide) ?_
      refine V.invv (z := mX10_clashesOf) (As := [_, _, _]) dX10_clashesAhead_11 rfl mlRX10_235 okX10_clashesOf npX10_clashesOf rfl rfl rfl ⟨by decide, by decide⟩ (Nat.le_of_ble_eq_true rfl) rfl (Nat.le_of_ble_eq_true rfl) (c_clsOf (hd a (by omega)) (hd i (by omega)) (by omega) (by omega) h10 (by rw [wkM_n _ (by omega) (by omega)]; exact hne) ?_)
      show V rS g (d + 3) mX10_clashesAhead 14 [some (.ref 83), some (.int (nI i)), some (.int (nI a))] [.int (nI (cB (clP hp wy ((wkM M (i + 1)) 84 101) a ((wkM M (i + 1)) 84 (108 + 7 * a + 4) + 0) i ((wkM M (i + 1)) 84 (108 + 7 * i + 4))) ne))] (wkM M (i + 1)) Q
      refine V.top (x' := (nI (cB (clP hp wy (M 84 101) a (M 84 (183 + a)) i (M 84 (183 + i))) ne))) (e1) ?_
      refine V.if_le (tgt := 19) dX10_clashesAhead_14 (by decide) (fun q => absurd q ((nI_ge (a := 0) (by exact hcb) (by omega)))) (fun c14 => ?_)
      refine V.iconst dX10_clashesAhead_17 (v := 1) (by decide) ?_
      exact V.zret dX10_clashesAhead_18 rfl (by first | exact Or.inl rfl | exact Or.inr rfl | assumption | exact b2i_zo _ | (repeat' split) <;> first | exact Or.inl rfl | exact Or.inr rfl | assumption | exact b2i_zo _) (Qi hQ (by rw [b2i_t (anB_iff.mpr ⟨a, by omega, hc⟩)]))
    · have hcb : (cB (clP hp wy (M 84 101) a (M 84 (183 + a)) i (M 84 (183 + i))) ne) = 0 := by have := mt (cB_anN ne).mp hc; omega
      refine V.iload_n dX10_clashesAhead_2 rfl (i := 2) rfl ?_
      refine V.iload_n dX10_clashesAhead_3 rfl (i := 1) rfl ?_
      refine V.ic_ge (tgt := 25) dX10_clashesAhead_4 (by decide) (fun q => absurd q ((nI_ge (a := a) (b := i) (by omega) (by omega)))) (fun c4 => ?_)
      refine V.aload_n dX10_clashesAhead_7 rfl (i := 0) rfl ?_
      refine V.iload_n dX10_clashesAhead_8 rfl (i := 2) rfl ?_
      refine V.iload_n dX10_clashesAhead_9 rfl (i := 1) rfl ?_
      refine V.iconst dX10_clashesAhead_10 (v := 0) (by decide) ?_
      refine V.invv (z := mX10_clashesOf) (As := [_, _, _]) dX10_clashesAhead_11 rfl mlRX10_235 okX10_clashesOf npX10_clashesOf rfl rfl rfl ⟨by decide, by decide⟩ (Nat.le_of_ble_eq_true rfl) rfl (Nat.le_of_ble_eq_true rfl) (c_clsOf (hd a (by omega)) (hd i (by omega)) (by omega) (by omega) h10 (by rw [wkM_n _ (by omega) (by omega)]; exact hne) ?_)
      show V rS g (d + 3) mX10_clashesAhead 14 [some (.ref 83), some (.int (nI i)), some (.int (nI a))] [.int (nI (cB (clP hp wy ((wkM M (i + 1)) 84 101) a ((wkM M (i + 1)) 84 (108 + 7 * a + 4) + 0) i ((wkM M (i + 1)) 84 (108 + 7 * i + 4))) ne))] (wkM M (i + 1)) Q
      refine V.top (x' := (nI (cB (clP hp wy (M 84 101) a (M 84 (183 + a)) i (M 84 (183 + i))) ne))) (e1) ?_
      refine V.if_le (tgt := 19) dX10_clashesAhead_14 (by decide) (fun c14 => ?_) (fun q => absurd ((by rw [hcb]; decide)) q)
      refine V.iinc dX10_clashesAhead_19 rfl (v := (nI (a + 1))) (nI_1 _) (by decide) (fun _ h => by cases h; exact Or.inl rfl) rfl ?_
      refine V.goto dX10_clashesAhead_22 (tgt := 2) (by decide) ?_
      exact ih (a + 1) (by omega) (by rw [anB, hf, Bool.false_or]; exact Bool.eq_false_iff.mpr hc)
set_option maxHeartbeats 4000000 in
set_option maxRecDepth 100000 in
theorem c_caR {g : GG} {d : Nat} {M : Mem} {Q : Option Value → Mem → Prop} {hp : Nat → Nat → Bool} {wy : Nat → Nat → Int32} {n ne : Nat} (hH : HdR M hp wy n ne) (h8 : n ≤ 8) (hne : M 84 104 = nI ne) (h10 : ne ≤ 10) {i : Nat} (hi : i < n) (hQ : Q (some (.int (b2i (anB (fun a => anB (clP hp wy (M 84 101) a (M 84 (183 + a)) i (M 84 (183 + i))) ne) i = true)))) (wkM M (i + 1))) : V rS g (d + 3) mX10_clashesAhead 0 [some (.ref 83), some (.int (nI i)), none] [] (wkM M (i + 1)) Q := by
  refine V.iconst dX10_clashesAhead_0 (v := 0) (by decide) ?_
  refine V.istore_n dX10_clashesAhead_1 rfl (i := 2) (by decide) (fun _ h => by cases h; exact Or.inl rfl) rfl ?_
  exact l_caR hH h8 hne h10 hi hQ i 0 (by omega) rfl
set_option maxHeartbeats 4000000 in
set_option maxRecDepth 100000 in
theorem l_wrR {g : GG} {d : Nat} {M : Mem} {Q : Option Value → Mem → Prop} {hp : Nat → Nat → Bool} {wy : Nat → Nat → Int32} {n ne : Nat} (hH : HdR M hp wy n ne) (h8 : n ≤ 8) (hne : M 84 104 = nI ne) (h10 : ne ≤ 10) (hn : M 84 103 = nI n) {w : Nat} (hw : w ≤ 20) (hQ : ∀ M', ((∀ c, c ≠ 84 → M' c = M c) ∧ ∀ i, 360 ≤ i → M' 84 i = M 84 i) → Q (some (.int (if (fst (fun i => decide (w ≤ i) || (decide (n ≤ i) || ctP (fun j => M 84 (183 + j)) hp wy (M 84 101) ne i)) (max w n)) < max w n then nI (1 + (fst (fun i => decide (w ≤ i) || (decide (n ≤ i) || ctP (fun j => M 84 (183 + j)) hp wy (M 84 101) ne i)) (max w n))) else 0))) M') : ∀ (k i : Nat), i + k = w → (∀ j, j < i → (fun i => decide (w ≤ i) || (decide (n ≤ i) || ctP (fun j => M 84 (183 + j)) hp wy (M 84 101) ne i)) j = false) → V rS g (d + 4) mX10_wrong_ 2 [some (.ref 83), some (.int (nI w)), some (.int (nI i))] [] (wkM M i) Q := by
  have hall : ∀ {i : Nat}, i ≤ w → (∀ j, j < i → (fun i => decide (w ≤ i) || (decide (n ≤ i) || ctP (fun j => M 84 (183 + j)) hp wy (M 84 101) ne i)) j = false) → i ≤ n := fun {i} h1 hj => Classical.byContradiction fun z => by
    have : (decide (w ≤ n) || (decide (n ≤ n) || ctP (fun j => M 84 (183 + j)) hp wy (M 84 101) ne n)) = false := hj n (by omega)
    rw [decide_eq_true (Nat.le_refl n), Bool.true_or, Bool.or_true] at this
    cases this
  intro k
  induction k with
  | zero =>
    intro i hk hj
    obtain rfl : i = w := by omega
    have hin := hall (Nat.le_refl i) hj
    have hn2 : wkM M i 84 103 = nI n := by rw [wkM_n _ (by omega) (by omega)]; exact hn
    have hq := hQ (wkM M i) ⟨fun c hc => wkM_o hc i, fun j hj => wkM_n i (by omega) (by omega)⟩
    by_cases hc : i < n
    · have hf : fst (fun i_1 => decide (i ≤ i_1) || (decide (n ≤ i_1) || ctP (fun j => M 84 (183 + j)) hp wy (M 84 101) ne i_1)) (max i n) = i := fst_is (by omega) (by show (_ || _) = true; rw [decide_eq_true (Nat.le_refl i)]; rfl) hj
      rw [hf, if_pos (by omega)] at hq
      refine V.iload_n dX10_wrong__2 rfl (i := 2) rfl ?_
      refine V.iload_n dX10_wrong__3 rfl (i := 1) rfl ?_
      refine V.ic_ge (tgt := 79) dX10_wrong__4 (by decide) (fun c4 => ?_) (fun q => absurd ((Int32.le_refl _)) q)
      refine V.iload_n dX10_wrong__79 rfl (i := 1) rfl ?_
      refine V.aload_n dX10_wrong__80 rfl (i := 0) rfl ?_
      refine V.getR dX10_wrong__81 rfl flRX10_7 rfl ⟨by decide, by decide⟩ ?_
      refine V.bipush dX10_wrong__84 (v := 103) (by decide) ?_
      refine V.top (x' := nI 103) (by decide) ?_
      refine V.ialdN dX10_wrong__86 rfl ⟨by decide, by decide⟩ (by first | assumption | decide | omega) (by decide) ?_
      refine V.top (x' := (nI n)) (hn2) ?_
      suffices kJ87 : V rS g (d + 4) mX10_wrong_ 97 [some (.ref 83), some (.int (nI i)), some (.int (nI i))] [.int (if (nI n) ≤ (nI i) then (0 : Int32) else (nI (1 + i)))] (wkM M i) Q by
        refine V.ic_ge (tgt := 96) dX10_wrong__87 (by decide) (fun q => absurd q ((nI_ge (a := i) (b := n) (by omega) (by omega)))) (fun c87 => ?_)
        refine V.iconst dX10_wrong__90 (v := 1) (by decide) ?_
        refine V.iload_n dX10_wrong__91 rfl (i := 1) rfl ?_
        refine V.iadd dX10_wrong__92 ?_
        refine V.top (x' := (nI (1 + i))) (nI_add 1 i) ?_
        refine V.goto dX10_wrong__93 (tgt := 97) (by decide) ?_
        rw [if_neg c87] at kJ87; exact kJ87
      exact V.ret dX10_wrong__97 rfl (Qi hq (if_neg (nI_ge (a := i) (b := n) (by omega) (by omega))))
    · have hni : n = i := by omega
      subst hni
      have hf : fst (fun i_1 => decide (n ≤ i_1) || (decide (n ≤ i_1) || ctP (fun j => M 84 (183 + j)) hp wy (M 84 101) ne i_1)) (max n n) = n := by rw [Nat.max_self]; exact fst_all hj
      rw [hf, if_neg (by omega)] at hq
      refine V.iload_n dX10_wrong__2 rfl (i := 2) rfl ?_
      refine V.iload_n dX10_wrong__3 rfl (i := 1) rfl ?_
      refine V.ic_ge (tgt := 79) dX10_wrong__4 (by decide) (fun c4 => ?_) (fun q => absurd ((Int32.le_refl _)) q)
      refine V.iload_n dX10_wrong__79 rfl (i := 1) rfl ?_
      refine V.aload_n dX10_wrong__80 rfl (i := 0) rfl ?_
      refine V.getR dX10_wrong__81 rfl flRX10_7 rfl ⟨by decide, by decide⟩ ?_
      refine V.bipush dX10_wrong__84 (v := 103) (by decide) ?_
      refine V.top (x' := nI 103) (by decide) ?_
      refine V.ialdN dX10_wrong__86 rfl ⟨by decide, by decide⟩ (by first | assumption | decide | omega) (by decide) ?_
      refine V.top (x' := (nI n)) (hn2) ?_
      suffices kJ87 : V rS g (d + 4) mX10_wrong_ 97 [some (.ref 83), some (.int (nI n)), some (.int (nI n))] [.int (if (nI n) ≤ (nI n) then (0 : Int32) else (nI (1 + n)))] (wkM M n) Q by
        refine V.ic_ge (tgt := 96) dX10_wrong__87 (by decide) (fun c87 => ?_) (fun q => absurd ((Int32.le_refl _)) q)
        refine V.iconst dX10_wrong__96 (v := 0) (by decide) ?_
        rw [if_pos c87] at kJ87; exact kJ87
      exact V.ret dX10_wrong__97 rfl (Qi hq (if_pos (Int32.le_refl _)))
  | succ k ih =>
    intro i hk hj
    have hin := hall (show i ≤ w by omega) hj
    have hn2 : wkM M i 84 103 = nI n := by rw [wkM_n _ (by omega) (by omega)]; exact hn
    have hwt : wkM M i 84 (183 + i) = M 84 (183 + i) := wkM_n _ (by omega) (by omega)
    by_cases hc : (fun i => decide (w ≤ i) || (decide (n ≤ i) || ctP (fun j => M 84 (183 + j)) hp wy (M 84 101) ne i)) i = true
    · have hf : (fst (fun i => decide (w ≤ i) || (decide (n ≤ i) || ctP (fun j => M 84 (183 + j)) hp wy (M 84 101) ne i)) (max w n)) = i := fst_is (by omega) hc hj
      rw [hf, if_pos (by omega)] at hQ
      by_cases hni : i = n
      · subst hni
        refine V.iload_n dX10_wrong__2 rfl (i := 2) rfl ?_
        refine V.iload_n dX10_wrong__3 rfl (i := 1) rfl ?_
        refine V.ic_ge (tgt := 79) dX10_wrong__4 (by decide) (fun q => absurd q ((nI_ge (a := i) (b := w) (by omega) (by omega)))) (fun c4 => ?_)
        refine V.iload_n dX10_wrong__7 rfl (i := 2) rfl ?_
        refine V.aload_n dX10_wrong__8 rfl (i := 0) rfl ?_
        refine V.getR dX10_wrong__9 rfl flRX10_7 rfl ⟨by decide, by decide⟩ ?_
        refine V.bipush dX10_wrong__12 (v := 103) (by decide) ?_
        refine V.top (x' := nI 103) (by decide) ?_
        refine V.ialdN dX10_wrong__14 rfl ⟨by decide, by decide⟩ (by first | assumption | decide | omega) (by decide) ?_
        refine V.top (x' := (nI i)) (hn2) ?_
        refine V.ic_eq (tgt := 41) dX10_wrong__15 (by decide) (fun c15 => ?_) (fun q => absurd (rfl) q)
        refine V.iconst dX10_wrong__41 (v := 1) (by decide) ?_
        refine V.iload_n dX10_wrong__42 rfl (i := 2) rfl ?_
        refine V.iadd dX10_wrong__43 ?_
        refine V.top (x' := (nI (1 + i))) (nI_add 1 i) ?_
        exact V.ret dX10_wrong__44 rfl (hQ _ ⟨fun c hc => wkM_o hc i, fun j hj => wkM_n i (by omega) (by omega)⟩)
      · have hct : ctP (fun j => M 84 (183 + j)) hp wy (M 84 101) ne i = true := by
          have hc2 : (decide (w ≤ i) || (decide (n ≤ i) || ctP (fun j => M 84 (183 + j)) hp wy (M 84 101) ne i)) = true := hc
          rw [decide_eq_false (show ¬ w ≤ i by omega), decide_eq_false (show ¬ n ≤ i by omega), Bool.false_or, Bool.false_or] at hc2
          exact hc2
        by_cases hr : -900 ≤ M 84 (183 + i) ∧ M 84 (183 + i) ≤ 900
        · have ha : anB (fun a => anB (clP hp wy (M 84 101) a (M 84 (183 + a)) i (M 84 (183 + i))) ne) i = true := by
            unfold ctP at hct
            rw [decide_eq_true hr.1, decide_eq_true hr.2] at hct
            exact hct
          refine V.iload_n dX10_wrong__2 rfl (i := 2) rfl ?_
          refine V.iload_n dX10_wrong__3 rfl (i := 1) rfl ?_
          refine V.ic_ge (tgt := 79) dX10_wrong__4 (by decide) (fun q => absurd q ((nI_ge (a := i) (b := w) (by omega) (by omega)))) (fun c4 => ?_)
          refine V.iload_n dX10_wrong__7 rfl (i := 2) rfl ?_
          refine V.aload_n dX10_wrong__8 rfl (i := 0) rfl ?_
          refine V.getR dX10_wrong__9 rfl flRX10_7 rfl ⟨by decide, by decide⟩ ?_
          refine V.bipush dX10_wrong__12 (v := 103) (by decide) ?_
          refine V.top (x' := nI 103) (by decide) ?_
          refine V.ialdN dX10_wrong__14 rfl ⟨by decide, by decide⟩ (by first | assumption | decide | omega) (by decide) ?_
          refine V.top (x' := (nI n)) (hn2) ?_
          refine V.ic_eq (tgt := 41) dX10_wrong__15 (by decide) (fun q => absurd q ((fun z => absurd ((nI_eq (by omega) (by omega)).mp z) hni))) (fun c15 => ?_)
          refine V.aload_n dX10_wrong__18 rfl (i := 0) rfl ?_
          refine V.getR dX10_wrong__19 rfl flRX10_7 rfl ⟨by decide, by decide⟩ ?_
          refine V.sipush dX10_wrong__22 (v := 183) (by decide) ?_
          refine V.iload_n dX10_wrong__25 rfl (i := 2) rfl ?_
          refine V.iadd dX10_wrong__26 ?_
          refine V.top (x' := (nI (183 + i))) (nI_add 183 i) ?_
          refine V.ialdN dX10_wrong__27 rfl ⟨by decide, by decide⟩ (by first | assumption | decide | omega) (by decide) ?_
          refine V.top (x' := (M 84 (183 + i))) (hwt) ?_
          refine V.i2l dX10_wrong__28 ?_
          refine V.ldc2 dX10_wrong__29 rfl clRX10_179 ?_
          refine V.ldc2 dX10_wrong__32 rfl clRX10_181 ?_
          refine V.invs (z := mX10_in) (As := [_, _, _]) dX10_wrong__35 rfl mlRX10_66 okX10_in npX10_in rfl (Nat.le_of_ble_eq_true rfl) rfl (Nat.le_of_ble_eq_true rfl) (c_in32 (v := M 84 (183 + i)) (lo := -900) (hi := 900) rfl rfl ?_)
          show V rS g (d + 4) mX10_wrong_ 38 [some (.ref 83), some (.int (nI w)), some (.int (nI i))] [.int (b2i (-900 ≤ M 84 (183 + i) ∧ M 84 (183 + i) ≤ 900))] (wkM M i) Q
          refine V.if_ne (tgt := 45) dX10_wrong__38 (by decide) (fun c38 => ?_) (fun q => absurd q ((fun z => b2i_0.mp z hr)))
          refine V.aload_n dX10_wrong__45 rfl (i := 0) rfl ?_
          refine V.iload_n dX10_wrong__46 rfl (i := 2) rfl ?_
          refine V.iconst dX10_wrong__47 (v := 4) (by decide) ?_
          refine V.aload_n dX10_wrong__48 rfl (i := 0) rfl ?_
          refine V.getR dX10_wrong__49 rfl flRX10_7 rfl ⟨by decide, by decide⟩ ?_
          refine V.sipush dX10_wrong__52 (v := 183) (by decide) ?_
          refine V.iload_n dX10_wrong__55 rfl (i := 2) rfl ?_
          refine V.iadd dX10_wrong__56 ?_
          refine V.top (x' := (nI (183 + i))) (nI_add 183 i) ?_
          refine V.ialdN dX10_wrong__57 rfl ⟨by decide, by decide⟩ (by first | assumption | decide | omega) (by decide) ?_
          refine V.top (x' := (M 84 (183 + i))) (hwt) ?_
          refine V.invv (z := mX10_becomes) (As := [_, _, _]) dX10_wrong__58 rfl mlRX10_162 okX10_becomes npX10_becomes rfl rfl rfl ⟨by decide, by decide⟩ (Nat.le_of_ble_eq_true rfl) rfl (Nat.le_of_ble_eq_true rfl) (c_bec (by omega) (by decide) ?_)
          show V rS g (d + 4) mX10_wrong_ 61 [some (.ref 83), some (.int (nI w)), some (.int (nI i))] [] (wkM M (i + 1)) Q
          refine V.aload_n dX10_wrong__61 rfl (i := 0) rfl ?_
          refine V.iload_n dX10_wrong__62 rfl (i := 2) rfl ?_
          refine V.invv (z := mX10_clashesAhead) (As := [_]) dX10_wrong__63 rfl mlRX10_322 okX10_clashesAhead npX10_clashesAhead rfl rfl rfl ⟨by decide, by decide⟩ (Nat.le_of_ble_eq_true rfl) rfl (Nat.le_of_ble_eq_true rfl) (c_caR hH h8 hne h10 (by omega) ?_)
          show V rS g (d + 4) mX10_wrong_ 66 [some (.ref 83), some (.int (nI w)), some (.int (nI i))] [.int (b2i (anB (fun a => anB (clP hp wy (M 84 101) a (M 84 (183 + a)) i (M 84 (183 + i))) ne) i = true))] (wkM M (i + 1)) Q
          refine V.if_eq (tgt := 73) dX10_wrong__66 (by decide) (fun q => absurd q ((fun z => b2i_0.mp z ha))) (fun c66 => ?_)
          refine V.iconst dX10_wrong__69 (v := 1) (by decide) ?_
          refine V.iload_n dX10_wrong__70 rfl (i := 2) rfl ?_
          refine V.iadd dX10_wrong__71 ?_
          refine V.top (x' := (nI (1 + i))) (nI_add 1 i) ?_
          exact V.ret dX10_wrong__72 rfl (hQ _ ⟨fun c hc => wkM_o hc (i + 1), fun j hj => wkM_n (i + 1) (by omega) (by omega)⟩)
        · skip
          refine V.iload_n dX10_wrong__2 rfl (i := 2) rfl ?_
          refine V.iload_n dX10_wrong__3 rfl (i := 1) rfl ?_
          refine V.ic_ge (tgt := 79) dX10_wrong__4 (by decide) (fun q => absurd q ((nI_ge (a := i) (b := w) (by omega) (by omega)))) (fun c4 => ?_)
          refine V.iload_n dX10_wrong__7 rfl (i := 2) rfl ?_
          refine V.aload_n dX10_wrong__8 rfl (i := 0) rfl ?_
          refine V.getR dX10_wrong__9 rfl flRX10_7 rfl ⟨by decide, by decide⟩ ?_
          refine V.bipush dX10_wrong__12 (v := 103) (by decide) ?_
          refine V.top (x' := nI 103) (by decide) ?_
          refine V.ialdN dX10_wrong__14 rfl ⟨by decide, by decide⟩ (by first | assumption | decide | omega) (by decide) ?_
          refine V.top (x' := (nI n)) (hn2) ?_
          refine V.ic_eq (tgt := 41) dX10_wrong__15 (by decide) (fun q => absurd q ((fun z => absurd ((nI_eq (by omega) (by omega)).mp z) hni))) (fun c15 => ?_)
          refine V.aload_n dX10_wrong__18 rfl (i := 0) rfl ?_
          refine V.getR dX10_wrong__19 rfl flRX10_7 rfl ⟨by decide, by decide⟩ ?_
          refine V.sipush dX10_wrong__22 (v := 183) (by decide) ?_
          refine V.iload_n dX10_wrong__25 rfl (i := 2) rfl ?_
          refine V.iadd dX10_wrong__26 ?_
          refine V.top (x' := (nI (183 + i))) (nI_add 183 i) ?_
          refine V.ialdN dX10_wrong__27 rfl ⟨by decide, by decide⟩ (by first | assumption | decide | omega) (by decide) ?_
          refine V.top (x' := (M 84 (183 + i))) (hwt) ?_
          refine V.i2l dX10_wrong__28 ?_
          refine V.ldc2 dX10_wrong__29 rfl clRX10_179 ?_
          refine V.ldc2 dX10_wrong__32 rfl clRX10_181 ?_
          refine V.invs (z := mX10_in) (As := [_, _, _]) dX10_wrong__35 rfl mlRX10_66 okX10_in npX10_in rfl (Nat.le_of_ble_eq_true rfl) rfl (Nat.le_of_ble_eq_true rfl) (c_in32 (v := M 84 (183 + i)) (lo := -900) (hi := 900) rfl rfl ?_)
          show V rS g (d + 4) mX10_wrong_ 38 [some (.ref 83), some (.int (nI w)), some (.int (nI i))] [.int (b2i (-900 ≤ M 84 (183 + i) ∧ M 84 (183 + i) ≤ 900))] (wkM M i) Q
          refine V.if_ne (tgt := 45) dX10_wrong__38 (by decide) (fun q => absurd ((b2i_f hr)) q) (fun c38 => ?_)
          refine V.iconst dX10_wrong__41 (v := 1) (by decide) ?_
          refine V.iload_n dX10_wrong__42 rfl (i := 2) rfl ?_
          refine V.iadd dX10_wrong__43 ?_
          refine V.top (x' := (nI (1 + i))) (nI_add 1 i) ?_
          exact V.ret dX10_wrong__44 rfl (hQ _ ⟨fun c hc => wkM_o hc i, fun j hj => wkM_n i (by omega) (by omega)⟩)
    · have hc3 : ¬ w ≤ i ∧ ¬ n ≤ i ∧ ¬ ctP (fun j => M 84 (183 + j)) hp wy (M 84 101) ne i = true := ⟨fun z => hc (by show (_ || _) = true; rw [decide_eq_true z]; rfl), fun z => hc (by show (_ || (_ || _)) = true; rw [decide_eq_true z]; simp), fun z => hc (by show (_ || (_ || _)) = true; rw [z]; simp)⟩
      have hni : ¬ i = n := by omega
      have hr : -900 ≤ M 84 (183 + i) ∧ M 84 (183 + i) ≤ 900 := Classical.byContradiction fun z => hc3.2.2 (by
        unfold ctP
        have : (decide (-900 ≤ M 84 (183 + i)) && decide (M 84 (183 + i) ≤ 900)) = false := Bool.eq_false_iff.mpr (fun y => z (by rw [Bool.and_eq_true] at y; exact ⟨of_decide_eq_true y.1, of_decide_eq_true y.2⟩))
        rw [this]
        rfl)
      have ha : ¬ anB (fun a => anB (clP hp wy (M 84 101) a (M 84 (183 + a)) i (M 84 (183 + i))) ne) i = true := fun z => hc3.2.2 (by
        unfold ctP
        rw [decide_eq_true hr.1, decide_eq_true hr.2]
        exact z)
      refine V.iload_n dX10_wrong__2 rfl (i := 2) rfl ?_
      refine V.iload_n dX10_wrong__3 rfl (i := 1) rfl ?_
      refine V.ic_ge (tgt := 79) dX10_wrong__4 (by decide) (fun q => absurd q ((nI_ge (a := i) (b := w) (by omega) (by omega)))) (fun c4 => ?_)
      refine V.iload_n dX10_wrong__7 rfl (i := 2) rfl ?_
      refine V.aload_n dX10_wrong__8 rfl (i := 0) rfl ?_
      refine V.getR dX10_wrong__9 rfl flRX10_7 rfl ⟨by decide, by decide⟩ ?_
      refine V.bipush dX10_wrong__12 (v := 103) (by decide) ?_
      refine V.top (x' := nI 103) (by decide) ?_
      refine V.ialdN dX10_wrong__14 rfl ⟨by decide, by decide⟩ (by first | assumption | decide | omega) (by decide) ?_
      refine V.top (x' := (nI n)) (hn2) ?_
      refine V.ic_eq (tgt := 41) dX10_wrong__15 (by decide) (fun q => absurd q ((fun z => absurd ((nI_eq (by omega) (by omega)).mp z) hni))) (fun c15 => ?_)
      refine V.aload_n dX10_wrong__18 rfl (i := 0) rfl ?_
      refine V.getR dX10_wrong__19 rfl flRX10_7 rfl ⟨by decide, by decide⟩ ?_
      refine V.sipush dX10_wrong__22 (v := 183) (by decide) ?_
      refine V.iload_n dX10_wrong__25 rfl (i := 2) rfl ?_
      refine V.iadd dX10_wrong__26 ?_
      refine V.top (x' := (nI (183 + i))) (nI_add 183 i) ?_
      refine V.ialdN dX10_wrong__27 rfl ⟨by decide, by decide⟩ (by first | assumption | decide | omega) (by decide) ?_
      refine V.top (x' := (M 84 (183 + i))) (hwt) ?_
      refine V.i2l dX10_wrong__28 ?_
      refine V.ldc2 dX10_wrong__29 rfl clRX10_179 ?_
      refine V.ldc2 dX10_wrong__32 rfl clRX10_181 ?_
      refine V.invs (z := mX10_in) (As := [_, _, _]) dX10_wrong__35 rfl mlRX10_66 okX10_in npX10_in rfl (Nat.le_of_ble_eq_true rfl) rfl (Nat.le_of_ble_eq_true rfl) (c_in32 (v := M 84 (183 + i)) (lo := -900) (hi := 900) rfl rfl ?_)
      show V rS g (d + 4) mX10_wrong_ 38 [some (.ref 83), some (.int (nI w)), some (.int (nI i))] [.int (b2i (-900 ≤ M 84 (183 + i) ∧ M 84 (183 + i) ≤ 900))] (wkM M i) Q
      refine V.if_ne (tgt := 45) dX10_wrong__38 (by decide) (fun c38 => ?_) (fun q => absurd q ((fun z => b2i_0.mp z hr)))
      refine V.aload_n dX10_wrong__45 rfl (i := 0) rfl ?_
      refine V.iload_n dX10_wrong__46 rfl (i := 2) rfl ?_
      refine V.iconst dX10_wrong__47 (v := 4) (by decide) ?_
      refine V.aload_n dX10_wrong__48 rfl (i := 0) rfl ?_
      refine V.getR dX10_wrong__49 rfl flRX10_7 rfl ⟨by decide, by decide⟩ ?_
      refine V.sipush dX10_wrong__52 (v := 183) (by decide) ?_
      refine V.iload_n dX10_wrong__55 rfl (i := 2) rfl ?_
      refine V.iadd dX10_wrong__56 ?_
      refine V.top (x' := (nI (183 + i))) (nI_add 183 i) ?_
      refine V.ialdN dX10_wrong__57 rfl ⟨by decide, by decide⟩ (by first | assumption | decide | omega) (by decide) ?_
      refine V.top (x' := (M 84 (183 + i))) (hwt) ?_
      refine V.invv (z := mX10_becomes) (As := [_, _, _]) dX10_wrong__58 rfl mlRX10_162 okX10_becomes npX10_becomes rfl rfl rfl ⟨by decide, by decide⟩ (Nat.le_of_ble_eq_true rfl) rfl (Nat.le_of_ble_eq_true rfl) (c_bec (by omega) (by decide) ?_)
      show V rS g (d + 4) mX10_wrong_ 61 [some (.ref 83), some (.int (nI w)), some (.int (nI i))] [] (wkM M (i + 1)) Q
      refine V.aload_n dX10_wrong__61 rfl (i := 0) rfl ?_
      refine V.iload_n dX10_wrong__62 rfl (i := 2) rfl ?_
      refine V.invv (z := mX10_clashesAhead) (As := [_]) dX10_wrong__63 rfl mlRX10_322 okX10_clashesAhead npX10_clashesAhead rfl rfl rfl ⟨by decide, by decide⟩ (Nat.le_of_ble_eq_true rfl) rfl (Nat.le_of_ble_eq_true rfl) (c_caR hH h8 hne h10 (by omega) ?_)
      show V rS g (d + 4) mX10_wrong_ 66 [some (.ref 83), some (.int (nI w)), some (.int (nI i))] [.int (b2i (anB (fun a => anB (clP hp wy (M 84 101) a (M 84 (183 + a)) i (M 84 (183 + i))) ne) i = true))] (wkM M (i + 1)) Q
      refine V.if_eq (tgt := 73) dX10_wrong__66 (by decide) (fun c66 => ?_) (fun q => absurd ((b2i_f ha)) q)
      refine V.iinc dX10_wrong__73 rfl (v := (nI (i + 1))) (nI_1 _) (by decide) (fun _ h => by cases h; exact Or.inl rfl) rfl ?_
      refine V.goto dX10_wrong__76 (tgt := 2) (by decide) ?_
      exact ih (i + 1) (by omega) (fun j h => by by_cases e : j = i; subst e; exact Bool.eq_false_iff.mpr hc; exact hj j (by omega))
set_option maxHeartbeats 4000000 in
set_option maxRecDepth 100000 in
theorem c_wrR {g : GG} {d : Nat} {M : Mem} {Q : Option Value → Mem → Prop} {hp : Nat → Nat → Bool} {wy : Nat → Nat → Int32} {n ne : Nat} (hH : HdR M hp wy n ne) (h8 : n ≤ 8) (hne : M 84 104 = nI ne) (h10 : ne ≤ 10) (hn : M 84 103 = nI n) {w : Nat} (hw : w ≤ 20) (hQ : ∀ M', ((∀ c, c ≠ 84 → M' c = M c) ∧ ∀ i, 360 ≤ i → M' 84 i = M 84 i) → Q (some (.int (if (fst (fun i => decide (w ≤ i) || (decide (n ≤ i) || ctP (fun j => M 84 (183 + j)) hp wy (M 84 101) ne i)) (max w n)) < max w n then nI (1 + (fst (fun i => decide (w ≤ i) || (decide (n ≤ i) || ctP (fun j => M 84 (183 + j)) hp wy (M 84 101) ne i)) (max w n))) else 0))) M') : V rS g (d + 4) mX10_wrong_ 0 [some (.ref 83), some (.int (nI w)), none] [] M Q := by
  refine V.iconst dX10_wrong__0 (v := 0) (by decide) ?_
  refine V.istore_n dX10_wrong__1 rfl (i := 2) (by decide) (fun _ h => by cases h; exact Or.inl rfl) rfl ?_
  exact l_wrR hH h8 hne h10 hn hw hQ w 0 (by omega) (fun j hj => absurd hj (Nat.not_lt_zero _))
set_option maxHeartbeats 4000000 in
set_option maxRecDepth 100000 in
theorem c10_check {g : GG} {d : Nat} {M : Mem} {Q : Option Value → Mem → Prop} {a : Int32} {S : List Int32} {n ne w : Nat} (hV : VR S M n ne) (hw : M 84 107 = nI w) (h20 : w ≤ 20) (hbad : ¬ (0 ≤ a ∧ a ≤ 23) → Q (some (.int (-1000000001))) (put (put M 84 107 0) 87 1 (M 87 1 + 1))) (hok : (0 ≤ a ∧ a ≤ 23) → ∀ M', KpX (put M 84 107 0) M' → Q (some (.int (if (fst (fun i => decide (w ≤ i) || (decide (n ≤ i) || ctP (fun j => M 84 (183 + j)) (hpR S (put M 84 107 0) a) (wyR (put M 84 107 0)) (M 84 101) ne i)) (max w n)) < max w n then nI (1 + (fst (fun i => decide (w ≤ i) || (decide (n ≤ i) || ctP (fun j => M 84 (183 + j)) (hpR S (put M 84 107 0) a) (wyR (put M 84 107 0)) (M 84 101) ne i)) (max w n))) else 0))) M') : V rS g (d + 66) mX10_check 0 [some (.ref 83), some (.int a), none, none] [] M Q := by
  have h8 := hV.2.1
  have e84 : ∀ j, j ≠ 107 → put M 84 107 0 84 j = M 84 j := fun j hj => put_n (fun z => hj z.2)
  have hb7 : ∀ b k, b < 8 → k < 7 → put M 84 107 0 84 (108 + 7 * b + k) = M 84 (108 + 7 * b + k) := fun b k hb hk => e84 _ (by omega)
  have hlw : LwR (put M 84 107 0) 0 S := by
    unfold LwR
    rw [e84 _ (by omega), show (fun i => put M 84 107 0 84 (203 + 50 * 0 + i)) = (fun i => M 84 (203 + 50 * 0 + i)) from funext fun i => e84 _ (by omega)]
    exact hV.2.2.2.2.2.1
  have hV1 : VR S (put M 84 107 0) n ne := by
    refine ⟨by rw [e84 _ (by decide)]; exact hV.1, h8, by rw [e84 _ (by decide)]; exact hV.2.2.1, hV.2.2.2.1, by rw [e84 _ (by decide)]; exact hV.2.2.2.2.1, hlw, fun b hb => ?_, fun e he => by rw [e84 _ (by omega)]; exact hV.2.2.2.2.2.2.2 e he⟩
    unfold BB
    rw [hb7 b 2 (by omega) (by decide), hb7 b 6 (by omega) (by decide)]
    exact hV.2.2.2.2.2.2.1 b hb
  by_cases h : 0 ≤ a ∧ a ≤ 23
  · have hcont : ∀ M1, KpH (put M 84 107 0) M1 → HdR M1 (hpR S (put M 84 107 0) a) (wyR (put M 84 107 0)) n ne → V rS g (d + 66) mX10_check 45 [some (.ref 83), some (.int a), some (.int (nI w)), none] [] (cpM M1 84 85 360) Q := by
      intro M1 hM1 hH1
      have e1 : cpM M1 84 85 360 84 = put M 84 107 0 84 := by unfold cpM; rw [um_n (by decide)]; exact hM1.1 84 (by decide) (by decide) (by decide) (by decide)
      have h101 : cpM M1 84 85 360 84 101 = M 84 101 := by rw [e1, e84 _ (by decide)]
      have hwt : (fun j => cpM M1 84 85 360 84 (183 + j)) = (fun j => M 84 (183 + j)) := funext fun j => by rw [e1, e84 _ (by omega)]
      have hR : ∀ M2 : Mem, ((∀ c, c ≠ 84 → M2 c = cpM M1 84 85 360 c) ∧ ∀ i, 360 ≤ i → M2 84 i = cpM M1 84 85 360 84 i) → KpX (put M 84 107 0) (cpM M2 85 84 360) := fun M2 h2 => by
        have ho : ∀ c, c ≠ 84 → c ≠ 85 → cpM M2 85 84 360 c = M1 c := fun c h84 h85 => by
          unfold cpM
          rw [um_n h84, h2.1 c h84]
          unfold cpM
          rw [um_n h85]
        refine ⟨fun c hc => ?_, by rw [ho 83 (by decide) (by decide)]; exact hM1.2 3 (by omega), by rw [ho 83 (by decide) (by decide)]; exact hM1.2 22 (by omega)⟩
        by_cases h84 : c = 84
        · subst h84
          funext i
          unfold cpM
          rw [um_s]
          by_cases hi : i < 360
          · rw [if_pos hi, h2.1 85 (by decide)]
            unfold cpM
            rw [um_s, if_pos hi, hM1.1 84 (by decide) (by decide) (by decide) (by decide)]
          · rw [if_neg hi, h2.2 i (by omega), e1]
        · rw [ho c h84 (by omega)]
          exact hM1.1 c (by omega) (by omega) (by omega) (by omega)
      refine V.aload_n dX10_check_45 rfl (i := 0) rfl ?_
      refine V.iload_n dX10_check_46 rfl (i := 2) rfl ?_
      refine V.invv (z := mX10_wrong_) (As := [_]) dX10_check_47 rfl mlRX10_325 okX10_wrong_ npX10_wrong_ rfl rfl rfl ⟨by decide, by decide⟩ (Nat.le_of_ble_eq_true rfl) rfl (Nat.le_of_ble_eq_true rfl) (c_wrR (M := cpM M1 84 85 360) (d := d + 61) (fun b e hb he => by unfold cpM; rw [um_n (by decide), um_n (by decide)]; exact hH1 b e hb he) h8 (by rw [e1]; exact hV1.2.2.1) hV.2.2.2.1 (by rw [e1]; exact hV1.1) h20 (fun M2 h2 => ?_))
      show V rS g (d + 66) mX10_check 50 [some (.ref 83), some (.int a), some (.int (nI w)), none] [.int (if (fst (fun i => decide (w ≤ i) || (decide (n ≤ i) || ctP (fun j => cpM M1 84 85 360 84 (183 + j)) (hpR S (put M 84 107 0) a) (wyR (put M 84 107 0)) (cpM M1 84 85 360 84 101) ne i)) (max w n)) < max w n then nI (1 + (fst (fun i => decide (w ≤ i) || (decide (n ≤ i) || ctP (fun j => cpM M1 84 85 360 84 (183 + j)) (hpR S (put M 84 107 0) a) (wyR (put M 84 107 0)) (cpM M1 84 85 360 84 101) ne i)) (max w n))) else 0)] M2 Q
      refine V.istore_n dX10_check_50 rfl (i := 3) (by decide) (fun _ h => by cases h; exact Or.inl rfl) rfl ?_
      refine V.aload_n dX10_check_51 rfl (i := 0) rfl ?_
      refine V.getR dX10_check_52 rfl flRX10_13 rfl ⟨by decide, by decide⟩ ?_
      refine V.aload_n dX10_check_55 rfl (i := 0) rfl ?_
      refine V.getR dX10_check_56 rfl flRX10_7 rfl ⟨by decide, by decide⟩ ?_
      refine V.invs (z := mX10_copies) (As := [_, _]) dX10_check_59 rfl mlRX10_286 okX10_copies npX10_copies rfl (Nat.le_of_ble_eq_true rfl) rfl (Nat.le_of_ble_eq_true rfl) (c_cp85_84 ?_)
      show V rS g (d + 66) mX10_check 62 [some (.ref 83), some (.int a), some (.int (nI w)), some (.int (if (fst (fun i => decide (w ≤ i) || (decide (n ≤ i) || ctP (fun j => cpM M1 84 85 360 84 (183 + j)) (hpR S (put M 84 107 0) a) (wyR (put M 84 107 0)) (cpM M1 84 85 360 84 101) ne i)) (max w n)) < max w n then nI (1 + (fst (fun i => decide (w ≤ i) || (decide (n ≤ i) || ctP (fun j => cpM M1 84 85 360 84 (183 + j)) (hpR S (put M 84 107 0) a) (wyR (put M 84 107 0)) (cpM M1 84 85 360 84 101) ne i)) (max w n))) else 0))] [] (cpM M2 85 84 360) Q
      refine V.iload_n dX10_check_62 rfl (i := 3) rfl ?_
      exact V.ret dX10_check_63 rfl (Qi (hok h _ (hR M2 h2)) (by rw [h101, hwt]))
    refine V.aload_n dX10_check_0 rfl (i := 0) rfl ?_
    refine V.getR dX10_check_1 rfl flRX10_7 rfl ⟨by decide, by decide⟩ ?_
    refine V.bipush dX10_check_4 (v := 107) (by decide) ?_
    refine V.top (x' := nI 107) (by decide) ?_
    refine V.ialdN dX10_check_6 rfl ⟨by decide, by decide⟩ (by first | assumption | decide | omega) (by decide) ?_
    refine V.top (x' := (nI w)) (hw) ?_
    refine V.istore_n dX10_check_7 rfl (i := 2) (by decide) (fun _ h => by cases h; exact Or.inl rfl) rfl ?_
    refine V.aload_n dX10_check_8 rfl (i := 0) rfl ?_
    refine V.getR dX10_check_9 rfl flRX10_7 rfl ⟨by decide, by decide⟩ ?_
    refine V.bipush dX10_check_12 (v := 107) (by decide) ?_
    refine V.iconst dX10_check_14 (v := 0) (by decide) ?_
    refine V.top1 (x' := nI 107) (by decide) ?_
    refine V.iastN dX10_check_15 rfl ⟨by decide, by decide⟩ (by first | assumption | decide | omega) (by decide) ?_
    refine V.iload_n dX10_check_16 rfl (i := 1) rfl ?_
    refine V.invs (z := mX10_isHour) (As := [_]) dX10_check_17 rfl mlRX10_191 okX10_isHour npX10_isHour rfl (Nat.le_of_ble_eq_true rfl) rfl (Nat.le_of_ble_eq_true rfl) (c_hourR   ?_)
    show V rS g (d + 66) mX10_check 20 [some (.ref 83), some (.int a), some (.int (nI w)), none] [.int (b2i (0 ≤ a ∧ a ≤ 23))] ((put M 84 107 (0 : Int32))) Q
    refine V.if_ne (tgt := 29) dX10_check_20 (by decide) (fun c20 => ?_) (fun q => absurd q ((fun z => b2i_0.mp z h)))
    refine V.aload_n dX10_check_29 rfl (i := 0) rfl ?_
    refine V.iload_n dX10_check_30 rfl (i := 1) rfl ?_
    refine V.invv (z := mX10_hearsAll) (As := [_]) dX10_check_31 rfl mlRX10_238 okX10_hearsAll npX10_hearsAll rfl rfl rfl ⟨by decide, by decide⟩ (Nat.le_of_ble_eq_true rfl) rfl (Nat.le_of_ble_eq_true rfl) (c_all hV1 (fun M1 hM1 hH1 => ?_))
    show V rS g (d + 66) mX10_check 34 [some (.ref 83), some (.int a), some (.int (nI w)), none] [] M1 Q
    refine V.aload_n dX10_check_34 rfl (i := 0) rfl ?_
    refine V.getR dX10_check_35 rfl flRX10_7 rfl ⟨by decide, by decide⟩ ?_
    refine V.aload_n dX10_check_38 rfl (i := 0) rfl ?_
    refine V.getR dX10_check_39 rfl flRX10_13 rfl ⟨by decide, by decide⟩ ?_
    refine V.invs (z := mX10_copies) (As := [_, _]) dX10_check_42 rfl mlRX10_286 okX10_copies npX10_copies rfl (Nat.le_of_ble_eq_true rfl) rfl (Nat.le_of_ble_eq_true rfl) (c_cp84_85 ?_)
    show V rS g (d + 66) mX10_check 45 [some (.ref 83), some (.int a), some (.int (nI w)), none] [] (cpM M1 84 85 360) Q
    exact hcont M1 hM1 hH1
  · skip
    refine V.aload_n dX10_check_0 rfl (i := 0) rfl ?_
    refine V.getR dX10_check_1 rfl flRX10_7 rfl ⟨by decide, by decide⟩ ?_
    refine V.bipush dX10_check_4 (v := 107) (by decide) ?_
    refine V.top (x' := nI 107) (by decide) ?_
    refine V.ialdN dX10_check_6 rfl ⟨by decide, by decide⟩ (by first | assumption | decide | omega) (by decide) ?_
    refine V.top (x' := (nI w)) (hw) ?_
    refine V.istore_n dX10_check_7 rfl (i := 2) (by decide) (fun _ h => by cases h; exact Or.inl rfl) rfl ?_
    refine V.aload_n dX10_check_8 rfl (i := 0) rfl ?_
    refine V.getR dX10_check_9 rfl flRX10_7 rfl ⟨by decide, by decide⟩ ?_
    refine V.bipush dX10_check_12 (v := 107) (by decide) ?_
    refine V.iconst dX10_check_14 (v := 0) (by decide) ?_
    refine V.top1 (x' := nI 107) (by decide) ?_
    refine V.iastN dX10_check_15 rfl ⟨by decide, by decide⟩ (by first | assumption | decide | omega) (by decide) ?_
    refine V.iload_n dX10_check_16 rfl (i := 1) rfl ?_
    refine V.invs (z := mX10_isHour) (As := [_]) dX10_check_17 rfl mlRX10_191 okX10_isHour npX10_isHour rfl (Nat.le_of_ble_eq_true rfl) rfl (Nat.le_of_ble_eq_true rfl) (c_hourR   ?_)
    show V rS g (d + 66) mX10_check 20 [some (.ref 83), some (.int a), some (.int (nI w)), none] [.int (b2i (0 ≤ a ∧ a ≤ 23))] ((put M 84 107 (0 : Int32))) Q
    refine V.if_ne (tgt := 29) dX10_check_20 (by decide) (fun c20 => ?_) (fun c20 => ?_)
    · exact absurd (Classical.byContradiction fun z => c20 (b2i_f z)) h
    · refine V.aload_n dX10_check_23 rfl (i := 0) rfl ?_
      refine V.iconst dX10_check_24 (v := 1) (by decide) ?_
      refine V.invv (z := mX10_finds) (As := [_]) dX10_check_25 rfl mlRX10_131 okX10_finds npX10_finds rfl rfl rfl ⟨by decide, by decide⟩ (Nat.le_of_ble_eq_true rfl) rfl (Nat.le_of_ble_eq_true rfl) (c_fnd1   ?_)
      show V rS g (d + 66) mX10_check 28 [some (.ref 83), some (.int a), some (.int (nI w)), none] [.int (-1000000001 : Int32)] (put ((put M 84 107 (0 : Int32))) 87 1 (((put M 84 107 (0 : Int32))) 87 1 + 1)) Q
      exact V.ret dX10_check_28 rfl (Qm (hbad h) (by rw [put_cell (c := 87) (by decide)]))

