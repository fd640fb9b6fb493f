/-! ===== the reference: days, images ===== -/
def cpM (M : Mem) (f t k : Nat) : Mem := um M t (fun i => if i < k then M f i else M t i)
theorem cpM_0 {M : Mem} {f t : Nat} : cpM M f t 0 = M := by
  funext c i
  unfold cpM um
  by_cases h : c = t
  · subst h; rw [if_pos rfl]; exact if_neg (Nat.not_lt_zero _)
  · rw [if_neg h]
theorem cpM_s {M : Mem} {f t k : Nat} (h : f ≠ t) : put (cpM M f t k) t k (cpM M f t k f k) = cpM M f t (k + 1) := by
  funext c i
  unfold cpM
  rw [um_n h]
  by_cases hc : c = t
  · subst hc
    by_cases hi : i = k
    · subst hi
      rw [put_s, um_s, if_pos (Nat.lt_succ_self _)]
    · rw [put_n (fun q => hi q.2), um_s, um_s]
      by_cases hl : i < k
      · rw [if_pos hl, if_pos (by omega)]
      · rw [if_neg hl, if_neg (by omega)]
  · rw [put_cell hc, um_n hc, um_n hc]

set_option maxHeartbeats 4000000 in
set_option maxRecDepth 100000 in
theorem l_cp {g : GG} {d : Nat} {M : Mem} {Q : Option Value → Mem → Prop} {f t : Nat} (hl_f : lay f = .inr (0, 360, 0)) (hi_f : inS rS f) (hl_t : lay t = .inr (0, 360, 0)) (hi_t : inS rS t) (hft : f ≠ t) (hQ : Q none (cpM M f t 360)) : ∀ (r k : Nat), k + r = 360 → V rS g d mX10_copies 2 [some (.ref f), some (.ref t), some (.int (nI k))] [] (cpM M f t k) Q := by
  intro r
  induction r with
  | zero =>
    intro k hk
    obtain rfl : k = 360 := by omega
    refine V.iload_n dX10_copies_2 rfl (i := 2) rfl ?_
    refine V.sipush dX10_copies_3 (v := 360) (by decide) ?_
    refine V.ic_ge (tgt := 21) dX10_copies_6 (by decide) (fun c6 => ?_) (fun q => absurd ((by decide)) q)
    exact V.vret dX10_copies_21 rfl (hQ)
  | succ r ih =>
    intro k hk
    have hk3 : k < 360 := by omega
    refine V.iload_n dX10_copies_2 rfl (i := 2) rfl ?_
    refine V.sipush dX10_copies_3 (v := 360) (by decide) ?_
    refine V.ic_ge (tgt := 21) dX10_copies_6 (by decide) (fun q => absurd q ((nI_ge (a := k) (b := 360) (by omega) (by omega)))) (fun c6 => ?_)
    refine V.aload_n dX10_copies_9 rfl (i := 1) rfl ?_
    refine V.iload_n dX10_copies_10 rfl (i := 2) rfl ?_
    refine V.aload_n dX10_copies_11 rfl (i := 0) rfl ?_
    refine V.iload_n dX10_copies_12 rfl (i := 2) rfl ?_
    refine V.ialdN dX10_copies_13 hl_f hi_f (by first | assumption | decide | omega) (by decide) ?_
    refine V.iastN dX10_copies_14 hl_t hi_t (by first | assumption | decide | omega) (by decide) ?_
    refine V.mem (cpM_s hft) ?_
    refine V.iinc dX10_copies_15 rfl (v := (nI (k + 1))) (nI_1 _) (by decide) (fun _ h => by cases h; exact Or.inl rfl) rfl ?_
    refine V.goto dX10_copies_18 (tgt := 2) (by decide) ?_
    exact ih (k + 1) (by omega)
set_option maxHeartbeats 4000000 in
set_option maxRecDepth 100000 in
theorem c_cp {g : GG} {d : Nat} {M : Mem} {Q : Option Value → Mem → Prop} {f t : Nat} (hl_f : lay f = .inr (0, 360, 0)) (hi_f : inS rS f) (hl_t : lay t = .inr (0, 360, 0)) (hi_t : inS rS t) (hft : f ≠ t) (hQ : Q none (cpM M f t 360)) : V rS g d mX10_copies 0 [some (.ref f), some (.ref t), none] [] M Q := by
  refine V.iconst dX10_copies_0 (v := 0) (by decide) ?_
  refine V.istore_n dX10_copies_1 rfl (i := 2) (by decide) (fun _ h => by cases h; exact Or.inl rfl) rfl ?_
  exact V.mem (cpM_0 (f := f) (t := t)).symm (l_cp hl_f hi_f hl_t hi_t hft hQ 360 0 (by omega))
set_option maxHeartbeats 4000000 in
set_option maxRecDepth 100000 in
theorem c_cp84_85 {g : GG} {d : Nat} {M : Mem} {Q : Option Value → Mem → Prop} (hQ : Q none (cpM M 84 85 360)) : V rS g d mX10_copies 0 [some (.ref 84), some (.ref 85), none] [] M Q := by
  exact c_cp rfl ⟨by decide, by decide⟩ rfl ⟨by decide, by decide⟩ (by decide) hQ
set_option maxHeartbeats 4000000 in
set_option maxRecDepth 100000 in
theorem c_cp85_84 {g : GG} {d : Nat} {M : Mem} {Q : Option Value → Mem → Prop} (hQ : Q none (cpM M 85 84 360)) : V rS g d mX10_copies 0 [some (.ref 85), some (.ref 84), none] [] M Q := by
  exact c_cp rfl ⟨by decide, by decide⟩ rfl ⟨by decide, by decide⟩ (by decide) hQ
set_option maxHeartbeats 4000000 in
set_option maxRecDepth 100000 in
theorem c_cp84_86 {g : GG} {d : Nat} {M : Mem} {Q : Option Value → Mem → Prop} (hQ : Q none (cpM M 84 86 360)) : V rS g d mX10_copies 0 [some (.ref 84), some (.ref 86), none] [] M Q := by
  exact c_cp rfl ⟨by decide, by decide⟩ rfl ⟨by decide, by decide⟩ (by decide) hQ
set_option maxHeartbeats 4000000 in
set_option maxRecDepth 100000 in
theorem c_cp86_84 {g : GG} {d : Nat} {M : Mem} {Q : Option Value → Mem → Prop} (hQ : Q none (cpM M 86 84 360)) : V rS g d mX10_copies 0 [some (.ref 86), some (.ref 84), none] [] M Q := by
  exact c_cp rfl ⟨by decide, by decide⟩ rfl ⟨by decide, by decide⟩ (by decide) hQ
set_option maxHeartbeats 4000000 in
set_option maxRecDepth 100000 in
theorem c10_image {g : GG} {d : Nat} {M : Mem} {Q : Option Value → Mem → Prop} (hQ : Q (some (.int (M 83 3 + 1))) (put (cpM M 84 86 360) 83 3 (M 83 3 + 1))) : V rS g (d + 1) mX10_image 0 [some (.ref 83)] [] M Q := by
  have e : cpM M 84 86 360 83 3 = M 83 3 := by unfold cpM; rw [um_n (by decide)]
  refine V.aload_n dX10_image_0 rfl (i := 0) rfl ?_
  refine V.getR dX10_image_1 rfl flRX10_7 rfl ⟨by decide, by decide⟩ ?_
  refine V.aload_n dX10_image_4 rfl (i := 0) rfl ?_
  refine V.getR dX10_image_5 rfl flRX10_16 rfl ⟨by decide, by decide⟩ ?_
  refine V.invs (z := mX10_copies) (As := [_, _]) dX10_image_8 rfl mlRX10_286 okX10_copies npX10_copies rfl (Nat.le_of_ble_eq_true rfl) rfl (Nat.le_of_ble_eq_true rfl) (c_cp84_86 ?_)
  show V rS g (d + 1) mX10_image 11 [some (.ref 83)] [] (cpM M 84 86 360) Q
  refine V.aload_n dX10_image_11 rfl (i := 0) rfl ?_
  refine V.dup dX10_image_12 rfl ?_
  refine V.getI dX10_image_13 rfl flRX10_319 rfl ⟨by decide, by decide⟩ ?_
  refine V.top (x' := (M 83 3)) (e) ?_
  refine V.iconst dX10_image_16 (v := 1) (by decide) ?_
  refine V.iadd dX10_image_17 ?_
  refine V.putI dX10_image_18 rfl fpRX10_319 rfl ⟨by decide, by decide⟩ ?_
  refine V.aload_n dX10_image_21 rfl (i := 0) rfl ?_
  refine V.getI dX10_image_22 rfl flRX10_319 rfl ⟨by decide, by decide⟩ ?_
  exact V.ret dX10_image_25 rfl (Qi hQ put_s)
set_option maxHeartbeats 4000000 in
set_option maxRecDepth 100000 in
theorem c10_restore {g : GG} {d : Nat} {M : Mem} {Q : Option Value → Mem → Prop} (hnone : M 83 3 = 0 → Q (some (.int (-1000000002))) (put M 87 2 (M 87 2 + 1))) (hok : ¬ M 83 3 = 0 → Q (some (.int (cpM M 86 84 360 84 103))) (cpM M 86 84 360)) : V rS g (d + 1) mX10_restore 0 [some (.ref 83)] [] M Q := by
  refine V.aload_n dX10_restore_0 rfl (i := 0) rfl ?_
  refine V.getI dX10_restore_1 rfl flRX10_319 rfl ⟨by decide, by decide⟩ ?_
  refine V.if_ne (tgt := 13) dX10_restore_4 (by decide) (fun c4 => ?_) (fun c4 => ?_)
  · refine V.aload_n dX10_restore_13 rfl (i := 0) rfl ?_
    refine V.getR dX10_restore_14 rfl flRX10_16 rfl ⟨by decide, by decide⟩ ?_
    refine V.aload_n dX10_restore_17 rfl (i := 0) rfl ?_
    refine V.getR dX10_restore_18 rfl flRX10_7 rfl ⟨by decide, by decide⟩ ?_
    refine V.invs (z := mX10_copies) (As := [_, _]) dX10_restore_21 rfl mlRX10_286 okX10_copies npX10_copies rfl (Nat.le_of_ble_eq_true rfl) rfl (Nat.le_of_ble_eq_true rfl) (c_cp86_84 ?_)
    show V rS g (d + 1) mX10_restore 24 [some (.ref 83)] [] (cpM M 86 84 360) Q
    refine V.aload_n dX10_restore_24 rfl (i := 0) rfl ?_
    refine V.getR dX10_restore_25 rfl flRX10_7 rfl ⟨by decide, by decide⟩ ?_
    refine V.bipush dX10_restore_28 (v := 103) (by decide) ?_
    refine V.top (x' := nI 103) (by decide) ?_
    refine V.ialdN dX10_restore_30 rfl ⟨by decide, by decide⟩ (by first | assumption | decide | omega) (by decide) ?_
    exact V.ret dX10_restore_31 rfl (hok c4)
  · refine V.aload_n dX10_restore_7 rfl (i := 0) rfl ?_
    refine V.iconst dX10_restore_8 (v := 2) (by decide) ?_
    refine V.invv (z := mX10_finds) (As := [_]) dX10_restore_9 rfl mlRX10_131 okX10_finds npX10_finds rfl rfl rfl ⟨by decide, by decide⟩ (Nat.le_of_ble_eq_true rfl) rfl (Nat.le_of_ble_eq_true rfl) (c_fnd2   ?_)
    show V rS g (d + 1) mX10_restore 12 [some (.ref 83)] [.int (-1000000002 : Int32)] (put M 87 2 (M 87 2 + 1)) Q
    exact V.ret dX10_restore_12 rfl (hnone c4)
/-- the reference's memory with z and the spots as told -/
def zsR (M : Mem) (q : ZS) : Mem := fun c j => if c = 84 ∧ j = 105 then q.1 else if c = 84 ∧ 108 ≤ j ∧ j < 164 ∧ (j - 108) % 7 = 2 then q.2 ((j - 108) / 7) else M c j
theorem zsR_o {M : Mem} {q : ZS} {c : Nat} (h : c ≠ 84) : zsR M q c = M c := by
  funext j
  unfold zsR
  rw [if_neg (fun z => h z.1), if_neg (fun z => h z.1)]
theorem zsR_z {M : Mem} {q : ZS} : zsR M q 84 105 = q.1 := if_pos ⟨rfl, rfl⟩
theorem zsR_s {M : Mem} {q : ZS} {b : Nat} (h : b < 8) : zsR M q 84 (108 + 7 * b + 2) = q.2 b := by
  unfold zsR
  rw [if_neg (fun z => by omega), if_pos ⟨rfl, by omega, by omega, by omega⟩, show (108 + 7 * b + 2 - 108) / 7 = b by omega]
theorem zsR_n {M : Mem} {q : ZS} {j : Nat} (h1 : j ≠ 105) (h2 : ¬ (108 ≤ j ∧ j < 164 ∧ (j - 108) % 7 = 2)) : zsR M q 84 j = M 84 j := by
  unfold zsR
  rw [if_neg (fun z => h1 z.2), if_neg (fun z => h2 z.2)]
theorem zsR_v {M : Mem} {q : ZS} {j : Nat} (h1 : j ≠ 105) (h2 : 108 ≤ j ∧ j < 164 ∧ (j - 108) % 7 = 2) : zsR M q 84 j = q.2 ((j - 108) / 7) := by
  unfold zsR
  rw [if_neg (fun z => h1 z.2), if_pos ⟨rfl, h2⟩]
theorem zsR_same {M : Mem} : zsR M (M 84 105, fun b => M 84 (108 + 7 * b + 2)) = M := by
  funext c j
  unfold zsR
  by_cases h1 : c = 84 ∧ j = 105
  · rw [if_pos h1, h1.1, h1.2]
  · rw [if_neg h1]
    by_cases h2 : c = 84 ∧ 108 ≤ j ∧ j < 164 ∧ (j - 108) % 7 = 2
    · rw [if_pos h2, h2.1]
      show M 84 (108 + 7 * ((j - 108) / 7) + 2) = M 84 j
      rw [show 108 + 7 * ((j - 108) / 7) + 2 = j by omega]
    · rw [if_neg h2]
theorem zsR_step {M0 M M1 : Mem} {q : ZS} {b : Nat} {z v : Int32} (hb : b < 8) (he : KpR (zsR M0 q) M) (h1 : KpR (put M 84 105 z) M1) : KpR (zsR M0 (z, fun i => if i = b then v else q.2 i)) (put M1 84 (108 + 7 * b + 2) v) := by
  refine ⟨fun c a1 a2 => ?_, fun j hj => ?_⟩
  · by_cases h84 : c = 84
    · subst h84
      funext j
      by_cases hj : j = 108 + 7 * b + 2
      · subst hj
        rw [put_s, zsR_s hb]
        exact (if_pos rfl).symm
      · rw [put_n (fun z => hj z.2), h1.1 84 a1 a2]
        by_cases h5 : j = 105
        · subst h5
          rw [put_s, zsR_z]
        · rw [put_n (fun z => h5 z.2), he.1 84 a1 a2]
          by_cases h6 : 108 ≤ j ∧ j < 164 ∧ (j - 108) % 7 = 2
          · rw [zsR_v h5 h6, zsR_v h5 h6]
            exact (if_neg (by omega)).symm
          · rw [zsR_n h5 h6, zsR_n h5 h6]
    · rw [put_cell h84, h1.1 c a1 a2, put_cell h84, he.1 c a1 a2, zsR_o h84, zsR_o h84]
  · rw [put_cell (by decide), h1.2 j hj, put_cell (by decide), he.2 j hj, zsR_o (by decide), zsR_o (by decide)]

set_option maxHeartbeats 4000000 in
set_option maxRecDepth 100000 in
theorem l_gb {g : GG} {d : Nat} {Q : Option Value → Mem → Prop} {M0 : Mem} {S : List Int32} {n : Nat} (hn : M0 84 103 = nI n) (h8 : n ≤ 8) (hL : LwR M0 1 S) {q : ZS} (hQ : ∀ M', KpR (zsR M0 (dayF (fun s r m => vrun S s r m 0 0) (fun b => M0 84 (108 + 7 * b + 0)) (fun b => M0 84 (108 + 7 * b + 1)) n q)) M' → Q none M') : ∀ (k i : Nat) (M : Mem), i + k = n → KpR (zsR M0 (dayF (fun s r m => vrun S s r m 0 0) (fun b => M0 84 (108 + 7 * b + 0)) (fun b => M0 84 (108 + 7 * b + 1)) i q)) M → V rS g (d + 62) mX10_goesBy 2 [some (.ref 83), some (.int (nI i))] [] M Q := by
  intro k
  induction k with
  | zero =>
    intro i M hk hM
    obtain rfl : i = n := by omega
    refine V.iload_n dX10_goesBy_2 rfl (i := 1) rfl ?_
    refine V.aload_n dX10_goesBy_3 rfl (i := 0) rfl ?_
    refine V.getR dX10_goesBy_4 rfl flRX10_7 rfl ⟨by decide, by decide⟩ ?_
    refine V.bipush dX10_goesBy_7 (v := 103) (by decide) ?_
    refine V.top (x' := nI 103) (by decide) ?_
    refine V.ialdN dX10_goesBy_9 rfl ⟨by decide, by decide⟩ (by first | assumption | decide | omega) (by decide) ?_
    refine V.top (x' := (nI i)) ((by rw [hM.1 84 (by decide) (by decide), zsR_n (by decide) (by decide)]; exact hn)) ?_
    refine V.ic_ge (tgt := 89) dX10_goesBy_10 (by decide) (fun c10 => ?_) (fun q => absurd ((Int32.le_refl _)) q)
    exact V.vret dX10_goesBy_89 rfl (hQ M hM)
  | succ k ih =>
    intro i M hk hM
    have e84 := hM.1 84 (by decide) (by decide)
    have hi8 : i < 8 := by omega
    have ek : M 84 (108 + 7 * i + 0) = M0 84 (108 + 7 * i + 0) := by rw [e84, zsR_n (by omega) (by omega)]
    have em : M 84 (108 + 7 * i + 1) = M0 84 (108 + 7 * i + 1) := by rw [e84, zsR_n (by omega) (by omega)]
    have es : M 84 (108 + 7 * i + 2) = (dayF (fun s r m => vrun S s r m 0 0) (fun b => M0 84 (108 + 7 * b + 0)) (fun b => M0 84 (108 + 7 * b + 1)) i q).2 i := by rw [e84, zsR_s hi8]
    have ez : M 84 105 = (dayF (fun s r m => vrun S s r m 0 0) (fun b => M0 84 (108 + 7 * b + 0)) (fun b => M0 84 (108 + 7 * b + 1)) i q).1 := by rw [e84, zsR_z]
    by_cases hc : isOfB (M0 84 (108 + 7 * i + 0)) 3 = true
    · have hd1 : dayF (fun s r m => vrun S s r m 0 0) (fun b => M0 84 (108 + 7 * b + 0)) (fun b => M0 84 (108 + 7 * b + 1)) (i + 1) q = (nz (dayF (fun s r m => vrun S s r m 0 0) (fun b => M0 84 (108 + 7 * b + 0)) (fun b => M0 84 (108 + 7 * b + 1)) i q).1, fun x => if x = i then heldF (vrun S ((dayF (fun s r m => vrun S s r m 0 0) (fun b => M0 84 (108 + 7 * b + 0)) (fun b => M0 84 (108 + 7 * b + 1)) i q).2 i) (r7 (nz (dayF (fun s r m => vrun S s r m 0 0) (fun b => M0 84 (108 + 7 * b + 0)) (fun b => M0 84 (108 + 7 * b + 1)) i q).1)) (M0 84 (108 + 7 * i + 1)) 0 0) 0 99 else (dayF (fun s r m => vrun S s r m 0 0) (fun b => M0 84 (108 + 7 * b + 0)) (fun b => M0 84 (108 + 7 * b + 1)) i q).2 x) := by rw [dayF, bst, if_pos hc]
      have hLM : LwR (put M 84 105 (nz (dayF (fun s r m => vrun S s r m 0 0) (fun b => M0 84 (108 + 7 * b + 0)) (fun b => M0 84 (108 + 7 * b + 1)) i q).1)) 1 S := by
        have e2 : ∀ j, 164 ≤ j → put M 84 105 (nz (dayF (fun s r m => vrun S s r m 0 0) (fun b => M0 84 (108 + 7 * b + 0)) (fun b => M0 84 (108 + 7 * b + 1)) i q).1) 84 j = M0 84 j := fun j hj => by rw [put_n (fun z => by omega), e84, zsR_n (by omega) (by omega)]
        unfold LwR
        rw [e2 _ (by omega), show (fun i_1 => put M 84 105 (nz (dayF (fun s r m => vrun S s r m 0 0) (fun b => M0 84 (108 + 7 * b + 0)) (fun b => M0 84 (108 + 7 * b + 1)) i q).1) 84 (203 + 50 * 1 + i_1)) = (fun i_1 => M0 84 (203 + 50 * 1 + i_1)) from funext fun j => e2 _ (by omega)]
        exact hL
      refine V.iload_n dX10_goesBy_2 rfl (i := 1) rfl ?_
      refine V.aload_n dX10_goesBy_3 rfl (i := 0) rfl ?_
      refine V.getR dX10_goesBy_4 rfl flRX10_7 rfl ⟨by decide, by decide⟩ ?_
      refine V.bipush dX10_goesBy_7 (v := 103) (by decide) ?_
      refine V.top (x' := nI 103) (by decide) ?_
      refine V.ialdN dX10_goesBy_9 rfl ⟨by decide, by decide⟩ (by first | assumption | decide | omega) (by decide) ?_
      refine V.top (x' := (nI n)) ((by rw [e84, zsR_n (by decide) (by decide)]; exact hn)) ?_
      refine V.ic_ge (tgt := 89) dX10_goesBy_10 (by decide) (fun q => absurd q ((nI_ge (a := i) (b := n) (by omega) (by omega)))) (fun c10 => ?_)
      refine V.aload_n dX10_goesBy_13 rfl (i := 0) rfl ?_
      refine V.iload_n dX10_goesBy_14 rfl (i := 1) rfl ?_
      refine V.iconst dX10_goesBy_15 (v := 0) (by decide) ?_
      refine V.invv (z := mX10_of) (As := [_, _]) dX10_goesBy_16 rfl mlRX10_175 okX10_of npX10_of rfl rfl rfl ⟨by decide, by decide⟩ (Nat.le_of_ble_eq_true rfl) rfl (Nat.le_of_ble_eq_true rfl) (c_of  (by omega) (by decide) ?_)
      show V rS g (d + 62) mX10_goesBy 19 [some (.ref 83), some (.int (nI i))] [.int (M 84 (108 + 7 * i + 0))] (M) Q
      refine V.top (x' := (M0 84 (108 + 7 * i + 0))) (ek) ?_
      refine V.iconst dX10_goesBy_19 (v := 3) (by decide) ?_
      refine V.invs (z := mX10_isOf) (As := [_, _]) dX10_goesBy_20 rfl mlRX10_185 okX10_isOf npX10_isOf rfl (Nat.le_of_ble_eq_true rfl) rfl (Nat.le_of_ble_eq_true rfl) (c_isOfR   ?_)
      show V rS g (d + 62) mX10_goesBy 23 [some (.ref 83), some (.int (nI i))] [.int (b2i (isOfB (M0 84 (108 + 7 * i + 0)) (3 : Int32) = true))] ((M)) Q
      refine V.if_eq (tgt := 83) dX10_goesBy_23 (by decide) (fun q => absurd q ((fun z => b2i_0.mp z hc))) (fun c23 => ?_)
      refine V.aload_n dX10_goesBy_26 rfl (i := 0) rfl ?_
      refine V.getR dX10_goesBy_27 rfl flRX10_7 rfl ⟨by decide, by decide⟩ ?_
      refine V.bipush dX10_goesBy_30 (v := 105) (by decide) ?_
      refine V.aload_n dX10_goesBy_32 rfl (i := 0) rfl ?_
      refine V.getR dX10_goesBy_33 rfl flRX10_7 rfl ⟨by decide, by decide⟩ ?_
      refine V.bipush dX10_goesBy_36 (v := 105) (by decide) ?_
      refine V.top (x' := nI 105) (by decide) ?_
      refine V.ialdN dX10_goesBy_38 rfl ⟨by decide, by decide⟩ (by first | assumption | decide | omega) (by decide) ?_
      refine V.top (x' := (dayF (fun s r m => vrun S s r m 0 0) (fun b => M0 84 (108 + 7 * b + 0)) (fun b => M0 84 (108 + 7 * b + 1)) i q).1) (ez) ?_
      refine V.ldcw dX10_goesBy_39 rfl ctRX10_280 ?_
      refine V.imul dX10_goesBy_42 ?_
      refine V.sipush dX10_goesBy_43 (v := 12345) (by decide) ?_
      refine V.iadd dX10_goesBy_46 ?_
      refine V.top (x' := (nz (dayF (fun s r m => vrun S s r m 0 0) (fun b => M0 84 (108 + 7 * b + 0)) (fun b => M0 84 (108 + 7 * b + 1)) i q).1)) (rfl) ?_
      refine V.top1 (x' := nI 105) (by decide) ?_
      refine V.iastN dX10_goesBy_47 rfl ⟨by decide, by decide⟩ (by first | assumption | decide | omega) (by decide) ?_
      refine V.aload_n dX10_goesBy_48 rfl (i := 0) rfl ?_
      refine V.iload_n dX10_goesBy_49 rfl (i := 1) rfl ?_
      refine V.iconst dX10_goesBy_50 (v := 2) (by decide) ?_
      refine V.aload_n dX10_goesBy_51 rfl (i := 0) rfl ?_
      refine V.aload_n dX10_goesBy_52 rfl (i := 0) rfl ?_
      refine V.iload_n dX10_goesBy_53 rfl (i := 1) rfl ?_
      refine V.iconst dX10_goesBy_54 (v := 2) (by decide) ?_
      refine V.invv (z := mX10_of) (As := [_, _]) dX10_goesBy_55 rfl mlRX10_175 okX10_of npX10_of rfl rfl rfl ⟨by decide, by decide⟩ (Nat.le_of_ble_eq_true rfl) rfl (Nat.le_of_ble_eq_true rfl) (c_of  (by omega) (by decide) ?_)
      show V rS g (d + 62) mX10_goesBy 58 [some (.ref 83), some (.int (nI i))] [.int ((put ((M)) 84 105 (nz (dayF (fun s r m => vrun S s r m 0 0) (fun b => M0 84 (108 + 7 * b + 0)) (fun b => M0 84 (108 + 7 * b + 1)) i q).1)) 84 (108 + 7 * i + 2)), .ref 83, .int (2 : Int32), .int (nI i), .ref 83] ((put ((M)) 84 105 (nz (dayF (fun s r m => vrun S s r m 0 0) (fun b => M0 84 (108 + 7 * b + 0)) (fun b => M0 84 (108 + 7 * b + 1)) i q).1))) Q
      refine V.top (x' := ((dayF (fun s r m => vrun S s r m 0 0) (fun b => M0 84 (108 + 7 * b + 0)) (fun b => M0 84 (108 + 7 * b + 1)) i q).2 i)) ((by rw [put_n (fun z => by omega)]; exact es)) ?_
      refine V.aload_n dX10_goesBy_58 rfl (i := 0) rfl ?_
      refine V.getR dX10_goesBy_59 rfl flRX10_7 rfl ⟨by decide, by decide⟩ ?_
      refine V.bipush dX10_goesBy_62 (v := 105) (by decide) ?_
      refine V.top (x' := nI 105) (by decide) ?_
      refine V.ialdN dX10_goesBy_64 rfl ⟨by decide, by decide⟩ (by first | assumption | decide | omega) (by decide) ?_
      refine V.top (x' := (nz (dayF (fun s r m => vrun S s r m 0 0) (fun b => M0 84 (108 + 7 * b + 0)) (fun b => M0 84 (108 + 7 * b + 1)) i q).1)) (put_s) ?_
      refine V.bipush dX10_goesBy_65 (v := 8) (by decide) ?_
      refine V.iushr dX10_goesBy_67 ?_
      refine V.bipush dX10_goesBy_68 (v := 7) (by decide) ?_
      refine V.irem dX10_goesBy_70 (by decide) ?_
      refine V.top (x' := (r7 (nz (dayF (fun s r m => vrun S s r m 0 0) (fun b => M0 84 (108 + 7 * b + 0)) (fun b => M0 84 (108 + 7 * b + 1)) i q).1))) (rfl) ?_
      refine V.aload_n dX10_goesBy_71 rfl (i := 0) rfl ?_
      refine V.iload_n dX10_goesBy_72 rfl (i := 1) rfl ?_
      refine V.iconst dX10_goesBy_73 (v := 1) (by decide) ?_
      refine V.invv (z := mX10_of) (As := [_, _]) dX10_goesBy_74 rfl mlRX10_175 okX10_of npX10_of rfl rfl rfl ⟨by decide, by decide⟩ (Nat.le_of_ble_eq_true rfl) rfl (Nat.le_of_ble_eq_true rfl) (c_of  (by omega) (by decide) ?_)
      show V rS g (d + 62) mX10_goesBy 77 [some (.ref 83), some (.int (nI i))] [.int (((put ((M)) 84 105 (nz (dayF (fun s r m => vrun S s r m 0 0) (fun b => M0 84 (108 + 7 * b + 0)) (fun b => M0 84 (108 + 7 * b + 1)) i q).1))) 84 (108 + 7 * i + 1)), .int (r7 (nz (dayF (fun s r m => vrun S s r m 0 0) (fun b => M0 84 (108 + 7 * b + 0)) (fun b => M0 84 (108 + 7 * b + 1)) i q).1)), .int ((dayF (fun s r m => vrun S s r m 0 0) (fun b => M0 84 (108 + 7 * b + 0)) (fun b => M0 84 (108 + 7 * b + 1)) i q).2 i), .ref 83, .int (2 : Int32), .int (nI i), .ref 83] (((put ((M)) 84 105 (nz (dayF (fun s r m => vrun S s r m 0 0) (fun b => M0 84 (108 + 7 * b + 0)) (fun b => M0 84 (108 + 7 * b + 1)) i q).1)))) Q
      refine V.top (x' := (M0 84 (108 + 7 * i + 1))) ((by rw [put_n (fun z => by omega)]; exact em)) ?_
      refine V.invv (z := mX10_grazes) (As := [_, _, _]) dX10_goesBy_77 rfl mlRX10_147 okX10_grazes npX10_grazes rfl rfl rfl ⟨by decide, by decide⟩ (Nat.le_of_ble_eq_true rfl) rfl (Nat.le_of_ble_eq_true rfl) (c_grazes hLM (fun M1 hM1 => ?_))
      show V rS g (d + 62) mX10_goesBy 80 [some (.ref 83), some (.int (nI i))] [.int (heldF (vrun S ((dayF (fun s r m => vrun S s r m 0 0) (fun b => M0 84 (108 + 7 * b + 0)) (fun b => M0 84 (108 + 7 * b + 1)) i q).2 i) (r7 (nz (dayF (fun s r m => vrun S s r m 0 0) (fun b => M0 84 (108 + 7 * b + 0)) (fun b => M0 84 (108 + 7 * b + 1)) i q).1)) (M0 84 (108 + 7 * i + 1)) 0 0) 0 99), .int (2 : Int32), .int (nI i), .ref 83] M1 Q
      refine V.invv (z := mX10_becomes) (As := [_, _, _]) dX10_goesBy_80 rfl mlRX10_162 okX10_becomes npX10_becomes rfl rfl rfl ⟨by decide, by decide⟩ (Nat.le_of_ble_eq_true rfl) rfl (Nat.le_of_ble_eq_true rfl) (c_bec  (by omega) (by decide) ?_)
      show V rS g (d + 62) mX10_goesBy 83 [some (.ref 83), some (.int (nI i))] [] (put M1 84 (108 + 7 * i + 2) (heldF (vrun S ((dayF (fun s r m => vrun S s r m 0 0) (fun b => M0 84 (108 + 7 * b + 0)) (fun b => M0 84 (108 + 7 * b + 1)) i q).2 i) (r7 (nz (dayF (fun s r m => vrun S s r m 0 0) (fun b => M0 84 (108 + 7 * b + 0)) (fun b => M0 84 (108 + 7 * b + 1)) i q).1)) (M0 84 (108 + 7 * i + 1)) 0 0) 0 99)) Q
      refine V.iinc dX10_goesBy_83 rfl (v := (nI (i + 1))) (nI_1 _) (by decide) (fun _ h => by cases h; exact Or.inl rfl) rfl ?_
      refine V.goto dX10_goesBy_86 (tgt := 2) (by decide) ?_
      exact ih (i + 1) _ (by omega) (by rw [hd1]; exact zsR_step hi8 hM hM1)
    · have hd1 : dayF (fun s r m => vrun S s r m 0 0) (fun b => M0 84 (108 + 7 * b + 0)) (fun b => M0 84 (108 + 7 * b + 1)) (i + 1) q = dayF (fun s r m => vrun S s r m 0 0) (fun b => M0 84 (108 + 7 * b + 0)) (fun b => M0 84 (108 + 7 * b + 1)) i q := by rw [dayF, bst, if_neg hc]
      refine V.iload_n dX10_goesBy_2 rfl (i := 1) rfl ?_
      refine V.aload_n dX10_goesBy_3 rfl (i := 0) rfl ?_
      refine V.getR dX10_goesBy_4 rfl flRX10_7 rfl ⟨by decide, by decide⟩ ?_
      refine V.bipush dX10_goesBy_7 (v := 103) (by decide) ?_
      refine V.top (x' := nI 103) (by decide) ?_
      refine V.ialdN dX10_goesBy_9 rfl ⟨by decide, by decide⟩ (by first | assumption | decide | omega) (by decide) ?_
      refine V.top (x' := (nI n)) ((by rw [e84, zsR_n (by decide) (by decide)]; exact hn)) ?_
      refine V.ic_ge (tgt := 89) dX10_goesBy_10 (by decide) (fun q => absurd q ((nI_ge (a := i) (b := n) (by omega) (by omega)))) (fun c10 => ?_)
      refine V.aload_n dX10_goesBy_13 rfl (i := 0) rfl ?_
      refine V.iload_n dX10_goesBy_14 rfl (i := 1) rfl ?_
      refine V.iconst dX10_goesBy_15 (v := 0) (by decide) ?_
      refine V.invv (z := mX10_of) (As := [_, _]) dX10_goesBy_16 rfl mlRX10_175 okX10_of npX10_of rfl rfl rfl ⟨by decide, by decide⟩ (Nat.le_of_ble_eq_true rfl) rfl (Nat.le_of_ble_eq_true rfl) (c_of  (by omega) (by decide) ?_)
      show V rS g (d + 62) mX10_goesBy 19 [some (.ref 83), some (.int (nI i))] [.int (M 84 (108 + 7 * i + 0))] (M) Q
      refine V.top (x' := (M0 84 (108 + 7 * i + 0))) (ek) ?_
      refine V.iconst dX10_goesBy_19 (v := 3) (by decide) ?_
      refine V.invs (z := mX10_isOf) (As := [_, _]) dX10_goesBy_20 rfl mlRX10_185 okX10_isOf npX10_isOf rfl (Nat.le_of_ble_eq_true rfl) rfl (Nat.le_of_ble_eq_true rfl) (c_isOfR   ?_)
      show V rS g (d + 62) mX10_goesBy 23 [some (.ref 83), some (.int (nI i))] [.int (b2i (isOfB (M0 84 (108 + 7 * i + 0)) (3 : Int32) = true))] ((M)) Q
      refine V.if_eq (tgt := 83) dX10_goesBy_23 (by decide) (fun c23 => ?_) (fun q => absurd ((b2i_f hc)) q)
      refine V.iinc dX10_goesBy_83 rfl (v := (nI (i + 1))) (nI_1 _) (by decide) (fun _ h => by cases h; exact Or.inl rfl) rfl ?_
      refine V.goto dX10_goesBy_86 (tgt := 2) (by decide) ?_
      exact ih (i + 1) M (by omega) (by rw [hd1]; exact hM)
set_option maxHeartbeats 4000000 in
set_option maxRecDepth 100000 in
theorem c_gb {g : GG} {d : Nat} {M : Mem} {Q : Option Value → Mem → Prop} {M0 : Mem} {S : List Int32} {n : Nat} (hn : M0 84 103 = nI n) (h8 : n ≤ 8) (hL : LwR M0 1 S) {q : ZS} (hM : KpR (zsR M0 q) M) (hQ : ∀ M', KpR (zsR M0 (dayF (fun s r m => vrun S s r m 0 0) (fun b => M0 84 (108 + 7 * b + 0)) (fun b => M0 84 (108 + 7 * b + 1)) n q)) M' → Q none M') : V rS g (d + 62) mX10_goesBy 0 [some (.ref 83), none] [] M Q := by
  refine V.iconst dX10_goesBy_0 (v := 0) (by decide) ?_
  refine V.istore_n dX10_goesBy_1 rfl (i := 1) (by decide) (fun _ h => by cases h; exact Or.inl rfl) rfl ?_
  exact l_gb hn h8 hL hQ n 0 M (by omega) hM
set_option maxHeartbeats 4000000 in
set_option maxRecDepth 100000 in
theorem l_daysR {g : GG} {d : Nat} {Q : Option Value → Mem → Prop} {M0 : Mem} {S : List Int32} {n : Nat} (hn : M0 84 103 = nI n) (h8 : n ≤ 8) (hL : LwR M0 1 S) {q : ZS} {N : Nat} (hN : N ≤ 60) (hc : ∀ M', KpR (zsR M0 (daysF (fun s r m => vrun S s r m 0 0) (fun b => M0 84 (108 + 7 * b + 0)) (fun b => M0 84 (108 + 7 * b + 1)) n N q)) M' → V rS g (d + 63) mX10_days 35 [some (.ref 83), some (.int (nI N)), none, none] [] M' Q) : ∀ (k t : Nat) (M : Mem), t + k = N → KpR (zsR M0 (daysF (fun s r m => vrun S s r m 0 0) (fun b => M0 84 (108 + 7 * b + 0)) (fun b => M0 84 (108 + 7 * b + 1)) n t q)) M → V rS g (d + 63) mX10_days 20 [some (.ref 83), some (.int (nI N)), some (.int (nI t)), none] [] M Q := by
  intro k
  induction k with
  | zero =>
    intro t M hk hM
    obtain rfl : t = N := by omega
    refine V.iload_n dX10_days_20 rfl (i := 2) rfl ?_
    refine V.iload_n dX10_days_21 rfl (i := 1) rfl ?_
    refine V.ic_ge (tgt := 35) dX10_days_22 (by decide) (fun c22 => ?_) (fun q => absurd ((Int32.le_refl _)) q)
    exact V.fg (ls' := [some (.ref 83), some (.int (nI t)), none, none]) ⟨rfl, rfl, trivial⟩ (hc M hM)
  | succ k ih =>
    intro t M hk hM
    refine V.iload_n dX10_days_20 rfl (i := 2) rfl ?_
    refine V.iload_n dX10_days_21 rfl (i := 1) rfl ?_
    refine V.ic_ge (tgt := 35) dX10_days_22 (by decide) (fun q => absurd q ((nI_ge (a := t) (b := N) (by omega) (by omega)))) (fun c22 => ?_)
    refine V.aload_n dX10_days_25 rfl (i := 0) rfl ?_
    refine V.invv (z := mX10_goesBy) (As := []) dX10_days_26 rfl mlRX10_283 okX10_goesBy npX10_goesBy rfl rfl rfl ⟨by decide, by decide⟩ (Nat.le_of_ble_eq_true rfl) rfl (Nat.le_of_ble_eq_true rfl) (c_gb hn h8 hL hM (fun M1 hM1 => ?_))
    show V rS g (d + 63) mX10_days 29 [some (.ref 83), some (.int (nI N)), some (.int (nI t)), none] [] M1 Q
    refine V.iinc dX10_days_29 rfl (v := (nI (t + 1))) (nI_1 _) (by decide) (fun _ h => by cases h; exact Or.inl rfl) rfl ?_
    refine V.goto dX10_days_32 (tgt := 20) (by decide) ?_
    exact ih (t + 1) M1 (by omega) hM1
set_option maxHeartbeats 4000000 in
set_option maxRecDepth 100000 in
theorem l_thenR {g : GG} {d : Nat} {Q : Option Value → Mem → Prop} {M0 : Mem} {S : List Int32} {n : Nat} (hn : M0 84 103 = nI n) (h8 : n ≤ 8) (hL : LwR M0 1 S) {q : ZS} {N : Nat} {b0 : Int32} (hN : N ≤ 60) (hc : ∀ M', KpR (zsR M0 (daysF (fun s r m => vrun S s r m 0 0) (fun b => M0 84 (108 + 7 * b + 0)) (fun b => M0 84 (108 + 7 * b + 1)) n N q)) M' → V rS g (d + 63) mX10_then 54 [some (.ref 83), some (.int (nI N)), some (.int b0), none] [] M' Q) : ∀ (k t : Nat) (M : Mem), t + k = N → KpR (zsR M0 (daysF (fun s r m => vrun S s r m 0 0) (fun b => M0 84 (108 + 7 * b + 0)) (fun b => M0 84 (108 + 7 * b + 1)) n t q)) M → V rS g (d + 63) mX10_then 39 [some (.ref 83), some (.int (nI N)), some (.int b0), some (.int (nI t))] [] M Q := by
  intro k
  induction k with
  | zero =>
    intro t M hk hM
    obtain rfl : t = N := by omega
    refine V.iload_n dX10_then_39 rfl (i := 3) rfl ?_
    refine V.iload_n dX10_then_40 rfl (i := 1) rfl ?_
    refine V.ic_ge (tgt := 54) dX10_then_41 (by decide) (fun c41 => ?_) (fun q => absurd ((Int32.le_refl _)) q)
    exact V.fg (ls' := [some (.ref 83), some (.int (nI t)), some (.int b0), none]) ⟨rfl, rfl, rfl, trivial⟩ (hc M hM)
  | succ k ih =>
    intro t M hk hM
    refine V.iload_n dX10_then_39 rfl (i := 3) rfl ?_
    refine V.iload_n dX10_then_40 rfl (i := 1) rfl ?_
    refine V.ic_ge (tgt := 54) dX10_then_41 (by decide) (fun q => absurd q ((nI_ge (a := t) (b := N) (by omega) (by omega)))) (fun c41 => ?_)
    refine V.aload_n dX10_then_44 rfl (i := 0) rfl ?_
    refine V.invv (z := mX10_goesBy) (As := []) dX10_then_45 rfl mlRX10_283 okX10_goesBy npX10_goesBy rfl rfl rfl ⟨by decide, by decide⟩ (Nat.le_of_ble_eq_true rfl) rfl (Nat.le_of_ble_eq_true rfl) (c_gb hn h8 hL hM (fun M1 hM1 => ?_))
    show V rS g (d + 63) mX10_then 48 [some (.ref 83), some (.int (nI N)), some (.int b0), some (.int (nI t))] [] M1 Q
    refine V.iinc dX10_then_48 rfl (v := (nI (t + 1))) (nI_1 _) (by decide) (fun _ h => by cases h; exact Or.inl rfl) rfl ?_
    refine V.goto dX10_then_51 (tgt := 39) (by decide) ?_
    exact ih (t + 1) M1 (by omega) hM1
set_option maxHeartbeats 4000000 in
set_option maxRecDepth 100000 in
theorem l_sumR {g : GG} {d : Nat} {M : Mem} {Q : Option Value → Mem → Prop} {n : Nat} {a : Int32} (hn : M 84 103 = nI n) (h8 : n ≤ 8) (hQ : Q (some (.int (sI (fun b => M 84 (108 + 7 * b + 2)) n))) M) : ∀ (k b : Nat), b + k = n → V rS g (d + 1) mX10_days 39 [some (.ref 83), some (.int a), some (.int (sI (fun b => M 84 (108 + 7 * b + 2)) b)), some (.int (nI b))] [] M Q := by
  intro k
  induction k with
  | zero =>
    intro b hk
    obtain rfl : b = n := by omega
    refine V.iload_n dX10_days_39 rfl (i := 3) rfl ?_
    refine V.aload_n dX10_days_40 rfl (i := 0) rfl ?_
    refine V.getR dX10_days_41 rfl flRX10_7 rfl ⟨by decide, by decide⟩ ?_
    refine V.bipush dX10_days_44 (v := 103) (by decide) ?_
    refine V.top (x' := nI 103) (by decide) ?_
    refine V.ialdN dX10_days_46 rfl ⟨by decide, by decide⟩ (by first | assumption | decide | omega) (by decide) ?_
    refine V.top (x' := (nI b)) (hn) ?_
    refine V.ic_ge (tgt := 65) dX10_days_47 (by decide) (fun c47 => ?_) (fun q => absurd ((Int32.le_refl _)) q)
    refine V.iload_n dX10_days_65 rfl (i := 2) rfl ?_
    exact V.ret dX10_days_66 rfl (hQ)
  | succ k ih =>
    intro b hk
    refine V.iload_n dX10_days_39 rfl (i := 3) rfl ?_
    refine V.aload_n dX10_days_40 rfl (i := 0) rfl ?_
    refine V.getR dX10_days_41 rfl flRX10_7 rfl ⟨by decide, by decide⟩ ?_
    refine V.bipush dX10_days_44 (v := 103) (by decide) ?_
    refine V.top (x' := nI 103) (by decide) ?_
    refine V.ialdN dX10_days_46 rfl ⟨by decide, by decide⟩ (by first | assumption | decide | omega) (by decide) ?_
    refine V.top (x' := (nI n)) (hn) ?_
    refine V.ic_ge (tgt := 65) dX10_days_47 (by decide) (fun q => absurd q ((nI_ge (a := b) (b := n) (by omega) (by omega)))) (fun c47 => ?_)
    refine V.iload_n dX10_days_50 rfl (i := 2) rfl ?_
    refine V.aload_n dX10_days_51 rfl (i := 0) rfl ?_
    refine V.iload_n dX10_days_52 rfl (i := 3) rfl ?_
    refine V.iconst dX10_days_53 (v := 2) (by decide) ?_
    refine V.invv (z := mX10_of) (As := [_, _]) dX10_days_54 rfl mlRX10_175 okX10_of npX10_of rfl rfl rfl ⟨by decide, by decide⟩ (Nat.le_of_ble_eq_true rfl) rfl (Nat.le_of_ble_eq_true rfl) (c_of  (by omega) (by decide) ?_)
    show V rS g (d + 1) mX10_days 57 [some (.ref 83), some (.int a), some (.int (sI (fun b => M 84 (108 + 7 * b + 2)) b)), some (.int (nI b))] [.int (M 84 (108 + 7 * b + 2)), .int (sI (fun b => M 84 (108 + 7 * b + 2)) b)] (M) Q
    refine V.iadd dX10_days_57 ?_
    refine V.istore_n dX10_days_58 rfl (i := 2) (by decide) (fun _ h => by cases h; exact Or.inl rfl) rfl ?_
    refine V.iinc dX10_days_59 rfl (v := (nI (b + 1))) (nI_1 _) (by decide) (fun _ h => by cases h; exact Or.inl rfl) rfl ?_
    refine V.goto dX10_days_62 (tgt := 39) (by decide) ?_
    exact ih (b + 1) (by omega)
set_option maxHeartbeats 4000000 in
set_option maxRecDepth 100000 in
theorem c10_days {g : GG} {d : Nat} {M : Mem} {Q : Option Value → Mem → Prop} {a : Int32} {S : List Int32} {n : Nat} (hn : M 84 103 = nI n) (h8 : n ≤ 8) (hL : LwR M 1 S) (hbad : ¬ (1 ≤ a ∧ a ≤ 60) → Q (some (.int (-1000000001))) (put M 87 1 (M 87 1 + 1))) (hok : (1 ≤ a ∧ a ≤ 60) → ∀ N, N ≤ 60 → a = nI N → ∀ M', KpR (zsR M (daysF (fun s r m => vrun S s r m 0 0) (fun b => M 84 (108 + 7 * b + 0)) (fun b => M 84 (108 + 7 * b + 1)) n N (M 84 105, fun b => M 84 (108 + 7 * b + 2)))) M' → Q (some (.int (sI (fun b => M' 84 (108 + 7 * b + 2)) n))) M') : V rS g (d + 63) mX10_days 0 [some (.ref 83), some (.int a), none, none] [] M Q := by
  by_cases h : 1 ≤ a ∧ a ≤ 60
  · obtain ⟨N, hN, rfl⟩ := nI_ex (n := 61) (by omega) (Int32.le_trans (by decide) h.1) (Int32.lt_of_le_of_lt h.2 (by decide))
    refine V.iload_n dX10_days_0 rfl (i := 1) rfl ?_
    refine V.i2l dX10_days_1 ?_
    refine V.lconst dX10_days_2 (v := 1) (by decide) ?_
    refine V.ldc2 dX10_days_3 rfl clRX10_281 ?_
    refine V.invs (z := mX10_in) (As := [_, _, _]) dX10_days_6 rfl mlRX10_66 okX10_in npX10_in rfl (Nat.le_of_ble_eq_true rfl) rfl (Nat.le_of_ble_eq_true rfl) (c_in32 (v := (nI N)) (lo := (1 : Int32)) (hi := (60 : Int32)) (by first | rfl | decide) (by first | rfl | decide)   ?_)
    show V rS g (d + 63) mX10_days 9 [some (.ref 83), some (.int (nI N)), none, none] [.int (b2i ((1 : Int32) ≤ (nI N) ∧ (nI N) ≤ (60 : Int32)))] M Q
    refine V.if_ne (tgt := 18) dX10_days_9 (by decide) (fun c9 => ?_) (fun q => absurd q ((fun z => b2i_0.mp z h)))
    refine V.iconst dX10_days_18 (v := 0) (by decide) ?_
    refine V.istore_n dX10_days_19 rfl (i := 2) (by decide) (fun _ h => by cases h; exact Or.inl rfl) rfl ?_
    refine l_daysR hn h8 hL (show N ≤ 60 by omega) (fun M1 hM1 => ?_) N 0 M (by omega) (by rw [show daysF (fun s r m => vrun S s r m 0 0) (fun b => M 84 (108 + 7 * b + 0)) (fun b => M 84 (108 + 7 * b + 1)) n 0 (M 84 105, fun b => M 84 (108 + 7 * b + 2)) = (M 84 105, fun b => M 84 (108 + 7 * b + 2)) from rfl, zsR_same]; exact KpR.rf)
    refine V.iconst dX10_days_35 (v := 0) (by decide) ?_
    refine V.istore_n dX10_days_36 rfl (i := 2) (by decide) (fun _ h => by cases h; exact Or.inl rfl) rfl ?_
    refine V.iconst dX10_days_37 (v := 0) (by decide) ?_
    refine V.istore_n dX10_days_38 rfl (i := 3) (by decide) (fun _ h => by cases h; exact Or.inl rfl) rfl ?_
    exact l_sumR (d := d + 62) (by rw [hM1.1 84 (by decide) (by decide), zsR_n (by decide) (by decide)]; exact hn) h8 (hok h N (by omega) rfl M1 hM1) n 0 (by omega)
  · skip
    refine V.iload_n dX10_days_0 rfl (i := 1) rfl ?_
    refine V.i2l dX10_days_1 ?_
    refine V.lconst dX10_days_2 (v := 1) (by decide) ?_
    refine V.ldc2 dX10_days_3 rfl clRX10_281 ?_
    refine V.invs (z := mX10_in) (As := [_, _, _]) dX10_days_6 rfl mlRX10_66 okX10_in npX10_in rfl (Nat.le_of_ble_eq_true rfl) rfl (Nat.le_of_ble_eq_true rfl) (c_in32 (v := a) (lo := (1 : Int32)) (hi := (60 : Int32)) (by first | rfl | decide) (by first | rfl | decide)   ?_)
    show V rS g (d + 63) mX10_days 9 [some (.ref 83), some (.int a), none, none] [.int (b2i ((1 : Int32) ≤ a ∧ a ≤ (60 : Int32)))] M Q
    refine V.if_ne (tgt := 18) dX10_days_9 (by decide) (fun c9 => ?_) (fun c9 => ?_)
    · exact absurd (Classical.byContradiction fun z => c9 (b2i_f z)) h
    · refine V.aload_n dX10_days_12 rfl (i := 0) rfl ?_
      refine V.iconst dX10_days_13 (v := 1) (by decide) ?_
      refine V.invv (z := mX10_finds) (As := [_]) dX10_days_14 rfl mlRX10_131 okX10_finds npX10_finds rfl rfl rfl ⟨by decide, by decide⟩ (Nat.le_of_ble_eq_true rfl) rfl (Nat.le_of_ble_eq_true rfl) (c_fnd1   ?_)
      show V rS g (d + 63) mX10_days 17 [some (.ref 83), some (.int a), none, none] [.int (-1000000001 : Int32)] (put M 87 1 (M 87 1 + 1)) Q
      exact V.ret dX10_days_17 rfl (hbad h)
set_option maxHeartbeats 4000000 in
set_option maxRecDepth 100000 in
theorem c10_then {g : GG} {d : Nat} {M : Mem} {Q : Option Value → Mem → Prop} {a b : Int32} {S : List Int32} {n : Nat} (hn : M 84 103 = nI n) (h8 : n ≤ 8) (hL : LwR M 1 S) (hbad : ¬ ((0 ≤ a ∧ a ≤ 60) ∧ 0 ≤ b ∧ b < nI n) → Q (some (.int (-1000000001))) (put M 87 1 (M 87 1 + 1))) (hok : ((0 ≤ a ∧ a ≤ 60) ∧ 0 ≤ b ∧ b < nI n) → ∀ N x, N ≤ 60 → x < n → a = nI N → b = nI x → ∀ M', KpX M M' → Q (some (.int ((daysF (fun s r m => vrun S s r m 0 0) (fun b => M 84 (108 + 7 * b + 0)) (fun b => M 84 (108 + 7 * b + 1)) n N (M 84 105, fun b => M 84 (108 + 7 * b + 2))).2 x))) M') : V rS g (d + 63) mX10_then 0 [some (.ref 83), some (.int a), some (.int b), none] [] M Q := by
  by_cases h : ((0 ≤ a ∧ a ≤ 60) ∧ 0 ≤ b ∧ b < nI n)
  · obtain ⟨N, hN, rfl⟩ := nI_ex (n := 61) (by omega) h.1.1 (Int32.lt_of_le_of_lt h.1.2 (by decide))
    obtain ⟨x, hx, rfl⟩ := nI_ex (n := n) (by omega) h.2.1 h.2.2
    have e84 : cpM M 84 85 360 84 = M 84 := by unfold cpM; rw [um_n (by decide)]
    have hDQ : daysF (fun s r m => vrun S s r m 0 0) (fun b => cpM M 84 85 360 84 (108 + 7 * b + 0)) (fun b => cpM M 84 85 360 84 (108 + 7 * b + 1)) n N (cpM M 84 85 360 84 105, fun b => cpM M 84 85 360 84 (108 + 7 * b + 2)) = (daysF (fun s r m => vrun S s r m 0 0) (fun b => M 84 (108 + 7 * b + 0)) (fun b => M 84 (108 + 7 * b + 1)) n N (M 84 105, fun b => M 84 (108 + 7 * b + 2))) := by rw [e84]
    refine V.iload_n dX10_then_0 rfl (i := 1) rfl ?_
    refine V.i2l dX10_then_1 ?_
    refine V.lconst dX10_then_2 (v := 0) (by decide) ?_
    refine V.ldc2 dX10_then_3 rfl clRX10_281 ?_
    refine V.invs (z := mX10_in) (As := [_, _, _]) dX10_then_6 rfl mlRX10_66 okX10_in npX10_in rfl (Nat.le_of_ble_eq_true rfl) rfl (Nat.le_of_ble_eq_true rfl) (c_in32 (v := (nI N)) (lo := (0 : Int32)) (hi := (60 : Int32)) (by first | rfl | decide) (by first | rfl | decide)   ?_)
    show V rS g (d + 63) mX10_then 9 [some (.ref 83), some (.int (nI N)), some (.int (nI x)), none] [.int (b2i ((0 : Int32) ≤ (nI N) ∧ (nI N) ≤ (60 : Int32)))] M Q
    refine V.if_eq (tgt := 20) dX10_then_9 (by decide) (fun q => absurd q ((fun z => b2i_0.mp z h.1))) (fun c9 => ?_)
    refine V.aload_n dX10_then_12 rfl (i := 0) rfl ?_
    refine V.iload_n dX10_then_13 rfl (i := 2) rfl ?_
    refine V.invv (z := mX10_isBell) (As := [_]) dX10_then_14 rfl mlRX10_170 okX10_isBell npX10_isBell rfl rfl rfl ⟨by decide, by decide⟩ (Nat.le_of_ble_eq_true rfl) rfl (Nat.le_of_ble_eq_true rfl) (c_bellR hn h8 ?_)
    show V rS g (d + 63) mX10_then 17 [some (.ref 83), some (.int (nI N)), some (.int (nI x)), none] [.int (b2i (0 ≤ nI x ∧ nI x < nI n))] M Q
    refine V.if_ne (tgt := 26) dX10_then_17 (by decide) (fun c17 => ?_) (fun q => absurd q ((fun z => b2i_0.mp z h.2)))
    refine V.aload_n dX10_then_26 rfl (i := 0) rfl ?_
    refine V.getR dX10_then_27 rfl flRX10_7 rfl ⟨by decide, by decide⟩ ?_
    refine V.aload_n dX10_then_30 rfl (i := 0) rfl ?_
    refine V.getR dX10_then_31 rfl flRX10_13 rfl ⟨by decide, by decide⟩ ?_
    refine V.invs (z := mX10_copies) (As := [_, _]) dX10_then_34 rfl mlRX10_286 okX10_copies npX10_copies rfl (Nat.le_of_ble_eq_true rfl) rfl (Nat.le_of_ble_eq_true rfl) (c_cp84_85 ?_)
    show V rS g (d + 63) mX10_then 37 [some (.ref 83), some (.int (nI N)), some (.int (nI x)), none] [] (cpM M 84 85 360) Q
    refine V.iconst dX10_then_37 (v := 0) (by decide) ?_
    refine V.istore_n dX10_then_38 rfl (i := 3) (by decide) (fun _ h => by cases h; exact Or.inl rfl) rfl ?_
    refine l_thenR (M0 := cpM M 84 85 360) (by rw [e84]; exact hn) h8 (hL.eq e84) (show N ≤ 60 by omega) (fun M1 hM1 => ?_) N 0 _ (by omega) (by rw [show daysF (fun s r m => vrun S s r m 0 0) (fun b => cpM M 84 85 360 84 (108 + 7 * b + 0)) (fun b => cpM M 84 85 360 84 (108 + 7 * b + 1)) n 0 (cpM M 84 85 360 84 105, fun b => cpM M 84 85 360 84 (108 + 7 * b + 2)) = (cpM M 84 85 360 84 105, fun b => cpM M 84 85 360 84 (108 + 7 * b + 2)) from rfl, zsR_same]; exact KpR.rf)
    rw [hDQ] at hM1
    have hX : KpX M (cpM M1 85 84 360) := by
      refine ⟨fun c hc => ?_, ?_, ?_⟩
      · by_cases h84 : c = 84
        · subst h84
          funext i
          unfold cpM
          rw [um_s]
          by_cases hi : i < 360
          · rw [if_pos hi, hM1.1 85 (by decide) (by decide), zsR_o (by decide)]
            unfold cpM
            rw [um_s, if_pos hi]
          · rw [if_neg hi, hM1.1 84 (by decide) (by decide), zsR_n (by omega) (by omega), e84]
        · unfold cpM
          rw [um_n h84, hM1.1 c (by omega) (by omega), zsR_o h84]
          unfold cpM
          rw [um_n (by omega)]
      · unfold cpM
        rw [um_n (by decide), hM1.2 3 (by omega), zsR_o (by decide)]
        unfold cpM
        rw [um_n (by decide)]
      · unfold cpM
        rw [um_n (by decide), hM1.2 22 (by omega), zsR_o (by decide)]
        unfold cpM
        rw [um_n (by decide)]
    refine V.aload_n dX10_then_54 rfl (i := 0) rfl ?_
    refine V.iload_n dX10_then_55 rfl (i := 2) rfl ?_
    refine V.iconst dX10_then_56 (v := 2) (by decide) ?_
    refine V.invv (z := mX10_of) (As := [_, _]) dX10_then_57 rfl mlRX10_175 okX10_of npX10_of rfl rfl rfl ⟨by decide, by decide⟩ (Nat.le_of_ble_eq_true rfl) rfl (Nat.le_of_ble_eq_true rfl) (c_of  (by omega) (by decide) ?_)
    show V rS g (d + 63) mX10_then 60 [some (.ref 83), some (.int (nI N)), some (.int (nI x)), none] [.int (M1 84 (108 + 7 * x + 2))] (M1) Q
    refine V.istore_n dX10_then_60 rfl (i := 3) (by decide) (fun _ h => by cases h; exact Or.inl rfl) rfl ?_
    refine V.aload_n dX10_then_61 rfl (i := 0) rfl ?_
    refine V.getR dX10_then_62 rfl flRX10_13 rfl ⟨by decide, by decide⟩ ?_
    refine V.aload_n dX10_then_65 rfl (i := 0) rfl ?_
    refine V.getR dX10_then_66 rfl flRX10_7 rfl ⟨by decide, by decide⟩ ?_
    refine V.invs (z := mX10_copies) (As := [_, _]) dX10_then_69 rfl mlRX10_286 okX10_copies npX10_copies rfl (Nat.le_of_ble_eq_true rfl) rfl (Nat.le_of_ble_eq_true rfl) (c_cp85_84 ?_)
    show V rS g (d + 63) mX10_then 72 [some (.ref 83), some (.int (nI N)), some (.int (nI x)), some (.int (M1 84 (108 + 7 * x + 2)))] [] (cpM M1 85 84 360) Q
    refine V.iload_n dX10_then_72 rfl (i := 3) rfl ?_
    exact V.ret dX10_then_73 rfl (Qi (hok h N x (by omega) hx rfl rfl _ hX) (by rw [hM1.1 84 (by decide) (by decide), zsR_s (by omega)]))
  · skip
    refine V.iload_n dX10_then_0 rfl (i := 1) rfl ?_
    refine V.i2l dX10_then_1 ?_
    refine V.lconst dX10_then_2 (v := 0) (by decide) ?_
    refine V.ldc2 dX10_then_3 rfl clRX10_281 ?_
    refine V.invs (z := mX10_in) (As := [_, _, _]) dX10_then_6 rfl mlRX10_66 okX10_in npX10_in rfl (Nat.le_of_ble_eq_true rfl) rfl (Nat.le_of_ble_eq_true rfl) (c_in32 (v := a) (lo := (0 : Int32)) (hi := (60 : Int32)) (by first | rfl | decide) (by first | rfl | decide)   ?_)
    show V rS g (d + 63) mX10_then 9 [some (.ref 83), some (.int a), some (.int b), none] [.int (b2i ((0 : Int32) ≤ a ∧ a ≤ (60 : Int32)))] M Q
    refine V.if_eq (tgt := 20) dX10_then_9 (by decide) (fun c9 => ?_) (fun c9 => ?_)
    · refine V.aload_n dX10_then_20 rfl (i := 0) rfl ?_
      refine V.iconst dX10_then_21 (v := 1) (by decide) ?_
      refine V.invv (z := mX10_finds) (As := [_]) dX10_then_22 rfl mlRX10_131 okX10_finds npX10_finds rfl rfl rfl ⟨by decide, by decide⟩ (Nat.le_of_ble_eq_true rfl) rfl (Nat.le_of_ble_eq_true rfl) (c_fnd1   ?_)
      show V rS g (d + 63) mX10_then 25 [some (.ref 83), some (.int a), some (.int b), none] [.int (-1000000001 : Int32)] (put M 87 1 (M 87 1 + 1)) Q
      exact V.ret dX10_then_25 rfl (hbad h)
    · refine V.aload_n dX10_then_12 rfl (i := 0) rfl ?_
      refine V.iload_n dX10_then_13 rfl (i := 2) rfl ?_
      refine V.invv (z := mX10_isBell) (As := [_]) dX10_then_14 rfl mlRX10_170 okX10_isBell npX10_isBell rfl rfl rfl ⟨by decide, by decide⟩ (Nat.le_of_ble_eq_true rfl) rfl (Nat.le_of_ble_eq_true rfl) (c_bellR hn h8 ?_)
      show V rS g (d + 63) mX10_then 17 [some (.ref 83), some (.int a), some (.int b), none] [.int (b2i (0 ≤ b ∧ b < nI n))] M Q
      refine V.if_ne (tgt := 26) dX10_then_17 (by decide) (fun c17 => ?_) (fun c17 => ?_)
      · exact absurd ⟨(Classical.byContradiction fun z => c9 (b2i_f z)), (Classical.byContradiction fun z => c17 (b2i_f z))⟩ h
      · refine V.aload_n dX10_then_20 rfl (i := 0) rfl ?_
        refine V.iconst dX10_then_21 (v := 1) (by decide) ?_
        refine V.invv (z := mX10_finds) (As := [_]) dX10_then_22 rfl mlRX10_131 okX10_finds npX10_finds rfl rfl rfl ⟨by decide, by decide⟩ (Nat.le_of_ble_eq_true rfl) rfl (Nat.le_of_ble_eq_true rfl) (c_fnd1   ?_)
        show V rS g (d + 63) mX10_then 25 [some (.ref 83), some (.int a), some (.int b), none] [.int (-1000000001 : Int32)] (put M 87 1 (M 87 1 + 1)) Q
        exact V.ret dX10_then_25 rfl (hbad h)

