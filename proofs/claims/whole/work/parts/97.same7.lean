/-! ===== alike: ears, feed, text ===== -/
theorem b32 : ∀ j, j < 32 → (255#32).getLsbD j = decide (j < 8) := by decide
theorem b64 : ∀ j, j < 32 → (255#64).getLsbD j = decide (j < 8) := by decide
theorem byt_bv (b : BitVec 64) (k : Nat) (hk : k ≤ 56) : BitVec.signExtend 32 (b >>> k) &&& 255#32 = BitVec.signExtend 32 (b.sshiftRight k &&& 255#64) := by
  apply BitVec.eq_of_getLsbD_eq
  intro j hj
  have hj64 : j < 64 := by omega
  rw [BitVec.getLsbD_and, BitVec.getLsbD_signExtend, BitVec.getLsbD_signExtend, if_pos hj64, if_pos hj64, BitVec.getLsbD_and, b32 j hj, b64 j hj, BitVec.getLsbD_ushiftRight, BitVec.getLsbD_sshiftRight]
  by_cases h8 : j < 8
  · have h1 : k + j < 64 := by omega
    have h2 : ¬ 64 ≤ j := by omega
    simp [h8, h1, h2, hj]
  · simp [h8]
theorem byt_eq (w : Int64) : ∀ i, i < 8 → bytF w i = bytR w i := by
  intro i hi
  have c : i = 0 ∨ i = 1 ∨ i = 2 ∨ i = 3 ∨ i = 4 ∨ i = 5 ∨ i = 6 ∨ i = 7 := by omega
  rcases c with rfl | rfl | rfl | rfl | rfl | rfl | rfl | rfl
  · have e1 : (nI (8 * 0)).toInt64.toUInt64 &&& Int64.toUInt64 63 = (0 : UInt64) := by decide
    have e2 : (nI (8 * 0)).toInt64 &&& 63 = (0 : Int64) := by decide
    apply Int32.toBitVec_inj.mp
    unfold bytF bytR
    rw [e1, e2]
    exact byt_bv w.toBitVec 0 (by decide)
  · have e1 : (nI (8 * 1)).toInt64.toUInt64 &&& Int64.toUInt64 63 = (8 : UInt64) := by decide
    have e2 : (nI (8 * 1)).toInt64 &&& 63 = (8 : Int64) := by decide
    apply Int32.toBitVec_inj.mp
    unfold bytF bytR
    rw [e1, e2]
    exact byt_bv w.toBitVec 8 (by decide)
  · have e1 : (nI (8 * 2)).toInt64.toUInt64 &&& Int64.toUInt64 63 = (16 : UInt64) := by decide
    have e2 : (nI (8 * 2)).toInt64 &&& 63 = (16 : Int64) := by decide
    apply Int32.toBitVec_inj.mp
    unfold bytF bytR
    rw [e1, e2]
    exact byt_bv w.toBitVec 16 (by decide)
  · have e1 : (nI (8 * 3)).toInt64.toUInt64 &&& Int64.toUInt64 63 = (24 : UInt64) := by decide
    have e2 : (nI (8 * 3)).toInt64 &&& 63 = (24 : Int64) := by decide
    apply Int32.toBitVec_inj.mp
    unfold bytF bytR
    rw [e1, e2]
    exact byt_bv w.toBitVec 24 (by decide)
  · have e1 : (nI (8 * 4)).toInt64.toUInt64 &&& Int64.toUInt64 63 = (32 : UInt64) := by decide
    have e2 : (nI (8 * 4)).toInt64 &&& 63 = (32 : Int64) := by decide
    apply Int32.toBitVec_inj.mp
    unfold bytF bytR
    rw [e1, e2]
    exact byt_bv w.toBitVec 32 (by decide)
  · have e1 : (nI (8 * 5)).toInt64.toUInt64 &&& Int64.toUInt64 63 = (40 : UInt64) := by decide
    have e2 : (nI (8 * 5)).toInt64 &&& 63 = (40 : Int64) := by decide
    apply Int32.toBitVec_inj.mp
    unfold bytF bytR
    rw [e1, e2]
    exact byt_bv w.toBitVec 40 (by decide)
  · have e1 : (nI (8 * 6)).toInt64.toUInt64 &&& Int64.toUInt64 63 = (48 : UInt64) := by decide
    have e2 : (nI (8 * 6)).toInt64 &&& 63 = (48 : Int64) := by decide
    apply Int32.toBitVec_inj.mp
    unfold bytF bytR
    rw [e1, e2]
    exact byt_bv w.toBitVec 48 (by decide)
  · have e1 : (nI (8 * 7)).toInt64.toUInt64 &&& Int64.toUInt64 63 = (56 : UInt64) := by decide
    have e2 : (nI (8 * 7)).toInt64 &&& 63 = (56 : Int64) := by decide
    apply Int32.toBitVec_inj.mp
    unfold bytF bytR
    rw [e1, e2]
    exact byt_bv w.toBitVec 56 (by decide)
theorem isB_and (x : Int32) : isB (x &&& 255) := by
  refine ⟨x.toBitVec.toNat &&& 255, Nat.lt_of_le_of_lt Nat.and_le_right (by decide), Int32.toBitVec_inj.mp ?_⟩
  apply BitVec.eq_of_toNat_eq
  have e : (x &&& 255).toBitVec.toNat = x.toBitVec.toNat &&& 255 := by rw [Int32.toBitVec_and, BitVec.toNat_and]; rfl
  rw [e]
  have h2 : x.toBitVec.toNat &&& 255 ≤ 255 := Nat.and_le_right
  exact (Nat.mod_eq_of_lt (by omega)).symm
theorem isB_byt (w : Int64) (i : Nat) : isB (bytF w i) := isB_and _

set_option maxHeartbeats 4000000 in
set_option maxRecDepth 100000 in
theorem s_feed {g : GG} {d : Nat} {u : Int64} {a : Int32} : Same g (d + 2) (d + 2) mX9_feed mX10_feed [some (.ref 0), some (.long u), none, some (.int a), none] [some (.ref 83), some (.long u), none, some (.int a), none] := by
  rintro M1 M2 ⟨n, ne, t, wt, S0, S1, h⟩
  have inj : ∀ {N N' : Nat}, N ≤ 8 → N' ≤ 8 → a = nI N → a = nI N' → N' = N := fun h1 h2 e1 e2 => nI_inj2 (e2.symm.trans e1) (by omega) (by omega)
  have rgN : ∀ N, 1 ≤ N → N ≤ 8 → a = nI N → (1 ≤ a ∧ a ≤ 8) := fun N h1 h2 e => by subst e; exact ⟨nI_le (a := 1) h1 (by omega), nI_le (b := 8) h2 (by omega)⟩
  refine c9_feed h.tp.1 h.tp.2.2.1 (fun hn => c10_feed h.tp.2.1 h.tp.2.2.1 (fun _ => h.er (by decide) (by decide)) (fun N h1 h2 e _ => absurd (rgN N h1 h2 e) hn) (fun N h1 h2 e _ => absurd (rgN N h1 h2 e) hn)) (fun N h1 h2 e hf => c10_feed h.tp.2.1 h.tp.2.2.1 (fun hn => absurd (rgN N h1 h2 e) hn) (fun _ _ _ _ _ => h.er (by decide) (by decide)) (fun N' h1' h2' e' hf' => absurd hf' (by have := inj h2 h2' e e'; omega))) (fun N h1 h2 e hf => c10_feed h.tp.2.1 h.tp.2.2.1 (fun hn => absurd (rgN N h1 h2 e) hn) (fun N' h1' h2' e' hf' => absurd hf' (by have := inj h2 h2' e e'; omega)) (fun N' h1' h2' e' hf' => ?_))
  obtain rfl := inj h2 h2' e e'
  refine ⟨_, rfl, rfl, (show Rel (tapM M1 (bytF u) t N') (rowR M2 303 106 (bytR u) t N') n ne (t + N') wt S0 S1 from h.cur (fun c hc hq => tapM_o (by omega) (by omega)) (fun c hc => rowR_o hc) ?_).e⟩
  obtain ⟨a0, a1, a2, a3, a4, a5, a6, a7, a8⟩ := h.1
  have g1 : ∀ c j, (c ≠ 1 ∧ c ≠ 13) → tapM M1 (bytF u) t N' c j = M1 c j := fun c j hc => by rw [tapM_o hc.1 hc.2]
  have gv : ∀ j, j ≠ 9 → tapM M1 (bytF u) t N' 1 j = M1 1 j := fun j hj => tapM_1 hj
  have g2 : ∀ j, (j ≠ 106 ∧ j < 303 + t) → rowR M2 303 106 (bytR u) t N' 84 j = M2 84 j := fun j hj => rowR_j hj.1 hj.2
  refine ⟨a0.eq (gv 2 (by decide)) (gv 4 (by decide)) (g2 _ (by omega)) (g2 _ (by omega)), a1.eq (gv 5 (by decide)) (gv 6 (by decide)) (gv 7 (by decide)) (gv 12 (by decide)) (g2 _ (by omega)) (g2 _ (by omega)) (g2 _ (by omega)) (g2 _ (by omega)), ⟨tapM_n, rowR_n, hf, fun i hi => ?_⟩, a3.eq (gv 14 (by decide)) (fun i _ => g1 16 i (by decide)) (g2 _ (by omega)) (fun i _ => g2 _ (by omega)), a4.eq (fun i _ => g1 10 i (by decide)) (fun i _ => g2 _ (by omega)), a5.eq a0.1.2.2 (fun b hb k _ => g1 _ k (by omega)) (fun b _ k _ => g2 _ (by omega)), a6.eq a0.2.2.2 (fun i _ => g1 12 i (by decide)) (fun i _ => g2 _ (by omega)), a7.eq (g1 14 _ (by decide)) (fun i _ => g1 68 i (by decide)) (g2 _ (by omega)) (fun i _ => g2 _ (by omega)), a8.eq (g1 15 _ (by decide)) (fun i _ => g1 71 i (by decide)) (g2 _ (by omega)) (fun i _ => g2 _ (by omega))⟩
  have e1 : tapM M1 (bytF u) t N' 13 i = (if t ≤ i ∧ i < t + N' then bytF u (i - t) else M1 13 i) := by unfold tapM; rw [um_s]
  have e2 : rowR M2 303 106 (bytR u) t N' 84 (303 + i) = (if t ≤ i ∧ i < t + N' then bytR u (i - t) else M2 84 (303 + i)) := by
    unfold rowR
    rw [um_s, if_neg (by omega)]
    by_cases c : t ≤ i ∧ i < t + N'
    · rw [if_pos c, if_pos (by omega), show 303 + i - 303 - t = i - t by omega]
    · rw [if_neg c, if_neg (by omega)]
  rw [e1, e2]
  by_cases c : t ≤ i ∧ i < t + N'
  · rw [if_pos c, if_pos c]; exact ⟨byt_eq u _ (by omega), isB_byt u _⟩
  · rw [if_neg c, if_neg c]; exact a2.2.2.2 i (by omega)
set_option maxHeartbeats 4000000 in
set_option maxRecDepth 100000 in
theorem s_ears {g : GG} {d : Nat} {a : Int32} : Same g (d + 2) (d + 2) mX9_ears mX10_ears [some (.ref 0), some (.int a), none, none, none] [some (.ref 83), some (.int a), none] := by
  rintro M1 M2 ⟨n, ne, t, wt, S0, S1, h⟩
  have h10 := h.hne.2.2
  have sh := h.2.2.2.1
  have hsz1 : ∀ s, s < 4 → ∃ z, z ≤ 40 ∧ M1 63 s = nI z := fun s hs => by rw [(sh s hs).2.1]; exact (sh s hs).2.2.1
  have hsz2 : ∀ s, s < 4 → ∃ z, z ≤ 40 ∧ M2 99 s = nI z := fun s hs => (sh s hs).2.2.1
  have inj : ∀ {s s' : Nat}, s < 4 → s' < 4 → a = nI s → a = nI s' → s' = s := fun h1 h2 e1 e2 => nI_inj2 (e2.symm.trans e1) (by omega) (by omega)
  have rgN : ∀ s, s < 4 → a = nI s → (0 ≤ a ∧ a ≤ 3) := fun s h1 e => by subst e; exact ⟨nI_pos' (by omega), nI_le (b := 3) (by omega) (by omega)⟩
  refine c9_ears h.hne.1 h10 hsz1 (fun hn => c10_ears h.hne.2.1 h10 hsz2 (fun _ => h.er (by decide) (by decide)) (fun s hs e _ => absurd (rgN s hs e) hn) (fun s z hs e _ _ _ => absurd (rgN s hs e) hn)) (fun s hs e h0 => c10_ears h.hne.2.1 h10 hsz2 (fun hn => absurd (rgN s hs e) hn) (fun _ _ _ _ => h.er (by decide) (by decide)) (fun s' z hs' e' h0' _ _ => absurd (by rw [← (sh s' hs').1, inj hs hs' e e']; exact h0) h0')) (fun s z hs e h0 hz hz2 => c10_ears h.hne.2.1 h10 hsz2 (fun hn => absurd (rgN s hs e) hn) (fun s' hs' e' h0' => absurd (by rw [← inj hs hs' e e', (sh s' hs').1]; exact h0') h0) (fun s' z' hs' e' h0' hz' hz2' => ?_))
  obtain rfl := inj hs hs' e e'
  obtain rfl : z' = z := by
    rw [← (sh s' hs').2.1] at hz2'
    exact nI_inj2 (hz2'.symm.trans hz2) (by omega) (by omega)
  have hv := (sh s' hs').2.2.2.2
  have hfe : fst (fun i => !spt (M1 (64 + s') i)) (min z' (10 - ne)) = fst (fun i => !spt (M2 100 (40 * s' + i))) (min z' (10 - ne)) := fst_cong (fun i hi => by rw [(hv i (by omega)).1])
  have hfl := fst_le (fun i => !spt (M2 100 (40 * s' + i))) (min z' (10 - ne))
  have hbf : ∀ i, i < fst (fun i => !spt (M2 100 (40 * s' + i))) (min z' (10 - ne)) → spt (M1 (64 + s') i) = true := fun i hi => by
    have hq := fst_no (fun i => !spt (M2 100 (40 * s' + i))) (min z' (10 - ne)) i hi
    rw [(hv i (by omega)).1]
    revert hq
    cases spt (M2 100 (40 * s' + i)) <;> simp
  rw [hfe]
  generalize hK : fst (fun i => !spt (M2 100 (40 * s' + i))) (min z' (10 - ne)) = K at hfl hbf
  refine ⟨_, rfl, rfl, (show Rel (earM M1 (M1 (64 + s')) ne K) (rowR M2 171 104 (fun i => M2 100 (40 * s' + i)) ne K) n (ne + K) t wt S0 S1 from h.cur (fun c hc hq => earM_o (by omega) (by omega)) (fun c hc => rowR_o hc) ?_).e⟩
  obtain ⟨a0, a1, a2, a3, a4, a5, a6, a7, a8⟩ := h.1
  have g1 : ∀ c j, (c ≠ 1 ∧ c ≠ 12) → earM M1 (M1 (64 + s')) ne K c j = M1 c j := fun c j hc => by rw [earM_o hc.1 hc.2]
  have gv : ∀ j, j ≠ 4 → earM M1 (M1 (64 + s')) ne K 1 j = M1 1 j := fun j hj => earM_1 hj
  have g2 : ∀ j, (j ≠ 104 ∧ ¬ (171 + ne ≤ j ∧ j < 171 + ne + K)) → rowR M2 171 104 (fun i => M2 100 (40 * s' + i)) ne K 84 j = M2 84 j := fun j hj => by unfold rowR; rw [um_s, if_neg hj.1, if_neg hj.2]
  have e1 : ∀ e, earM M1 (M1 (64 + s')) ne K 12 e = (if ne ≤ e ∧ e < ne + K then M1 (64 + s') (e - ne) else M1 12 e) := fun e => by unfold earM; rw [um_s]
  refine ⟨⟨by rw [gv 2 (by decide), g2 103 (by omega)]; exact a0.1, earM_n, rowR_n, by omega⟩, a1.eq (gv 5 (by decide)) (gv 6 (by decide)) (gv 7 (by decide)) (gv 12 (by decide)) (g2 _ (by omega)) (g2 _ (by omega)) (g2 _ (by omega)) (g2 _ (by omega)), a2.eq (gv 9 (by decide)) (fun i _ => g1 13 i (by decide)) (g2 _ (by omega)) (fun i _ => g2 _ (by omega)), a3.eq (gv 14 (by decide)) (fun i _ => g1 16 i (by decide)) (g2 _ (by omega)) (fun i _ => g2 _ (by omega)), a4.eq (fun i _ => g1 10 i (by decide)) (fun i _ => g2 _ (by omega)), a5.eq a0.1.2.2 (fun b hb k _ => g1 _ k (by omega)) (fun b _ k _ => g2 _ (by omega)), ⟨fun e he => ?_, fun e he => ?_⟩, a7.eq (g1 14 _ (by decide)) (fun i _ => g1 68 i (by decide)) (g2 _ (by omega)) (fun i _ => g2 _ (by omega)), a8.eq (g1 15 _ (by decide)) (fun i _ => g1 71 i (by decide)) (g2 _ (by omega)) (fun i _ => g2 _ (by omega))⟩
  · have e2 : rowR M2 171 104 (fun i => M2 100 (40 * s' + i)) ne K 84 (171 + e) = (if ne ≤ e ∧ e < ne + K then M2 100 (40 * s' + (e - ne)) else M2 84 (171 + e)) := by
      unfold rowR
      rw [um_s, if_neg (by omega)]
      by_cases c : ne ≤ e ∧ e < ne + K
      · rw [if_pos c, if_pos (by omega), show 171 + e - 171 - ne = e - ne by omega]
      · rw [if_neg c, if_neg (by omega)]
    rw [e1, e2]
    by_cases c : ne ≤ e ∧ e < ne + K
    · rw [if_pos c, if_pos c]; exact (hv _ (by omega)).2 (hbf _ (by omega))
    · rw [if_neg c, if_neg c]; exact a6.1 e (by omega)
  · rw [e1]
    by_cases c : ne ≤ e ∧ e < ne + K
    · rw [if_pos c]; exact spt_iff.mp (hbf _ (by omega))
    · rw [if_neg c]; exact a6.2 e he

