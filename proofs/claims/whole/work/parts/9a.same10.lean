/-! ===== alike: days, then ===== -/
def ZA (q q' : ZS) (n : Nat) : Prop := q.1 = q'.1 ∧ ∀ b, b < n → q.2 b = q'.2 b
section RZ
variable {G : Int32 → Int32 → Int32 → Int32} {K W K' W' : Nat → Int32} {N : Nat}
theorem bst_ag {q q' : ZS} (hK : ∀ b, b < N → K b = K' b) (hW : ∀ b, b < N → W b = W' b) {b : Nat} (hb : b < N) (h : ZA q q' N) : ZA (bst G K W b q) (bst G K' W' b q') N := by
  unfold bst
  rw [← hK b hb]
  by_cases c : isOfB (K b) 3 = true
  · rw [if_pos c, if_pos c]
    refine ⟨by rw [h.1], fun i hi => ?_⟩
    show (if i = b then _ else _) = (if i = b then _ else _)
    by_cases e : i = b
    · rw [if_pos e, if_pos e, h.1, h.2 b hb, hW b hb]
    · rw [if_neg e, if_neg e, h.2 i hi]
  · rw [if_neg c, if_neg c]
    exact h
theorem dayF_ag (hK : ∀ b, b < N → K b = K' b) (hW : ∀ b, b < N → W b = W' b) {q q' : ZS} (h : ZA q q' N) : ∀ n, n ≤ N → ZA (dayF G K W n q) (dayF G K' W' n q') N
  | 0, _ => h
  | n + 1, hn => bst_ag hK hW (by omega) (dayF_ag hK hW h n (by omega))
theorem daysF_ag (hK : ∀ b, b < N → K b = K' b) (hW : ∀ b, b < N → W b = W' b) {q q' : ZS} (h : ZA q q' N) : ∀ t, ZA (daysF G K W N t q) (daysF G K' W' N t q') N
  | 0 => h
  | t + 1 => dayF_ag hK hW (daysF_ag hK hW h t) N (Nat.le_refl _)
theorem heldF_rg (x : Int32) : rg 0 99 (heldF x 0 99) := by
  unfold heldF
  have h : (if x < 99 then x else 99) ≤ (99 : Int32) := by
    by_cases c : x < 99
    · rw [if_pos c]; exact Int32.le_of_lt c
    · rw [if_neg c]; exact Int32.le_refl _
  by_cases c : 0 < (if x < 99 then x else 99)
  · rw [if_pos c]; exact ⟨Int32.le_of_lt c, h⟩
  · rw [if_neg c]; exact ⟨by decide, by decide⟩
theorem bst_rg {q : ZS} (h : ∀ i, i < 8 → rg 0 99 (q.2 i)) {b : Nat} : ∀ i, i < 8 → rg 0 99 ((bst G K W b q).2 i) := by
  intro i hi
  unfold bst
  by_cases c : isOfB (K b) 3 = true
  · rw [if_pos c]
    show rg 0 99 (if i = b then _ else _)
    by_cases e : i = b
    · rw [if_pos e]; exact heldF_rg _
    · rw [if_neg e]; exact h i hi
  · rw [if_neg c]; exact h i hi
theorem dayF_rg {q : ZS} (h : ∀ i, i < 8 → rg 0 99 (q.2 i)) : ∀ n, ∀ i, i < 8 → rg 0 99 ((dayF G K W n q).2 i)
  | 0 => h
  | n + 1 => bst_rg (dayF_rg h n)
theorem daysF_rg {q : ZS} (h : ∀ i, i < 8 → rg 0 99 (q.2 i)) : ∀ t, ∀ i, i < 8 → rg 0 99 ((daysF G K W N t q).2 i)
  | 0 => h
  | t + 1 => dayF_rg (daysF_rg h t) N
end RZ
theorem Rel.za {M1 M2 : Mem} {n ne t w : Nat} {S0 S1 : List Int32} (h : Rel M1 M2 n ne t w S0 S1) (N : Nat) : ZA (daysF (fun a r m => lawG M1 a r m 0 0) (fun b => M1 (30 + b) 0) (fun b => M1 (30 + b) 1) n N (M1 1 12, fun b => M1 (30 + b) 2)) (daysF (fun s r m => vrun S1 s r m 0 0) (fun b => M2 84 (108 + 7 * b + 0)) (fun b => M2 84 (108 + 7 * b + 1)) n N (M2 84 105, fun b => M2 84 (108 + 7 * b + 2))) n := by
  rw [show (fun a r m => lawG M1 a r m 0 0) = (fun s r m => vrun S1 s r m 0 0) from funext fun a => funext fun r => funext fun m => h.l1.g a r m 0 0]
  exact daysF_ag (fun b hb => h.bl.at hb (by decide)) (fun b hb => h.bl.at hb (by decide)) ⟨h.wn.2.2.2, fun b hb => h.bl.at hb (by decide)⟩ N

set_option maxHeartbeats 4000000 in
set_option maxRecDepth 100000 in
theorem s_then {g : GG} {d : Nat} {a v : Int32} : Same g (d + 5) (d + 63) mX9_then mX10_then [some (.ref 0), some (.int a), some (.int v)] [some (.ref 83), some (.int a), some (.int v), none] := by
  rintro M1 M2 ⟨n, ne, t, wt, S0, S1, h⟩
  have h8 := h.hn.2.2
  have ok : ((0 ≤ a ∧ a ≤ 60) ∧ 0 ≤ v ∧ v < M1 1 2 ∧ v < 8) ↔ ((0 ≤ a ∧ a ≤ 60) ∧ 0 ≤ v ∧ v < nI n) := and_congr_right fun _ => okB h.hn.1 h8
  refine c9_then h.hn.1 h8 (fun b hb => (h.bl.2 b hb).1) h.l1.sz (fun hn => c10_then h.hn.2.1 h8 h.l1.1 (fun _ => h.er (by decide) (by decide)) (fun hp => absurd (ok.mpr hp) hn)) (fun hp N b hN hb ea ev M1' k1 => c10_then h.hn.2.1 h8 h.l1.1 (fun hn => absurd (ok.mp hp) hn) (fun _ N' b' hN' hb' ea' ev' M2' k2 => ?_))
  obtain rfl : N' = N := nI_inj2 (ea'.symm.trans ea) (by omega) (by omega)
  obtain rfl : b' = b := nI_inj2 (ev'.symm.trans ev) (by omega) (by omega)
  exact ⟨_, rfl, congrArg (fun q => some (Value.int q)) ((h.za N').2 b' hb').symm, ((h.keepC (KpC.of k1 (by decide))).keepR k2).e⟩
set_option maxHeartbeats 4000000 in
set_option maxRecDepth 100000 in
theorem s_days {g : GG} {d : Nat} {a : Int32} : Same g (d + 4) (d + 63) mX9_days mX10_days [some (.ref 0), some (.int a)] [some (.ref 83), some (.int a), none, none] := by
  rintro M1 M2 ⟨n, ne, t, wt, S0, S1, h⟩
  have h8 := h.hn.2.2
  refine c9_days h.hn.1 h8 (fun b hb => (h.bl.2 b hb).1) h.l1.sz (fun hn => c10_days h.hn.2.1 h8 h.l1.1 (fun _ => h.er (by decide) (by decide)) (fun hp => absurd hp hn)) (fun hp N hN ea M1' k1 => c10_days h.hn.2.1 h8 h.l1.1 (fun hn => absurd hp hn) (fun _ N' hN' ea' M2' k2 => ?_))
  obtain rfl : N' = N := nI_inj2 (ea'.symm.trans ea) (by omega) (by omega)
  have za := h.za N'
  have zr := daysF_rg (G := fun a r m => lawG M1 a r m 0 0) (K := fun b => M1 (30 + b) 0) (W := fun b => M1 (30 + b) 1) (N := n) (q := (M1 1 12, fun b => M1 (30 + b) 2)) (fun i hi => (h.bl.2 i hi).2.2.1) N'
  generalize (daysF (fun a r m => lawG M1 a r m 0 0) (fun b => M1 (30 + b) 0) (fun b => M1 (30 + b) 1) n N' (M1 1 12, fun b => M1 (30 + b) 2)) = q1 at za zr k1
  generalize (daysF (fun s r m => vrun S1 s r m 0 0) (fun b => M2 84 (108 + 7 * b + 0)) (fun b => M2 84 (108 + 7 * b + 1)) n N' (M2 84 105, fun b => M2 84 (108 + 7 * b + 2))) = q2 at za k2
  have R : Rel (zs M1 q1) (zsR M2 q2) n ne t wt S0 S1 := by
    refine h.cur (fun c hc hq => ?_) (fun c hc => zsR_o hc) ?_
    · funext j
      unfold zs
      rw [if_neg (by omega), if_neg (by omega)]
    · obtain ⟨a0, a1, a2, a3, a4, a5, a6, a7, a8⟩ := h.1
      have g1 : ∀ c j, (c ≠ 1 ∧ ¬ (30 ≤ c ∧ c < 38)) → zs M1 q1 c j = M1 c j := fun c j hc => by unfold zs; rw [if_neg (by omega), if_neg (by omega)]
      have gv : ∀ j, j ≠ 12 → zs M1 q1 1 j = M1 1 j := fun j hj => by unfold zs; rw [if_neg (by omega), if_neg (by omega)]
      have g2 : ∀ j, (j ≠ 105 ∧ ¬ (108 ≤ j ∧ j < 164)) → zsR M2 q2 84 j = M2 84 j := fun j hj => by unfold zsR; rw [if_neg (by omega), if_neg (by omega)]
      have e1 : zs M1 q1 1 12 = q1.1 := by unfold zs; rw [if_pos ⟨rfl, rfl⟩]
      have e2 : zsR M2 q2 84 105 = q2.1 := zsR_z
      have b1 : ∀ b k, b < 8 → zs M1 q1 (30 + b) k = if k = 2 then q1.2 b else M1 (30 + b) k := fun b k hb => by
        unfold zs
        rw [if_neg (by omega)]
        by_cases c : k = 2
        · rw [if_pos (by omega), if_pos c, show 30 + b - 30 = b by omega]
        · rw [if_neg (by omega), if_neg c]
      have b2 : ∀ b k, b < 8 → k < 7 → zsR M2 q2 84 (108 + 7 * b + k) = if k = 2 then q2.2 b else M2 84 (108 + 7 * b + k) := fun b k hb hk => by
        unfold zsR
        rw [if_neg (by omega)]
        by_cases c : k = 2
        · rw [if_pos (by omega), if_pos c, show (108 + 7 * b + k - 108) / 7 = b by omega]
        · rw [if_neg (by omega), if_neg c]
      refine ⟨a0.eq (gv 2 (by decide)) (gv 4 (by decide)) (g2 _ (by omega)) (g2 _ (by omega)), ⟨by rw [gv 5 (by decide), g2 100 (by omega)]; exact a1.1, by rw [gv 6 (by decide), g2 101 (by omega)]; exact a1.2.1, by rw [gv 7 (by decide), g2 102 (by omega)]; exact a1.2.2.1, by rw [e1, e2]; exact za.1⟩, a2.eq (gv 9 (by decide)) (fun i _ => g1 13 i (by decide)) (g2 _ (by omega)) (fun i _ => g2 _ (by omega)), a3.eq (gv 14 (by decide)) (fun i _ => g1 16 i (by decide)) (g2 _ (by omega)) (fun i _ => g2 _ (by omega)), a4.eq (fun i _ => g1 10 i (by decide)) (fun i _ => g2 _ (by omega)), ⟨fun b hb k hk => ?_, fun b hb => ?_⟩, a6.eq a0.2.2.2 (fun i _ => g1 12 i (by decide)) (fun i _ => g2 _ (by omega)), a7.eq (g1 14 _ (by decide)) (fun i _ => g1 68 i (by decide)) (g2 _ (by omega)) (fun i _ => g2 _ (by omega)), a8.eq (g1 15 _ (by decide)) (fun i _ => g1 71 i (by decide)) (g2 _ (by omega)) (fun i _ => g2 _ (by omega))⟩
      · rw [b1 b k (by omega), b2 b k (by omega) hk]
        by_cases c : k = 2
        · rw [if_pos c, if_pos c]; exact za.2 b hb
        · rw [if_neg c, if_neg c]; exact a5.1 b hb k hk
      · have q := a5.2 b hb
        unfold BD
        rw [b1 b 0 hb, b1 b 1 hb, b1 b 2 hb, b1 b 3 hb, b1 b 4 hb, b1 b 5 hb, b1 b 6 hb]
        exact ⟨q.1, q.2.1, zr b hb, q.2.2.2.1, q.2.2.2.2.1, q.2.2.2.2.2.1, q.2.2.2.2.2.2⟩
  have R2 := (R.keepC (KpC.of k1 (by decide))).keepR k2.x
  exact ⟨_, rfl, congrArg (fun q => some (Value.int q)) (sI_ext n (fun b hb => R2.bl.at hb (by decide))).symm, R2.e⟩

