/-! ===== the reference reads and works out a text ===== -/
def EvS (M0 M : Mem) : Prop := (∀ c, c ≠ 83 → M c = M0 c) ∧ ∀ j, j ≠ 6 → j ≠ 8 → j ≠ 9 → M 83 j = M0 83 j
def EvP (M0 M : Mem) (k op : Nat) : Prop := EvS M0 M ∧ M 83 6 = nI k ∧ M 83 8 = -1 ∧ M 83 9 = nI op
def FtP (M0 M : Mem) (p : Nat) : Prop := EvS M0 M ∧ M 83 8 = nI p
def EvT (M0 : Mem) (us base sz : Nat) : Prop := M0 83 5 = nI base ∧ M0 83 7 = nI sz ∧ sz ≤ 50 ∧ base + sz ≤ 360 ∧ M0 83 10 = nI us ∧ us < 2
theorem EvS.p6 {M0 M : Mem} {x : Int32} (h : EvS M0 M) : EvS M0 (put M 83 6 x) := ⟨fun c hc => by rw [put_cell hc]; exact h.1 c hc, fun j h6 h8 h9 => by rw [put_n (fun q => h6 q.2)]; exact h.2 j h6 h8 h9⟩
theorem EvS.p8 {M0 M : Mem} {x : Int32} (h : EvS M0 M) : EvS M0 (put M 83 8 x) := ⟨fun c hc => by rw [put_cell hc]; exact h.1 c hc, fun j h6 h8 h9 => by rw [put_n (fun q => h8 q.2)]; exact h.2 j h6 h8 h9⟩
theorem EvS.p9 {M0 M : Mem} {x : Int32} (h : EvS M0 M) : EvS M0 (put M 83 9 x) := ⟨fun c hc => by rw [put_cell hc]; exact h.1 c hc, fun j h6 h8 h9 => by rw [put_n (fun q => h9 q.2)]; exact h.2 j h6 h8 h9⟩
theorem EvP.go {M0 M : Mem} {k k' op : Nat} (h : EvP M0 M k op) : EvP M0 (put M 83 6 (nI k')) k' op := ⟨h.1.p6, put_s, by rw [put_n (fun q => absurd q.2 (by decide))]; exact h.2.2.1, by rw [put_n (fun q => absurd q.2 (by decide))]; exact h.2.2.2⟩
theorem EvP.op {M0 M : Mem} {k op op' : Nat} (h : EvP M0 M k op) : EvP M0 (put M 83 9 (nI op')) k op' := ⟨h.1.p9, by rw [put_n (fun q => absurd q.2 (by decide))]; exact h.2.1, by rw [put_n (fun q => absurd q.2 (by decide))]; exact h.2.2.1, put_s⟩
theorem EvP.no {M0 M : Mem} {k op : Nat} (h : EvP M0 M k op) : FtP M0 (put M 83 8 (nI k)) k := ⟨h.1.p8, put_s⟩
theorem FtP.op {M0 M : Mem} {p : Nat} {x : Int32} (h : FtP M0 M p) : FtP M0 (put M 83 9 x) p := ⟨h.1.p9, by rw [put_n (fun q => absurd q.2 (by decide))]; exact h.2⟩
/-- steps that leave one value on top -/
def Ev (us : Nat) (nm : Nat → Int32) (w : List Int32) (v : Int32) : Prop := 1 ≤ w.length ∧ ∀ nm' : Nat → Int32, (∀ j, j < (if us = 0 then 5 else 3) → nm' j = nm j) → ∀ (rest stk : List Int32), stk.length + w.length ≤ 50 → rpnRun nm' (w ++ rest) stk = rpnRun nm' rest (v :: stk)
theorem Ev.bin {us : Nat} {nm : Nat → Int32} {w1 w2 : List Int32} {v1 v2 c : Int32} (h1 : Ev us nm w1 v1) (h2 : Ev us nm w2 v2) (hc : -c < -5) (hc2 : ¬ -c = -33) : Ev us nm (w1 ++ w2 ++ [-c]) (joinF c v1 v2) := by
  refine ⟨by simp only [List.length_append, List.length_singleton]; omega, fun nm' hn rest stk hl => ?_⟩
  simp only [List.length_append, List.length_singleton] at hl
  have q1 := h1.1
  rw [List.append_assoc, List.append_assoc, h1.2 nm' hn _ stk (by omega), h2.2 nm' hn _ (v1 :: stk) (by simp only [List.length_cons]; omega)]
  rw [List.singleton_append, rpnRun, if_pos hc, if_neg hc2]
  simp only [Int32.neg_neg]
theorem Ev.not {us : Nat} {nm : Nat → Int32} {w : List Int32} {v : Int32} (h : Ev us nm w v) : Ev us nm (w ++ [-33]) (if v = 0 then 1 else 0) := by
  refine ⟨by simp only [List.length_append, List.length_singleton]; omega, fun nm' hn rest stk hl => ?_⟩
  simp only [List.length_append, List.length_singleton] at hl
  rw [List.append_assoc, h.2 nm' hn _ stk (by omega), List.singleton_append, rpnRun, if_pos (by decide), if_pos rfl]
theorem rpn_push {nm : Nat → Int32} {s : Int32} {r stk : List Int32} (h : ¬ s < -5) (hl : stk.length < 50) : rpnRun nm (s :: r) stk = rpnRun nm r ((if s < 0 then nm (Int32.toNatClampNeg (-1 - s)) else s) :: stk) := by
  rw [rpnRun.eq_def]
  simp only
  rw [if_neg h, if_pos hl]
theorem Ev.num {us : Nat} {nm : Nat → Int32} {n : Nat} (h : n < 100000) : Ev us nm [nI n] (nI n) := by
  refine ⟨Nat.le_refl _, fun nm' hn rest stk hl => ?_⟩
  simp only [List.length_singleton] at hl
  have h0 : ¬ nI n < 0 := nI_pos (by omega)
  rw [List.singleton_append, rpn_push (fun z => h0 (Int32.lt_trans z (by decide))) (by omega), if_neg h0]
theorem nmI_rg {us : Nat} {c : Int32} (h : 0 ≤ nmI us c) : ∃ j, j < (if us = 0 then 5 else 3) ∧ nmI us c = nI j := by
  unfold nmI at h ⊢
  by_cases q : us = 0
  · simp only [q, if_true] at h ⊢
    (repeat' split) <;> first | exact ⟨0, by decide, rfl⟩ | exact ⟨1, by decide, rfl⟩ | exact ⟨2, by decide, rfl⟩ | exact ⟨3, by decide, rfl⟩ | exact ⟨4, by decide, rfl⟩ | (simp_all; done)
  · simp only [q, if_false] at h ⊢
    (repeat' split) <;> first | exact ⟨0, by decide, rfl⟩ | exact ⟨1, by decide, rfl⟩ | exact ⟨2, by decide, rfl⟩ | (simp_all; done)
theorem stepN : ∀ j, j < 5 → ¬ (-1 - nI j) < -5 ∧ (-1 - nI j) < 0 ∧ Int32.toNatClampNeg (-1 - (-1 - nI j)) = j := by decide
theorem Ev.nm {us : Nat} {nm : Nat → Int32} {j : Nat} (h : j < (if us = 0 then 5 else 3)) : Ev us nm [-1 - nI j] (nm j) := by
  have h5 : j < 5 := by split at h <;> omega
  obtain ⟨s1, s2, s3⟩ := stepN j h5
  refine ⟨Nat.le_refl _, fun nm' hn rest stk hl => ?_⟩
  simp only [List.length_singleton] at hl
  rw [List.singleton_append, rpn_push s1 (by omega), if_pos s2, s3, hn j h]
theorem lvS_0 {c : Int32} : lvS c = nI 0 ↔ c = 124 := by unfold lvS; (repeat' split) <;> simp_all <;> decide
theorem lvS_1 {c : Int32} : lvS c = nI 1 ↔ c = 38 := by unfold lvS; (repeat' split) <;> simp_all <;> decide
theorem lvS_2 {c : Int32} : lvS c = nI 2 ↔ (c = 60 ∨ c = 61 ∨ c = 62) := by unfold lvS; (repeat' split) <;> simp_all <;> decide
theorem lvS_3 {c : Int32} : lvS c = nI 3 ↔ (c = 43 ∨ c = 45) := by
  unfold lvS
  (repeat' split) <;> first | exact iff_of_true rfl (by assumption) | exact iff_of_false (by decide) (by first | assumption | (rintro (rfl | rfl) <;> simp_all))
theorem lvS_4 {c : Int32} : lvS c = nI 4 ↔ (c = 42 ∨ c = 47 ∨ c = 37) := by
  unfold lvS
  (repeat' split) <;> first | exact iff_of_true rfl (by assumption) | exact iff_of_false (by decide) (by first | assumption | (rintro (rfl | rfl | rfl) <;> simp_all))
theorem jn124 (v w : Int32) : (if v = (0 : Int32) then (if w = (0 : Int32) then (0 : Int32) else (1 : Int32)) else (1 : Int32)) = joinF 124 v w := by
  by_cases h1 : v = 0 <;> by_cases h2 : w = 0 <;> simp [joinF, b2i, h1, h2]
theorem jn38 (v w : Int32) : (if v = (0 : Int32) then (0 : Int32) else (if w = (0 : Int32) then (0 : Int32) else (1 : Int32))) = joinF 38 v w := by
  by_cases h1 : v = 0 <;> by_cases h2 : w = 0 <;> simp [joinF, b2i, h1, h2]
theorem jn43 (v w : Int32) : (if (43 : Int32) = (43 : Int32) then (v + w) else (v - w)) = joinF 43 v w := by simp [joinF]
theorem jn45 (v w : Int32) : (if (45 : Int32) = (43 : Int32) then (v + w) else (v - w)) = joinF 45 v w := by simp [joinF]
theorem jn42 (v w : Int32) : v * w = joinF 42 v w := by simp [joinF]
theorem jn47 {v w : Int32} (h : ¬ w = 0) : v / w = joinF 47 v w := by simp [joinF, h]
theorem jn47z {v w : Int32} (h : w = 0) : 0 = joinF 47 v w := by simp [joinF, h]
theorem jn37 {v w : Int32} (h : ¬ w = 0) : v - v / w * w = joinF 37 v w := by simp [joinF, h]
theorem jn37z {v w : Int32} (h : w = 0) : 0 = joinF 37 v w := by simp [joinF, h]
theorem jn60 (v w : Int32) : (if (60 : Int32) = (60 : Int32) then (if w ≤ v then (0 : Int32) else (1 : Int32)) else (if (60 : Int32) = (61 : Int32) then (if v = w then (1 : Int32) else (0 : Int32)) else (if v ≤ w then (0 : Int32) else (1 : Int32)))) = joinF 60 v w := by
  rw [if_pos rfl]
  by_cases h : w ≤ v
  · rw [if_pos h]; simp [joinF, b2i, Int32.not_lt.mpr h]
  · rw [if_neg h]; simp [joinF, b2i, Int32.not_le.mp h]
theorem jn61 (v w : Int32) : (if (61 : Int32) = (60 : Int32) then (if w ≤ v then (0 : Int32) else (1 : Int32)) else (if (61 : Int32) = (61 : Int32) then (if v = w then (1 : Int32) else (0 : Int32)) else (if v ≤ w then (0 : Int32) else (1 : Int32)))) = joinF 61 v w := by
  rw [if_neg (by decide), if_pos rfl]
  by_cases h : v = w <;> simp [joinF, b2i, h]
theorem jn62 (v w : Int32) : (if (62 : Int32) = (60 : Int32) then (if w ≤ v then (0 : Int32) else (1 : Int32)) else (if (62 : Int32) = (61 : Int32) then (if v = w then (1 : Int32) else (0 : Int32)) else (if v ≤ w then (0 : Int32) else (1 : Int32)))) = joinF 62 v w := by
  rw [if_neg (by decide), if_neg (by decide)]
  by_cases h : v ≤ w
  · rw [if_pos h]; simp [joinF, b2i, Int32.not_lt.mpr h]
  · rw [if_neg h]; simp [joinF, b2i, Int32.not_le.mp h]

set_option maxHeartbeats 4000000 in
set_option maxRecDepth 100000 in
theorem c_here {g : GG} {d : Nat} {M : Mem} {Q : Option Value → Mem → Prop} {us base sz k op : Nat} {M0 : Mem} (hT : EvT M0 us base sz) (hR : EvP M0 M k op) (hk : k ≤ sz) (hQ : Q (some (.int ((nx (fun i => M0 84 (base + i)) sz) k))) M) : V rS g d mX10_here 0 [some (.ref 83)] [] M Q := by
  obtain ⟨t5, t7, t50, t360, t10, tu⟩ := hT
  have h6 := hR.2.1
  have h7 : M 83 7 = nI sz := by rw [hR.1.2 7 (by decide) (by decide) (by decide)]; exact t7
  have h5 : M 83 5 = nI base := by rw [hR.1.2 5 (by decide) (by decide) (by decide)]; exact t5
  by_cases c : k < sz
  · skip
    refine V.aload_n dX10_here_0 rfl (i := 0) rfl ?_
    refine V.getI dX10_here_1 rfl flRX10_72 rfl ⟨by decide, by decide⟩ ?_
    refine V.top (x' := (nI k)) (h6) ?_
    refine V.aload_n dX10_here_4 rfl (i := 0) rfl ?_
    refine V.getI dX10_here_5 rfl flRX10_76 rfl ⟨by decide, by decide⟩ ?_
    refine V.top (x' := (nI sz)) (h7) ?_
    refine V.ic_ge (tgt := 35) dX10_here_8 (by decide) (fun q => absurd q ((nI_ge (a := k) (b := sz) (by omega) (by omega)))) (fun c8 => ?_)
    refine V.aload_n dX10_here_11 rfl (i := 0) rfl ?_
    refine V.getI dX10_here_12 rfl flRX10_79 rfl ⟨by decide, by decide⟩ ?_
    refine V.top (x' := (-1 : Int32)) (hR.2.2.1) ?_
    refine V.if_ge (tgt := 35) dX10_here_15 (by decide) (fun q => absurd q ((by decide))) (fun c15 => ?_)
    refine V.aload_n dX10_here_18 rfl (i := 0) rfl ?_
    refine V.getR dX10_here_19 rfl flRX10_7 rfl ⟨by decide, by decide⟩ ?_
    refine V.aload_n dX10_here_22 rfl (i := 0) rfl ?_
    refine V.getI dX10_here_23 rfl flRX10_82 rfl ⟨by decide, by decide⟩ ?_
    refine V.top (x' := (nI base)) (h5) ?_
    refine V.aload_n dX10_here_26 rfl (i := 0) rfl ?_
    refine V.getI dX10_here_27 rfl flRX10_72 rfl ⟨by decide, by decide⟩ ?_
    refine V.top (x' := (nI k)) (h6) ?_
    refine V.iadd dX10_here_30 ?_
    refine V.top (x' := (nI (base + k))) (nI_add base k) ?_
    refine V.ialdN dX10_here_31 rfl ⟨by decide, by decide⟩ (by first | assumption | decide | omega) (by decide) ?_
    refine V.goto dX10_here_32 (tgt := 36) (by decide) ?_
    exact V.ret dX10_here_36 rfl (Qi hQ (by unfold nx; rw [if_pos c, hR.1.1 84 (by decide)]))
  · skip
    refine V.aload_n dX10_here_0 rfl (i := 0) rfl ?_
    refine V.getI dX10_here_1 rfl flRX10_72 rfl ⟨by decide, by decide⟩ ?_
    refine V.top (x' := (nI k)) (h6) ?_
    refine V.aload_n dX10_here_4 rfl (i := 0) rfl ?_
    refine V.getI dX10_here_5 rfl flRX10_76 rfl ⟨by decide, by decide⟩ ?_
    refine V.top (x' := (nI sz)) (h7) ?_
    refine V.ic_ge (tgt := 35) dX10_here_8 (by decide) (fun c8 => ?_) (fun q => absurd ((nI_le (a := sz) (b := k) (by omega) (by omega))) q)
    refine V.iconst dX10_here_35 (v := (-1)) (by decide) ?_
    exact V.ret dX10_here_36 rfl (Qi hQ (by unfold nx; rw [if_neg c]))
set_option maxHeartbeats 4000000 in
set_option maxRecDepth 100000 in
theorem c_hereF {g : GG} {d : Nat} {M : Mem} {Q : Option Value → Mem → Prop} {p : Nat} {M0 : Mem} (hR : FtP M0 M p) (hp : p ≤ 50) (hQ : Q (some (.int (-1))) M) : V rS g d mX10_here 0 [some (.ref 83)] [] M Q := by
  refine V.aload_n dX10_here_0 rfl (i := 0) rfl ?_
  refine V.getI dX10_here_1 rfl flRX10_72 rfl ⟨by decide, by decide⟩ ?_
  refine V.aload_n dX10_here_4 rfl (i := 0) rfl ?_
  refine V.getI dX10_here_5 rfl flRX10_76 rfl ⟨by decide, by decide⟩ ?_
  refine V.ic_ge (tgt := 35) dX10_here_8 (by decide) (fun c8 => ?_) (fun c8 => ?_)
  · refine V.iconst dX10_here_35 (v := (-1)) (by decide) ?_
    exact V.ret dX10_here_36 rfl (hQ)
  · refine V.aload_n dX10_here_11 rfl (i := 0) rfl ?_
    refine V.getI dX10_here_12 rfl flRX10_79 rfl ⟨by decide, by decide⟩ ?_
    refine V.top (x' := (nI p)) (hR.2) ?_
    refine V.if_ge (tgt := 35) dX10_here_15 (by decide) (fun c15 => ?_) (fun q => absurd ((nI_pos' (by omega))) q)
    refine V.iconst dX10_here_35 (v := (-1)) (by decide) ?_
    exact V.ret dX10_here_36 rfl (hQ)
set_option maxHeartbeats 4000000 in
set_option maxRecDepth 100000 in
theorem c_wrong {g : GG} {d : Nat} {M : Mem} {Q : Option Value → Mem → Prop} {k op : Nat} {M0 : Mem} (hR : EvP M0 M k op) (hQ : Q (some (.int 0)) (put M 83 8 (nI k))) : V rS g d mX10_wrong 0 [some (.ref 83)] [] M Q := by
  refine V.aload_n dX10_wrong_0 rfl (i := 0) rfl ?_
  refine V.aload_n dX10_wrong_1 rfl (i := 0) rfl ?_
  refine V.getI dX10_wrong_2 rfl flRX10_79 rfl ⟨by decide, by decide⟩ ?_
  refine V.top (x' := (-1 : Int32)) (hR.2.2.1) ?_
  refine V.if_ge (tgt := 15) dX10_wrong_5 (by decide) (fun q => absurd q ((by decide))) (fun c5 => ?_)
  refine V.aload_n dX10_wrong_8 rfl (i := 0) rfl ?_
  refine V.getI dX10_wrong_9 rfl flRX10_72 rfl ⟨by decide, by decide⟩ ?_
  refine V.goto dX10_wrong_12 (tgt := 19) (by decide) ?_
  refine V.top (x' := (nI k)) (hR.2.1) ?_
  refine V.putI dX10_wrong_19 rfl fpRX10_79 rfl ⟨by decide, by decide⟩ ?_
  refine V.iconst dX10_wrong_22 (v := 0) (by decide) ?_
  exact V.ret dX10_wrong_23 rfl (hQ)
set_option maxHeartbeats 4000000 in
set_option maxRecDepth 100000 in
theorem c_wrongF {g : GG} {d : Nat} {M : Mem} {Q : Option Value → Mem → Prop} {p : Nat} {M0 : Mem} (hR : FtP M0 M p) (hp : p ≤ 50) (hQ : Q (some (.int 0)) (put M 83 8 (nI p))) : V rS g d mX10_wrong 0 [some (.ref 83)] [] M Q := by
  refine V.aload_n dX10_wrong_0 rfl (i := 0) rfl ?_
  refine V.aload_n dX10_wrong_1 rfl (i := 0) rfl ?_
  refine V.getI dX10_wrong_2 rfl flRX10_79 rfl ⟨by decide, by decide⟩ ?_
  refine V.top (x' := (nI p)) (hR.2) ?_
  refine V.if_ge (tgt := 15) dX10_wrong_5 (by decide) (fun c5 => ?_) (fun q => absurd ((nI_pos' (by omega))) q)
  refine V.aload_n dX10_wrong_15 rfl (i := 0) rfl ?_
  refine V.getI dX10_wrong_16 rfl flRX10_79 rfl ⟨by decide, by decide⟩ ?_
  refine V.top (x' := (nI p)) (hR.2) ?_
  refine V.putI dX10_wrong_19 rfl fpRX10_79 rfl ⟨by decide, by decide⟩ ?_
  refine V.iconst dX10_wrong_22 (v := 0) (by decide) ?_
  exact V.ret dX10_wrong_23 rfl (hQ)
set_option maxHeartbeats 4000000 in
set_option maxRecDepth 100000 in
theorem c_takesT {g : GG} {d : Nat} {M : Mem} {Q : Option Value → Mem → Prop} {us base sz k op : Nat} {M0 : Mem} (hT : EvT M0 us base sz) (hR : EvP M0 M k op) (hk : k ≤ sz) {c : Int32} (hc : (nx (fun i => M0 84 (base + i)) sz) k = c) (hQ : Q (some (.int 1)) (put M 83 6 (nI (k + 1)))) : V rS g (d + 1) mX10_takes 0 [some (.ref 83), some (.int c)] [] M Q := by
  refine V.aload_n dX10_takes_0 rfl (i := 0) rfl ?_
  refine V.invv (z := mX10_here) (As := []) dX10_takes_1 rfl mlRX10_85 okX10_here npX10_here rfl rfl rfl ⟨by decide, by decide⟩ (Nat.le_of_ble_eq_true rfl) rfl (Nat.le_of_ble_eq_true rfl) (c_here hT hR hk ?_)
  show V rS g (d + 1) mX10_takes 4 [some (.ref 83), some (.int c)] [.int ((nx (fun i => M0 84 (base + i)) sz) k)] M Q
  refine V.iload_n dX10_takes_4 rfl (i := 1) rfl ?_
  refine V.ic_eq (tgt := 10) dX10_takes_5 (by decide) (fun c5 => ?_) (fun q => absurd (hc) q)
  refine V.aload_n dX10_takes_10 rfl (i := 0) rfl ?_
  refine V.dup dX10_takes_11 rfl ?_
  refine V.getI dX10_takes_12 rfl flRX10_72 rfl ⟨by decide, by decide⟩ ?_
  refine V.top (x' := (nI k)) (hR.2.1) ?_
  refine V.iconst dX10_takes_15 (v := 1) (by decide) ?_
  refine V.iadd dX10_takes_16 ?_
  refine V.top (x' := (nI (k + 1))) (nI_add k 1) ?_
  refine V.putI dX10_takes_17 rfl fpRX10_72 rfl ⟨by decide, by decide⟩ ?_
  refine V.iconst dX10_takes_20 (v := 1) (by decide) ?_
  exact V.zret dX10_takes_21 rfl (by first | exact Or.inl rfl | exact Or.inr rfl | assumption | exact b2i_zo _ | (repeat' split) <;> first | exact Or.inl rfl | exact Or.inr rfl | assumption | exact b2i_zo _) (hQ)
set_option maxHeartbeats 4000000 in
set_option maxRecDepth 100000 in
theorem c_takesN {g : GG} {d : Nat} {M : Mem} {Q : Option Value → Mem → Prop} {us base sz k op : Nat} {M0 : Mem} (hT : EvT M0 us base sz) (hR : EvP M0 M k op) (hk : k ≤ sz) {c : Int32} (hc : ¬ (nx (fun i => M0 84 (base + i)) sz) k = c) (hQ : Q (some (.int 0)) M) : V rS g (d + 1) mX10_takes 0 [some (.ref 83), some (.int c)] [] M Q := by
  refine V.aload_n dX10_takes_0 rfl (i := 0) rfl ?_
  refine V.invv (z := mX10_here) (As := []) dX10_takes_1 rfl mlRX10_85 okX10_here npX10_here rfl rfl rfl ⟨by decide, by decide⟩ (Nat.le_of_ble_eq_true rfl) rfl (Nat.le_of_ble_eq_true rfl) (c_here hT hR hk ?_)
  show V rS g (d + 1) mX10_takes 4 [some (.ref 83), some (.int c)] [.int ((nx (fun i => M0 84 (base + i)) sz) k)] M Q
  refine V.iload_n dX10_takes_4 rfl (i := 1) rfl ?_
  refine V.ic_eq (tgt := 10) dX10_takes_5 (by decide) (fun q => absurd q (hc)) (fun c5 => ?_)
  refine V.iconst dX10_takes_8 (v := 0) (by decide) ?_
  exact V.zret dX10_takes_9 rfl (by first | exact Or.inl rfl | exact Or.inr rfl | assumption | exact b2i_zo _ | (repeat' split) <;> first | exact Or.inl rfl | exact Or.inr rfl | assumption | exact b2i_zo _) (hQ)
set_option maxHeartbeats 4000000 in
set_option maxRecDepth 100000 in
theorem c_takesF {g : GG} {d : Nat} {M : Mem} {Q : Option Value → Mem → Prop} {p : Nat} {M0 : Mem} (hR : FtP M0 M p) (hp : p ≤ 50) {c : Int32} (hc : ¬ -1 = c) (hQ : Q (some (.int 0)) M) : V rS g (d + 1) mX10_takes 0 [some (.ref 83), some (.int c)] [] M Q := by
  refine V.aload_n dX10_takes_0 rfl (i := 0) rfl ?_
  refine V.invv (z := mX10_here) (As := []) dX10_takes_1 rfl mlRX10_85 okX10_here npX10_here rfl rfl rfl ⟨by decide, by decide⟩ (Nat.le_of_ble_eq_true rfl) rfl (Nat.le_of_ble_eq_true rfl) (c_hereF hR hp ?_)
  show V rS g (d + 1) mX10_takes 4 [some (.ref 83), some (.int c)] [.int (-1 : Int32)] M Q
  refine V.iload_n dX10_takes_4 rfl (i := 1) rfl ?_
  refine V.ic_eq (tgt := 10) dX10_takes_5 (by decide) (fun q => absurd q (hc)) (fun c5 => ?_)
  refine V.iconst dX10_takes_8 (v := 0) (by decide) ?_
  exact V.zret dX10_takes_9 rfl (by first | exact Or.inl rfl | exact Or.inr rfl | assumption | exact b2i_zo _ | (repeat' split) <;> first | exact Or.inl rfl | exact Or.inr rfl | assumption | exact b2i_zo _) (hQ)
set_option maxHeartbeats 4000000 in
set_option maxRecDepth 100000 in
theorem c_nameOf {g : GG} {d : Nat} {M : Mem} {Q : Option Value → Mem → Prop} {us : Nat} {c : Int32} (hu : us < 2) (h10 : M 83 10 = nI us) (hQ : Q (some (.int (nmI us c))) M) : V rS g d mX10_nameOf 0 [some (.ref 83), some (.int c)] [] M Q := by
  have hus : us = 0 ∨ us = 1 := by omega
  rcases hus with rfl | rfl
  · skip
    refine V.aload_n dX10_nameOf_0 rfl (i := 0) rfl ?_
    refine V.getZ dX10_nameOf_1 rfl flRX10_89 rfl ⟨by decide, by decide⟩ ?_
    refine V.top (x' := (nI 0)) (h10) ?_
    refine V.if_eq (tgt := 39) dX10_nameOf_4 (by decide) (fun c4 => ?_) (fun q => absurd (rfl) q)
    refine V.iload_n dX10_nameOf_39 rfl (i := 1) rfl ?_
    refine V.bipush dX10_nameOf_40 (v := 108) (by decide) ?_
    suffices kJ42 : V rS g d mX10_nameOf 90 [some (.ref 83), some (.int c)] [.int (if c = (108 : Int32) then (0 : Int32) else (if c = (100 : Int32) then (1 : Int32) else (if c = (104 : Int32) then (2 : Int32) else (if c = (119 : Int32) then (3 : Int32) else (if c = (107 : Int32) then (4 : Int32) else (-1 : Int32))))))] M Q by
      refine V.ic_ne (tgt := 49) dX10_nameOf_42 (by decide) (fun c42 => ?_) (fun c42 => ?_)
      · refine V.iload_n dX10_nameOf_49 rfl (i := 1) rfl ?_
        refine V.bipush dX10_nameOf_50 (v := 100) (by decide) ?_
        refine V.ic_ne (tgt := 59) dX10_nameOf_52 (by decide) (fun c52 => ?_) (fun c52 => ?_)
        · refine V.iload_n dX10_nameOf_59 rfl (i := 1) rfl ?_
          refine V.bipush dX10_nameOf_60 (v := 104) (by decide) ?_
          refine V.ic_ne (tgt := 69) dX10_nameOf_62 (by decide) (fun c62 => ?_) (fun c62 => ?_)
          · refine V.iload_n dX10_nameOf_69 rfl (i := 1) rfl ?_
            refine V.bipush dX10_nameOf_70 (v := 119) (by decide) ?_
            refine V.ic_ne (tgt := 79) dX10_nameOf_72 (by decide) (fun c72 => ?_) (fun c72 => ?_)
            · refine V.iload_n dX10_nameOf_79 rfl (i := 1) rfl ?_
              refine V.bipush dX10_nameOf_80 (v := 107) (by decide) ?_
              refine V.ic_ne (tgt := 89) dX10_nameOf_82 (by decide) (fun c82 => ?_) (fun c82 => ?_)
              · refine V.iconst dX10_nameOf_89 (v := (-1)) (by decide) ?_
                rw [if_neg c42, if_neg c52, if_neg c62, if_neg c72, if_neg c82] at kJ42; exact kJ42
              · refine V.iconst dX10_nameOf_85 (v := 4) (by decide) ?_
                refine V.goto dX10_nameOf_86 (tgt := 90) (by decide) ?_
                rw [if_neg c42, if_neg c52, if_neg c62, if_neg c72, if_pos c82] at kJ42; exact kJ42
            · refine V.iconst dX10_nameOf_75 (v := 3) (by decide) ?_
              refine V.goto dX10_nameOf_76 (tgt := 90) (by decide) ?_
              rw [if_neg c42, if_neg c52, if_neg c62, if_pos c72] at kJ42; exact kJ42
          · refine V.iconst dX10_nameOf_65 (v := 2) (by decide) ?_
            refine V.goto dX10_nameOf_66 (tgt := 90) (by decide) ?_
            rw [if_neg c42, if_neg c52, if_pos c62] at kJ42; exact kJ42
        · refine V.iconst dX10_nameOf_55 (v := 1) (by decide) ?_
          refine V.goto dX10_nameOf_56 (tgt := 90) (by decide) ?_
          rw [if_neg c42, if_pos c52] at kJ42; exact kJ42
      · refine V.iconst dX10_nameOf_45 (v := 0) (by decide) ?_
        refine V.goto dX10_nameOf_46 (tgt := 90) (by decide) ?_
        rw [if_pos c42] at kJ42; exact kJ42
    exact V.ret dX10_nameOf_90 rfl (hQ)
  · skip
    refine V.aload_n dX10_nameOf_0 rfl (i := 0) rfl ?_
    refine V.getZ dX10_nameOf_1 rfl flRX10_89 rfl ⟨by decide, by decide⟩ ?_
    refine V.top (x' := (nI 1)) (h10) ?_
    refine V.if_eq (tgt := 39) dX10_nameOf_4 (by decide) (fun q => absurd q ((by decide))) (fun c4 => ?_)
    refine V.iload_n dX10_nameOf_7 rfl (i := 1) rfl ?_
    refine V.bipush dX10_nameOf_8 (v := 115) (by decide) ?_
    suffices kJ10 : V rS g d mX10_nameOf 38 [some (.ref 83), some (.int c)] [.int (if c = (115 : Int32) then (0 : Int32) else (if c = (114 : Int32) then (1 : Int32) else (if c = (109 : Int32) then (2 : Int32) else (-1 : Int32))))] M Q by
      refine V.ic_ne (tgt := 17) dX10_nameOf_10 (by decide) (fun c10 => ?_) (fun c10 => ?_)
      · refine V.iload_n dX10_nameOf_17 rfl (i := 1) rfl ?_
        refine V.bipush dX10_nameOf_18 (v := 114) (by decide) ?_
        refine V.ic_ne (tgt := 27) dX10_nameOf_20 (by decide) (fun c20 => ?_) (fun c20 => ?_)
        · refine V.iload_n dX10_nameOf_27 rfl (i := 1) rfl ?_
          refine V.bipush dX10_nameOf_28 (v := 109) (by decide) ?_
          refine V.ic_ne (tgt := 37) dX10_nameOf_30 (by decide) (fun c30 => ?_) (fun c30 => ?_)
          · refine V.iconst dX10_nameOf_37 (v := (-1)) (by decide) ?_
            rw [if_neg c10, if_neg c20, if_neg c30] at kJ10; exact kJ10
          · refine V.iconst dX10_nameOf_33 (v := 2) (by decide) ?_
            refine V.goto dX10_nameOf_34 (tgt := 38) (by decide) ?_
            rw [if_neg c10, if_neg c20, if_pos c30] at kJ10; exact kJ10
        · refine V.iconst dX10_nameOf_23 (v := 1) (by decide) ?_
          refine V.goto dX10_nameOf_24 (tgt := 38) (by decide) ?_
          rw [if_neg c10, if_pos c20] at kJ10; exact kJ10
      · refine V.iconst dX10_nameOf_13 (v := 0) (by decide) ?_
        refine V.goto dX10_nameOf_14 (tgt := 38) (by decide) ?_
        rw [if_pos c10] at kJ10; exact kJ10
    exact V.ret dX10_nameOf_38 rfl (hQ)
def EM (g : GG) (M0 : Mem) (us base sz f md : Nat) (y : XM) (ls : List (Option Value)) : Prop := ∀ (D op k : Nat) (out : List Int32) (M : Mem) (Q : Option Value → Mem → Prop) (r : Bool × Nat × List Int32), 7 * (5 - op) + 5 + (5 - md) ≤ D → op ≤ 5 → k ≤ sz → 8 * (sz - k) + 7 - md ≤ f → EvP M0 M k op → rd (nx (fun i => M0 84 (base + i)) sz) us f md op k out = r → (∀ M' v, (r.1 = true → ∃ w, r.2.2 = out ++ w ∧ Ev us (M0 88) w v ∧ EvP M0 M' r.2.1 op) → (r.1 = false → FtP M0 M' r.2.1) → Q (some (.int v)) M') → V rS g D y 0 ls [] M Q
def EP (g : GG) (M0 : Mem) (us base sz f l : Nat) (y : XM) (ls : List (Option Value)) : Prop := ∀ (D op k : Nat) (out w0 : List Int32) (v : Int32) (M : Mem) (Q : Option Value → Mem → Prop) (r : Bool × Nat × List Int32), 7 * (5 - op) + 5 + (5 - l) ≤ D → op ≤ 5 → k ≤ sz → 8 * (sz - k) + 1 ≤ f → Ev us (M0 88) w0 v → EvP M0 M k op → rd (nx (fun i => M0 84 (base + i)) sz) us f (l + 6) op k (out ++ w0) = r → (∀ M' v', (r.1 = true → ∃ w, r.2.2 = out ++ w ∧ Ev us (M0 88) w v' ∧ EvP M0 M' r.2.1 op) → (r.1 = false → FtP M0 M' r.2.1) → Q (some (.int v')) M') → V rS g D y 5 (some (.ref 83) :: some (.int v) :: ls) [] M Q

set_option maxHeartbeats 4000000 in
set_option maxRecDepth 100000 in
theorem fl_either {g : GG} {d : Nat} {M : Mem} {Q : Option Value → Mem → Prop} {p : Nat} {M0 : Mem} {v : Int32} (hR : FtP M0 M p) (hp : p ≤ 50) (hQ : Q (some (.int v)) M) : V rS g (d + 2) mX10_either 5 [some (.ref 83), some (.int v), none] [] M Q := by
  refine V.aload_n dX10_either_5 rfl (i := 0) rfl ?_
  refine V.bipush dX10_either_6 (v := 124) (by decide) ?_
  refine V.invv (z := mX10_takes) (As := [_]) dX10_either_8 rfl mlRX10_96 okX10_takes npX10_takes rfl rfl rfl ⟨by decide, by decide⟩ (Nat.le_of_ble_eq_true rfl) rfl (Nat.le_of_ble_eq_true rfl) (c_takesF hR hp (by decide) ?_)
  show V rS g (d + 2) mX10_either 11 [some (.ref 83), some (.int v), none] [.int (0 : Int32)] M Q
  refine V.if_eq (tgt := 36) dX10_either_11 (by decide) (fun c11 => ?_) (fun q => absurd (rfl) q)
  refine V.iload_n dX10_either_36 rfl (i := 1) rfl ?_
  exact V.ret dX10_either_37 rfl (hQ)
set_option maxHeartbeats 4000000 in
set_option maxRecDepth 100000 in
theorem fl_both {g : GG} {d : Nat} {M : Mem} {Q : Option Value → Mem → Prop} {p : Nat} {M0 : Mem} {v : Int32} (hR : FtP M0 M p) (hp : p ≤ 50) (hQ : Q (some (.int v)) M) : V rS g (d + 2) mX10_both 5 [some (.ref 83), some (.int v), none] [] M Q := by
  refine V.aload_n dX10_both_5 rfl (i := 0) rfl ?_
  refine V.bipush dX10_both_6 (v := 38) (by decide) ?_
  refine V.invv (z := mX10_takes) (As := [_]) dX10_both_8 rfl mlRX10_96 okX10_takes npX10_takes rfl rfl rfl ⟨by decide, by decide⟩ (Nat.le_of_ble_eq_true rfl) rfl (Nat.le_of_ble_eq_true rfl) (c_takesF hR hp (by decide) ?_)
  show V rS g (d + 2) mX10_both 11 [some (.ref 83), some (.int v), none] [.int (0 : Int32)] M Q
  refine V.if_eq (tgt := 36) dX10_both_11 (by decide) (fun c11 => ?_) (fun q => absurd (rfl) q)
  refine V.iload_n dX10_both_36 rfl (i := 1) rfl ?_
  exact V.ret dX10_both_37 rfl (hQ)
set_option maxHeartbeats 4000000 in
set_option maxRecDepth 100000 in
theorem fl_sum {g : GG} {d : Nat} {M : Mem} {Q : Option Value → Mem → Prop} {p : Nat} {M0 : Mem} {v : Int32} (hR : FtP M0 M p) (hp : p ≤ 50) (hQ : Q (some (.int v)) M) : V rS g (d + 2) mX10_sum 5 [some (.ref 83), some (.int v), none, none] [] M Q := by
  refine V.aload_n dX10_sum_5 rfl (i := 0) rfl ?_
  refine V.invv (z := mX10_here) (As := []) dX10_sum_6 rfl mlRX10_85 okX10_here npX10_here rfl rfl rfl ⟨by decide, by decide⟩ (Nat.le_of_ble_eq_true rfl) rfl (Nat.le_of_ble_eq_true rfl) (c_hereF hR hp ?_)
  show V rS g (d + 2) mX10_sum 9 [some (.ref 83), some (.int v), none, none] [.int (-1 : Int32)] M Q
  refine V.bipush dX10_sum_9 (v := 43) (by decide) ?_
  refine V.ic_eq (tgt := 23) dX10_sum_11 (by decide) (fun q => absurd q ((by decide))) (fun c11 => ?_)
  refine V.aload_n dX10_sum_14 rfl (i := 0) rfl ?_
  refine V.invv (z := mX10_here) (As := []) dX10_sum_15 rfl mlRX10_85 okX10_here npX10_here rfl rfl rfl ⟨by decide, by decide⟩ (Nat.le_of_ble_eq_true rfl) rfl (Nat.le_of_ble_eq_true rfl) (c_hereF hR hp ?_)
  show V rS g (d + 2) mX10_sum 18 [some (.ref 83), some (.int v), none, none] [.int (-1 : Int32)] M Q
  refine V.bipush dX10_sum_18 (v := 45) (by decide) ?_
  refine V.ic_ne (tgt := 62) dX10_sum_20 (by decide) (fun c20 => ?_) (fun q => absurd q ((by decide)))
  refine V.iload_n dX10_sum_62 rfl (i := 1) rfl ?_
  exact V.ret dX10_sum_63 rfl (hQ)
set_option maxHeartbeats 4000000 in
set_option maxRecDepth 100000 in
theorem fl_product {g : GG} {d : Nat} {M : Mem} {Q : Option Value → Mem → Prop} {p : Nat} {M0 : Mem} {v : Int32} (hR : FtP M0 M p) (hp : p ≤ 50) (hQ : Q (some (.int v)) M) : V rS g (d + 2) mX10_product 5 [some (.ref 83), some (.int v), none, none] [] M Q := by
  refine V.aload_n dX10_product_5 rfl (i := 0) rfl ?_
  refine V.invv (z := mX10_here) (As := []) dX10_product_6 rfl mlRX10_85 okX10_here npX10_here rfl rfl rfl ⟨by decide, by decide⟩ (Nat.le_of_ble_eq_true rfl) rfl (Nat.le_of_ble_eq_true rfl) (c_hereF hR hp ?_)
  show V rS g (d + 2) mX10_product 9 [some (.ref 83), some (.int v), none, none] [.int (-1 : Int32)] M Q
  refine V.bipush dX10_product_9 (v := 42) (by decide) ?_
  refine V.ic_eq (tgt := 32) dX10_product_11 (by decide) (fun q => absurd q ((by decide))) (fun c11 => ?_)
  refine V.aload_n dX10_product_14 rfl (i := 0) rfl ?_
  refine V.invv (z := mX10_here) (As := []) dX10_product_15 rfl mlRX10_85 okX10_here npX10_here rfl rfl rfl ⟨by decide, by decide⟩ (Nat.le_of_ble_eq_true rfl) rfl (Nat.le_of_ble_eq_true rfl) (c_hereF hR hp ?_)
  show V rS g (d + 2) mX10_product 18 [some (.ref 83), some (.int v), none, none] [.int (-1 : Int32)] M Q
  refine V.bipush dX10_product_18 (v := 47) (by decide) ?_
  refine V.ic_eq (tgt := 32) dX10_product_20 (by decide) (fun q => absurd q ((by decide))) (fun c20 => ?_)
  refine V.aload_n dX10_product_23 rfl (i := 0) rfl ?_
  refine V.invv (z := mX10_here) (As := []) dX10_product_24 rfl mlRX10_85 okX10_here npX10_here rfl rfl rfl ⟨by decide, by decide⟩ (Nat.le_of_ble_eq_true rfl) rfl (Nat.le_of_ble_eq_true rfl) (c_hereF hR hp ?_)
  show V rS g (d + 2) mX10_product 27 [some (.ref 83), some (.int v), none, none] [.int (-1 : Int32)] M Q
  refine V.bipush dX10_product_27 (v := 37) (by decide) ?_
  refine V.ic_ne (tgt := 91) dX10_product_29 (by decide) (fun c29 => ?_) (fun q => absurd q ((by decide)))
  refine V.iload_n dX10_product_91 rfl (i := 1) rfl ?_
  exact V.ret dX10_product_92 rfl (hQ)
set_option maxHeartbeats 4000000 in
set_option maxRecDepth 100000 in
theorem s_EP_either {g : GG} {M0 : Mem} {us base sz f : Nat} (hT : EvT M0 us base sz) (hS : EM g M0 us base sz f 1 mX10_both [some (.ref 83), none, none]) (hP : EP g M0 us base sz f 0 mX10_either [none]) : EP g M0 us base sz (f + 1) 0 mX10_either [none] := by
  intro D op k out w0 v M Q r hD ho hk hf hv hR he hQ
  have h50 := hT.2.2.1
  obtain ⟨dd, rfl⟩ : ∃ dd, D = dd + 3 := ⟨D - 3, by omega⟩
  by_cases hs : lvS ((nx (fun i => M0 84 (base + i)) sz) k) = nI 0
  · have hks := lvS_in (by omega) hs
    rcases e : rd (nx (fun i => M0 84 (base + i)) sz) us f (0 + 1) op (k + 1) (out ++ w0) with ⟨b, k1, o1⟩
    obtain ⟨i1, i2, i3, i4⟩ := rd_inv f (0 + 1) op (k + 1) (out ++ w0) _ (by omega) hks e
    have i4' := i4 (by omega)
    simp only at i1 i2 i3 i4'
    have hc := lvS_0.mp hs
    cases b
    · rw [rd_lpF hs e] at he
      subst he
      refine V.aload_n dX10_either_5 rfl (i := 0) rfl ?_
      refine V.bipush dX10_either_6 (v := 124) (by decide) ?_
      refine V.invv (z := mX10_takes) (As := [_]) dX10_either_8 rfl mlRX10_96 okX10_takes npX10_takes rfl rfl rfl ⟨by decide, by decide⟩ (Nat.le_of_ble_eq_true rfl) rfl (Nat.le_of_ble_eq_true rfl) (c_takesT hT hR hk hc ?_)
      show V rS g (dd + 3) mX10_either 11 [some (.ref 83), some (.int v), none] [.int (1 : Int32)] (put M 83 6 (nI (k + 1))) Q
      refine V.if_eq (tgt := 36) dX10_either_11 (by decide) (fun q => absurd q ((by decide))) (fun c11 => ?_)
      refine V.aload_n dX10_either_14 rfl (i := 0) rfl ?_
      refine V.invv (z := mX10_both) (As := []) dX10_either_15 rfl mlRX10_93 okX10_both npX10_both rfl rfl rfl ⟨by decide, by decide⟩ (Nat.le_of_ble_eq_true rfl) rfl (Nat.le_of_ble_eq_true rfl) (hS (dd + 2) op (k + 1) (out ++ w0) _ _ (false, k1, o1) (by omega) ho hks (by omega) hR.go e (fun M1 v2 hT2 hF2 => ?_))
      show V rS g (dd + 3) mX10_either 18 [some (.ref 83), some (.int v), none] [.int v2] M1 Q
      refine V.istore_n dX10_either_18 rfl (i := 2) (by decide) (fun _ h => by cases h; exact Or.inl rfl) rfl ?_
      refine V.iload_n dX10_either_19 rfl (i := 1) rfl ?_
      suffices kJ20 : V rS g (dd + 3) mX10_either 32 [some (.ref 83), some (.int v), some (.int v2)] [.int (if v = (0 : Int32) then (if v2 = (0 : Int32) then (0 : Int32) else (1 : Int32)) else (1 : Int32))] M1 Q by
        refine V.if_ne (tgt := 27) dX10_either_20 (by decide) (fun c20 => ?_) (fun c20 => ?_)
        · refine V.iconst dX10_either_27 (v := 1) (by decide) ?_
          refine V.goto dX10_either_28 (tgt := 32) (by decide) ?_
          rw [if_neg c20] at kJ20; exact kJ20
        · refine V.iload_n dX10_either_23 rfl (i := 2) rfl ?_
          refine V.if_eq (tgt := 31) dX10_either_24 (by decide) (fun c24 => ?_) (fun c24 => ?_)
          · refine V.iconst dX10_either_31 (v := 0) (by decide) ?_
            rw [if_pos c20, if_pos c24] at kJ20; exact kJ20
          · refine V.iconst dX10_either_27 (v := 1) (by decide) ?_
            refine V.goto dX10_either_28 (tgt := 32) (by decide) ?_
            rw [if_pos c20, if_neg c24] at kJ20; exact kJ20
      refine V.top (x' := (joinF 124 v v2)) ((jn124 v v2)) ?_
      refine V.istore_n dX10_either_32 rfl (i := 1) (by decide) (fun _ h => by cases h; exact Or.inl rfl) rfl ?_
      refine V.goto dX10_either_33 (tgt := 5) (by decide) ?_
      exact V.fg (ls' := [some (.ref 83), some (.int _), none]) ⟨rfl, rfl, trivial⟩ (fl_either (p := k1) (d := dd + 1) (hF2 rfl) (by omega) (hQ M1 _ (fun z => by cases z) (fun _ => hF2 rfl)))
    · rw [rd_lpT hs (by omega) e] at he
      refine V.aload_n dX10_either_5 rfl (i := 0) rfl ?_
      refine V.bipush dX10_either_6 (v := 124) (by decide) ?_
      refine V.invv (z := mX10_takes) (As := [_]) dX10_either_8 rfl mlRX10_96 okX10_takes npX10_takes rfl rfl rfl ⟨by decide, by decide⟩ (Nat.le_of_ble_eq_true rfl) rfl (Nat.le_of_ble_eq_true rfl) (c_takesT hT hR hk hc ?_)
      show V rS g (dd + 3) mX10_either 11 [some (.ref 83), some (.int v), none] [.int (1 : Int32)] (put M 83 6 (nI (k + 1))) Q
      refine V.if_eq (tgt := 36) dX10_either_11 (by decide) (fun q => absurd q ((by decide))) (fun c11 => ?_)
      refine V.aload_n dX10_either_14 rfl (i := 0) rfl ?_
      refine V.invv (z := mX10_both) (As := []) dX10_either_15 rfl mlRX10_93 okX10_both npX10_both rfl rfl rfl ⟨by decide, by decide⟩ (Nat.le_of_ble_eq_true rfl) rfl (Nat.le_of_ble_eq_true rfl) (hS (dd + 2) op (k + 1) (out ++ w0) _ _ (true, k1, o1) (by omega) ho hks (by omega) hR.go e (fun M1 v2 hT2 hF2 => ?_))
      show V rS g (dd + 3) mX10_either 18 [some (.ref 83), some (.int v), none] [.int v2] M1 Q
      obtain ⟨w2, hw2, hv2, h2⟩ := hT2 rfl
      refine V.istore_n dX10_either_18 rfl (i := 2) (by decide) (fun _ h => by cases h; exact Or.inl rfl) rfl ?_
      refine V.iload_n dX10_either_19 rfl (i := 1) rfl ?_
      suffices kJ20 : V rS g (dd + 3) mX10_either 32 [some (.ref 83), some (.int v), some (.int v2)] [.int (if v = (0 : Int32) then (if v2 = (0 : Int32) then (0 : Int32) else (1 : Int32)) else (1 : Int32))] M1 Q by
        refine V.if_ne (tgt := 27) dX10_either_20 (by decide) (fun c20 => ?_) (fun c20 => ?_)
        · refine V.iconst dX10_either_27 (v := 1) (by decide) ?_
          refine V.goto dX10_either_28 (tgt := 32) (by decide) ?_
          rw [if_neg c20] at kJ20; exact kJ20
        · refine V.iload_n dX10_either_23 rfl (i := 2) rfl ?_
          refine V.if_eq (tgt := 31) dX10_either_24 (by decide) (fun c24 => ?_) (fun c24 => ?_)
          · refine V.iconst dX10_either_31 (v := 0) (by decide) ?_
            rw [if_pos c20, if_pos c24] at kJ20; exact kJ20
          · refine V.iconst dX10_either_27 (v := 1) (by decide) ?_
            refine V.goto dX10_either_28 (tgt := 32) (by decide) ?_
            rw [if_pos c20, if_neg c24] at kJ20; exact kJ20
      refine V.top (x' := (joinF 124 v v2)) ((jn124 v v2)) ?_
      refine V.istore_n dX10_either_32 rfl (i := 1) (by decide) (fun _ h => by cases h; exact Or.inl rfl) rfl ?_
      refine V.goto dX10_either_33 (tgt := 5) (by decide) ?_
      exact V.fg (ls' := [some (.ref 83), some (.int _), none]) ⟨rfl, rfl, trivial⟩ (hP (dd + 3) op k1 out (w0 ++ w2 ++ [-124]) (joinF 124 v v2) M1 Q r (by omega) ho i2 (by omega) (hv.bin hv2 (by decide) (by decide)) h2 (by rw [← List.append_assoc, ← List.append_assoc, ← hw2, ← hc]; exact he) hQ)
  · rw [rd_lpN hs] at he
    subst he
    refine V.aload_n dX10_either_5 rfl (i := 0) rfl ?_
    refine V.bipush dX10_either_6 (v := 124) (by decide) ?_
    refine V.invv (z := mX10_takes) (As := [_]) dX10_either_8 rfl mlRX10_96 okX10_takes npX10_takes rfl rfl rfl ⟨by decide, by decide⟩ (Nat.le_of_ble_eq_true rfl) rfl (Nat.le_of_ble_eq_true rfl) (c_takesN hT hR hk (fun z => hs (lvS_0.mpr z)) ?_)
    show V rS g (dd + 3) mX10_either 11 [some (.ref 83), some (.int v), none] [.int (0 : Int32)] M Q
    refine V.if_eq (tgt := 36) dX10_either_11 (by decide) (fun c11 => ?_) (fun q => absurd (rfl) q)
    refine V.iload_n dX10_either_36 rfl (i := 1) rfl ?_
    exact V.ret dX10_either_37 rfl (hQ M v (fun _ => ⟨w0, rfl, hv, hR⟩) (fun z => by cases z))
set_option maxHeartbeats 4000000 in
set_option maxRecDepth 100000 in
theorem s_EM_either {g : GG} {M0 : Mem} {us base sz f : Nat} (hT : EvT M0 us base sz) (hS : EM g M0 us base sz f 1 mX10_both [some (.ref 83), none, none]) (hP : EP g M0 us base sz f 0 mX10_either [none]) : EM g M0 us base sz (f + 1) 0 mX10_either [some (.ref 83), none, none] := by
  intro D op k out M Q r hD ho hk hf hR he hQ
  have h50 := hT.2.2.1
  obtain ⟨dd, rfl⟩ : ∃ dd, D = dd + 3 := ⟨D - 3, by omega⟩
  rcases e : rd (nx (fun i => M0 84 (base + i)) sz) us f (0 + 1) op k out with ⟨b, k1, o1⟩
  obtain ⟨i1, i2, i3, i4⟩ := rd_inv f (0 + 1) op k out _ (by omega) hk e
  have i4' := i4 (by omega)
  simp only at i1 i2 i3 i4'
  cases b
  · rw [rd_lvF (by omega) e] at he
    subst he
    refine V.aload_n dX10_either_0 rfl (i := 0) rfl ?_
    refine V.invv (z := mX10_both) (As := []) dX10_either_1 rfl mlRX10_93 okX10_both npX10_both rfl rfl rfl ⟨by decide, by decide⟩ (Nat.le_of_ble_eq_true rfl) rfl (Nat.le_of_ble_eq_true rfl) (hS (dd + 2) op k out _ _ (false, k1, o1) (by omega) ho hk (by omega) hR e (fun M1 v2 hT2 hF2 => ?_))
    show V rS g (dd + 3) mX10_either 4 [some (.ref 83), none, none] [.int v2] M1 Q
    refine V.istore_n dX10_either_4 rfl (i := 1) (by decide) (fun _ h => by cases h; exact Or.inl rfl) rfl ?_
    exact fl_either (p := k1) (d := dd + 1) (hF2 rfl) (by omega) (hQ M1 _ (fun z => by cases z) (fun _ => hF2 rfl))
  · rw [rd_lvT (by omega) e] at he
    have i5 := i4' rfl
    refine V.aload_n dX10_either_0 rfl (i := 0) rfl ?_
    refine V.invv (z := mX10_both) (As := []) dX10_either_1 rfl mlRX10_93 okX10_both npX10_both rfl rfl rfl ⟨by decide, by decide⟩ (Nat.le_of_ble_eq_true rfl) rfl (Nat.le_of_ble_eq_true rfl) (hS (dd + 2) op k out _ _ (true, k1, o1) (by omega) ho hk (by omega) hR e (fun M1 v2 hT2 hF2 => ?_))
    show V rS g (dd + 3) mX10_either 4 [some (.ref 83), none, none] [.int v2] M1 Q
    obtain ⟨w2, hw2, hv2, h2⟩ := hT2 rfl
    refine V.istore_n dX10_either_4 rfl (i := 1) (by decide) (fun _ h => by cases h; exact Or.inl rfl) rfl ?_
    exact hP (dd + 3) op k1 out w2 v2 M1 Q r (by omega) ho i2 (by omega) hv2 h2 (by rw [← hw2]; exact he) hQ
set_option maxHeartbeats 4000000 in
set_option maxRecDepth 100000 in
theorem s_EP_both {g : GG} {M0 : Mem} {us base sz f : Nat} (hT : EvT M0 us base sz) (hS : EM g M0 us base sz f 2 mX10_compared [some (.ref 83), none, none, none]) (hP : EP g M0 us base sz f 1 mX10_both [none]) : EP g M0 us base sz (f + 1) 1 mX10_both [none] := by
  intro D op k out w0 v M Q r hD ho hk hf hv hR he hQ
  have h50 := hT.2.2.1
  obtain ⟨dd, rfl⟩ : ∃ dd, D = dd + 3 := ⟨D - 3, by omega⟩
  by_cases hs : lvS ((nx (fun i => M0 84 (base + i)) sz) k) = nI 1
  · have hks := lvS_in (by omega) hs
    rcases e : rd (nx (fun i => M0 84 (base + i)) sz) us f (1 + 1) op (k + 1) (out ++ w0) with ⟨b, k1, o1⟩
    obtain ⟨i1, i2, i3, i4⟩ := rd_inv f (1 + 1) op (k + 1) (out ++ w0) _ (by omega) hks e
    have i4' := i4 (by omega)
    simp only at i1 i2 i3 i4'
    have hc := lvS_1.mp hs
    cases b
    · rw [rd_lpF hs e] at he
      subst he
      refine V.aload_n dX10_both_5 rfl (i := 0) rfl ?_
      refine V.bipush dX10_both_6 (v := 38) (by decide) ?_
      refine V.invv (z := mX10_takes) (As := [_]) dX10_both_8 rfl mlRX10_96 okX10_takes npX10_takes rfl rfl rfl ⟨by decide, by decide⟩ (Nat.le_of_ble_eq_true rfl) rfl (Nat.le_of_ble_eq_true rfl) (c_takesT hT hR hk hc ?_)
      show V rS g (dd + 3) mX10_both 11 [some (.ref 83), some (.int v), none] [.int (1 : Int32)] (put M 83 6 (nI (k + 1))) Q
      refine V.if_eq (tgt := 36) dX10_both_11 (by decide) (fun q => absurd q ((by decide))) (fun c11 => ?_)
      refine V.aload_n dX10_both_14 rfl (i := 0) rfl ?_
      refine V.invv (z := mX10_compared) (As := []) dX10_both_15 rfl mlRX10_100 okX10_compared npX10_compared rfl rfl rfl ⟨by decide, by decide⟩ (Nat.le_of_ble_eq_true rfl) rfl (Nat.le_of_ble_eq_true rfl) (hS (dd + 2) op (k + 1) (out ++ w0) _ _ (false, k1, o1) (by omega) ho hks (by omega) hR.go e (fun M1 v2 hT2 hF2 => ?_))
      show V rS g (dd + 3) mX10_both 18 [some (.ref 83), some (.int v), none] [.int v2] M1 Q
      refine V.istore_n dX10_both_18 rfl (i := 2) (by decide) (fun _ h => by cases h; exact Or.inl rfl) rfl ?_
      refine V.iload_n dX10_both_19 rfl (i := 1) rfl ?_
      suffices kJ20 : V rS g (dd + 3) mX10_both 32 [some (.ref 83), some (.int v), some (.int v2)] [.int (if v = (0 : Int32) then (0 : Int32) else (if v2 = (0 : Int32) then (0 : Int32) else (1 : Int32)))] M1 Q by
        refine V.if_eq (tgt := 31) dX10_both_20 (by decide) (fun c20 => ?_) (fun c20 => ?_)
        · refine V.iconst dX10_both_31 (v := 0) (by decide) ?_
          rw [if_pos c20] at kJ20; exact kJ20
        · refine V.iload_n dX10_both_23 rfl (i := 2) rfl ?_
          refine V.if_eq (tgt := 31) dX10_both_24 (by decide) (fun c24 => ?_) (fun c24 => ?_)
          · refine V.iconst dX10_both_31 (v := 0) (by decide) ?_
            rw [if_neg c20, if_pos c24] at kJ20; exact kJ20
          · refine V.iconst dX10_both_27 (v := 1) (by decide) ?_
            refine V.goto dX10_both_28 (tgt := 32) (by decide) ?_
            rw [if_neg c20, if_neg c24] at kJ20; exact kJ20
      refine V.top (x' := (joinF 38 v v2)) ((jn38 v v2)) ?_
      refine V.istore_n dX10_both_32 rfl (i := 1) (by decide) (fun _ h => by cases h; exact Or.inl rfl) rfl ?_
      refine V.goto dX10_both_33 (tgt := 5) (by decide) ?_
      exact V.fg (ls' := [some (.ref 83), some (.int _), none]) ⟨rfl, rfl, trivial⟩ (fl_both (p := k1) (d := dd + 1) (hF2 rfl) (by omega) (hQ M1 _ (fun z => by cases z) (fun _ => hF2 rfl)))
    · rw [rd_lpT hs (by omega) e] at he
      refine V.aload_n dX10_both_5 rfl (i := 0) rfl ?_
      refine V.bipush dX10_both_6 (v := 38) (by decide) ?_
      refine V.invv (z := mX10_takes) (As := [_]) dX10_both_8 rfl mlRX10_96 okX10_takes npX10_takes rfl rfl rfl ⟨by decide, by decide⟩ (Nat.le_of_ble_eq_true rfl) rfl (Nat.le_of_ble_eq_true rfl) (c_takesT hT hR hk hc ?_)
      show V rS g (dd + 3) mX10_both 11 [some (.ref 83), some (.int v), none] [.int (1 : Int32)] (put M 83 6 (nI (k + 1))) Q
      refine V.if_eq (tgt := 36) dX10_both_11 (by decide) (fun q => absurd q ((by decide))) (fun c11 => ?_)
      refine V.aload_n dX10_both_14 rfl (i := 0) rfl ?_
      refine V.invv (z := mX10_compared) (As := []) dX10_both_15 rfl mlRX10_100 okX10_compared npX10_compared rfl rfl rfl ⟨by decide, by decide⟩ (Nat.le_of_ble_eq_true rfl) rfl (Nat.le_of_ble_eq_true rfl) (hS (dd + 2) op (k + 1) (out ++ w0) _ _ (true, k1, o1) (by omega) ho hks (by omega) hR.go e (fun M1 v2 hT2 hF2 => ?_))
      show V rS g (dd + 3) mX10_both 18 [some (.ref 83), some (.int v), none] [.int v2] M1 Q
      obtain ⟨w2, hw2, hv2, h2⟩ := hT2 rfl
      refine V.istore_n dX10_both_18 rfl (i := 2) (by decide) (fun _ h => by cases h; exact Or.inl rfl) rfl ?_
      refine V.iload_n dX10_both_19 rfl (i := 1) rfl ?_
      suffices kJ20 : V rS g (dd + 3) mX10_both 32 [some (.ref 83), some (.int v), some (.int v2)] [.int (if v = (0 : Int32) then (0 : Int32) else (if v2 = (0 : Int32) then (0 : Int32) else (1 : Int32)))] M1 Q by
        refine V.if_eq (tgt := 31) dX10_both_20 (by decide) (fun c20 => ?_) (fun c20 => ?_)
        · refine V.iconst dX10_both_31 (v := 0) (by decide) ?_
          rw [if_pos c20] at kJ20; exact kJ20
        · refine V.iload_n dX10_both_23 rfl (i := 2) rfl ?_
          refine V.if_eq (tgt := 31) dX10_both_24 (by decide) (fun c24 => ?_) (fun c24 => ?_)
          · refine V.iconst dX10_both_31 (v := 0) (by decide) ?_
            rw [if_neg c20, if_pos c24] at kJ20; exact kJ20
          · refine V.iconst dX10_both_27 (v := 1) (by decide) ?_
            refine V.goto dX10_both_28 (tgt := 32) (by decide) ?_
            rw [if_neg c20, if_neg c24] at kJ20; exact kJ20
      refine V.top (x' := (joinF 38 v v2)) ((jn38 v v2)) ?_
      refine V.istore_n dX10_both_32 rfl (i := 1) (by decide) (fun _ h => by cases h; exact Or.inl rfl) rfl ?_
      refine V.goto dX10_both_33 (tgt := 5) (by decide) ?_
      exact V.fg (ls' := [some (.ref 83), some (.int _), none]) ⟨rfl, rfl, trivial⟩ (hP (dd + 3) op k1 out (w0 ++ w2 ++ [-38]) (joinF 38 v v2) M1 Q r (by omega) ho i2 (by omega) (hv.bin hv2 (by decide) (by decide)) h2 (by rw [← List.append_assoc, ← List.append_assoc, ← hw2, ← hc]; exact he) hQ)
  · rw [rd_lpN hs] at he
    subst he
    refine V.aload_n dX10_both_5 rfl (i := 0) rfl ?_
    refine V.bipush dX10_both_6 (v := 38) (by decide) ?_
    refine V.invv (z := mX10_takes) (As := [_]) dX10_both_8 rfl mlRX10_96 okX10_takes npX10_takes rfl rfl rfl ⟨by decide, by decide⟩ (Nat.le_of_ble_eq_true rfl) rfl (Nat.le_of_ble_eq_true rfl) (c_takesN hT hR hk (fun z => hs (lvS_1.mpr z)) ?_)
    show V rS g (dd + 3) mX10_both 11 [some (.ref 83), some (.int v), none] [.int (0 : Int32)] M Q
    refine V.if_eq (tgt := 36) dX10_both_11 (by decide) (fun c11 => ?_) (fun q => absurd (rfl) q)
    refine V.iload_n dX10_both_36 rfl (i := 1) rfl ?_
    exact V.ret dX10_both_37 rfl (hQ M v (fun _ => ⟨w0, rfl, hv, hR⟩) (fun z => by cases z))
set_option maxHeartbeats 4000000 in
set_option maxRecDepth 100000 in
theorem s_EM_both {g : GG} {M0 : Mem} {us base sz f : Nat} (hT : EvT M0 us base sz) (hS : EM g M0 us base sz f 2 mX10_compared [some (.ref 83), none, none, none]) (hP : EP g M0 us base sz f 1 mX10_both [none]) : EM g M0 us base sz (f + 1) 1 mX10_both [some (.ref 83), none, none] := by
  intro D op k out M Q r hD ho hk hf hR he hQ
  have h50 := hT.2.2.1
  obtain ⟨dd, rfl⟩ : ∃ dd, D = dd + 3 := ⟨D - 3, by omega⟩
  rcases e : rd (nx (fun i => M0 84 (base + i)) sz) us f (1 + 1) op k out with ⟨b, k1, o1⟩
  obtain ⟨i1, i2, i3, i4⟩ := rd_inv f (1 + 1) op k out _ (by omega) hk e
  have i4' := i4 (by omega)
  simp only at i1 i2 i3 i4'
  cases b
  · rw [rd_lvF (by omega) e] at he
    subst he
    refine V.aload_n dX10_both_0 rfl (i := 0) rfl ?_
    refine V.invv (z := mX10_compared) (As := []) dX10_both_1 rfl mlRX10_100 okX10_compared npX10_compared rfl rfl rfl ⟨by decide, by decide⟩ (Nat.le_of_ble_eq_true rfl) rfl (Nat.le_of_ble_eq_true rfl) (hS (dd + 2) op k out _ _ (false, k1, o1) (by omega) ho hk (by omega) hR e (fun M1 v2 hT2 hF2 => ?_))
    show V rS g (dd + 3) mX10_both 4 [some (.ref 83), none, none] [.int v2] M1 Q
    refine V.istore_n dX10_both_4 rfl (i := 1) (by decide) (fun _ h => by cases h; exact Or.inl rfl) rfl ?_
    exact fl_both (p := k1) (d := dd + 1) (hF2 rfl) (by omega) (hQ M1 _ (fun z => by cases z) (fun _ => hF2 rfl))
  · rw [rd_lvT (by omega) e] at he
    have i5 := i4' rfl
    refine V.aload_n dX10_both_0 rfl (i := 0) rfl ?_
    refine V.invv (z := mX10_compared) (As := []) dX10_both_1 rfl mlRX10_100 okX10_compared npX10_compared rfl rfl rfl ⟨by decide, by decide⟩ (Nat.le_of_ble_eq_true rfl) rfl (Nat.le_of_ble_eq_true rfl) (hS (dd + 2) op k out _ _ (true, k1, o1) (by omega) ho hk (by omega) hR e (fun M1 v2 hT2 hF2 => ?_))
    show V rS g (dd + 3) mX10_both 4 [some (.ref 83), none, none] [.int v2] M1 Q
    obtain ⟨w2, hw2, hv2, h2⟩ := hT2 rfl
    refine V.istore_n dX10_both_4 rfl (i := 1) (by decide) (fun _ h => by cases h; exact Or.inl rfl) rfl ?_
    exact hP (dd + 3) op k1 out w2 v2 M1 Q r (by omega) ho i2 (by omega) hv2 h2 (by rw [← hw2]; exact he) hQ
set_option maxHeartbeats 4000000 in
set_option maxRecDepth 100000 in
theorem s_EP_sum {g : GG} {M0 : Mem} {us base sz f : Nat} (hT : EvT M0 us base sz) (hS : EM g M0 us base sz f 4 mX10_product [some (.ref 83), none, none, none]) (hP : EP g M0 us base sz f 3 mX10_sum [none, none]) : EP g M0 us base sz (f + 1) 3 mX10_sum [none, none] := by
  intro D op k out w0 v M Q r hD ho hk hf hv hR he hQ
  have h50 := hT.2.2.1
  obtain ⟨dd, rfl⟩ : ∃ dd, D = dd + 3 := ⟨D - 3, by omega⟩
  by_cases hs : lvS ((nx (fun i => M0 84 (base + i)) sz) k) = nI 3
  · have hks := lvS_in (by omega) hs
    rcases e : rd (nx (fun i => M0 84 (base + i)) sz) us f (3 + 1) op (k + 1) (out ++ w0) with ⟨b, k1, o1⟩
    obtain ⟨i1, i2, i3, i4⟩ := rd_inv f (3 + 1) op (k + 1) (out ++ w0) _ (by omega) hks e
    have i4' := i4 (by omega)
    simp only at i1 i2 i3 i4'
    rcases lvS_3.mp hs with hc | hc
    · skip
      cases b
      · rw [rd_lpF hs e] at he
        subst he
        refine V.aload_n dX10_sum_5 rfl (i := 0) rfl ?_
        refine V.invv (z := mX10_here) (As := []) dX10_sum_6 rfl mlRX10_85 okX10_here npX10_here rfl rfl rfl ⟨by decide, by decide⟩ (Nat.le_of_ble_eq_true rfl) rfl (Nat.le_of_ble_eq_true rfl) (c_here hT hR hk ?_)
        show V rS g (dd + 3) mX10_sum 9 [some (.ref 83), some (.int v), none, none] [.int ((nx (fun i => M0 84 (base + i)) sz) k)] M Q
        refine V.top (x' := (43 : Int32)) (hc) ?_
        refine V.bipush dX10_sum_9 (v := 43) (by decide) ?_
        refine V.ic_eq (tgt := 23) dX10_sum_11 (by decide) (fun c11 => ?_) (fun q => absurd (rfl) q)
        refine V.aload_n dX10_sum_23 rfl (i := 0) rfl ?_
        refine V.invv (z := mX10_here) (As := []) dX10_sum_24 rfl mlRX10_85 okX10_here npX10_here rfl rfl rfl ⟨by decide, by decide⟩ (Nat.le_of_ble_eq_true rfl) rfl (Nat.le_of_ble_eq_true rfl) (c_here hT hR hk ?_)
        show V rS g (dd + 3) mX10_sum 27 [some (.ref 83), some (.int v), none, none] [.int ((nx (fun i => M0 84 (base + i)) sz) k)] M Q
        refine V.top (x' := (43 : Int32)) (hc) ?_
        refine V.istore_n dX10_sum_27 rfl (i := 2) (by decide) (fun _ h => by cases h; exact Or.inl rfl) rfl ?_
        refine V.aload_n dX10_sum_28 rfl (i := 0) rfl ?_
        refine V.dup dX10_sum_29 rfl ?_
        refine V.getI dX10_sum_30 rfl flRX10_72 rfl ⟨by decide, by decide⟩ ?_
        refine V.top (x' := (nI k)) (hR.2.1) ?_
        refine V.iconst dX10_sum_33 (v := 1) (by decide) ?_
        refine V.iadd dX10_sum_34 ?_
        refine V.top (x' := (nI (k + 1))) (nI_add k 1) ?_
        refine V.putI dX10_sum_35 rfl fpRX10_72 rfl ⟨by decide, by decide⟩ ?_
        refine V.aload_n dX10_sum_38 rfl (i := 0) rfl ?_
        refine V.invv (z := mX10_product) (As := []) dX10_sum_39 rfl mlRX10_106 okX10_product npX10_product rfl rfl rfl ⟨by decide, by decide⟩ (Nat.le_of_ble_eq_true rfl) rfl (Nat.le_of_ble_eq_true rfl) (hS (dd + 2) op (k + 1) (out ++ w0) _ _ (false, k1, o1) (by omega) ho hks (by omega) hR.go e (fun M1 v2 hT2 hF2 => ?_))
        show V rS g (dd + 3) mX10_sum 42 [some (.ref 83), some (.int v), some (.int (43 : Int32)), none] [.int v2] M1 Q
        refine V.istore_n dX10_sum_42 rfl (i := 3) (by decide) (fun _ h => by cases h; exact Or.inl rfl) rfl ?_
        refine V.iload_n dX10_sum_43 rfl (i := 2) rfl ?_
        refine V.bipush dX10_sum_44 (v := 43) (by decide) ?_
        suffices kJ46 : V rS g (dd + 3) mX10_sum 58 [some (.ref 83), some (.int v), some (.int (43 : Int32)), some (.int v2)] [.int (if (43 : Int32) = (43 : Int32) then (v + v2) else (v - v2))] M1 Q by
          refine V.ic_ne (tgt := 55) dX10_sum_46 (by decide) (fun c46 => ?_) (fun c46 => ?_)
          · refine V.iload_n dX10_sum_55 rfl (i := 1) rfl ?_
            refine V.iload_n dX10_sum_56 rfl (i := 3) rfl ?_
            refine V.isub dX10_sum_57 ?_
            rw [if_neg c46] at kJ46; exact kJ46
          · refine V.iload_n dX10_sum_49 rfl (i := 1) rfl ?_
            refine V.iload_n dX10_sum_50 rfl (i := 3) rfl ?_
            refine V.iadd dX10_sum_51 ?_
            refine V.goto dX10_sum_52 (tgt := 58) (by decide) ?_
            rw [if_pos c46] at kJ46; exact kJ46
        refine V.top (x' := (joinF 43 v v2)) ((jn43 v v2)) ?_
        refine V.istore_n dX10_sum_58 rfl (i := 1) (by decide) (fun _ h => by cases h; exact Or.inl rfl) rfl ?_
        refine V.goto dX10_sum_59 (tgt := 5) (by decide) ?_
        exact V.fg (ls' := [some (.ref 83), some (.int _), none, none]) ⟨rfl, rfl, trivial⟩ (fl_sum (p := k1) (d := dd + 1) (hF2 rfl) (by omega) (hQ M1 _ (fun z => by cases z) (fun _ => hF2 rfl)))
      · rw [rd_lpT hs (by omega) e] at he
        refine V.aload_n dX10_sum_5 rfl (i := 0) rfl ?_
        refine V.invv (z := mX10_here) (As := []) dX10_sum_6 rfl mlRX10_85 okX10_here npX10_here rfl rfl rfl ⟨by decide, by decide⟩ (Nat.le_of_ble_eq_true rfl) rfl (Nat.le_of_ble_eq_true rfl) (c_here hT hR hk ?_)
        show V rS g (dd + 3) mX10_sum 9 [some (.ref 83), some (.int v), none, none] [.int ((nx (fun i => M0 84 (base + i)) sz) k)] M Q
        refine V.top (x' := (43 : Int32)) (hc) ?_
        refine V.bipush dX10_sum_9 (v := 43) (by decide) ?_
        refine V.ic_eq (tgt := 23) dX10_sum_11 (by decide) (fun c11 => ?_) (fun q => absurd (rfl) q)
        refine V.aload_n dX10_sum_23 rfl (i := 0) rfl ?_
        refine V.invv (z := mX10_here) (As := []) dX10_sum_24 rfl mlRX10_85 okX10_here npX10_here rfl rfl rfl ⟨by decide, by decide⟩ (Nat.le_of_ble_eq_true rfl) rfl (Nat.le_of_ble_eq_true rfl) (c_here hT hR hk ?_)
        show V rS g (dd + 3) mX10_sum 27 [some (.ref 83), some (.int v), none, none] [.int ((nx (fun i => M0 84 (base + i)) sz) k)] M Q
        refine V.top (x' := (43 : Int32)) (hc) ?_
        refine V.istore_n dX10_sum_27 rfl (i := 2) (by decide) (fun _ h => by cases h; exact Or.inl rfl) rfl ?_
        refine V.aload_n dX10_sum_28 rfl (i := 0) rfl ?_
        refine V.dup dX10_sum_29 rfl ?_
        refine V.getI dX10_sum_30 rfl flRX10_72 rfl ⟨by decide, by decide⟩ ?_
        refine V.top (x' := (nI k)) (hR.2.1) ?_
        refine V.iconst dX10_sum_33 (v := 1) (by decide) ?_
        refine V.iadd dX10_sum_34 ?_
        refine V.top (x' := (nI (k + 1))) (nI_add k 1) ?_
        refine V.putI dX10_sum_35 rfl fpRX10_72 rfl ⟨by decide, by decide⟩ ?_
        refine V.aload_n dX10_sum_38 rfl (i := 0) rfl ?_
        refine V.invv (z := mX10_product) (As := []) dX10_sum_39 rfl mlRX10_106 okX10_product npX10_product rfl rfl rfl ⟨by decide, by decide⟩ (Nat.le_of_ble_eq_true rfl) rfl (Nat.le_of_ble_eq_true rfl) (hS (dd + 2) op (k + 1) (out ++ w0) _ _ (true, k1, o1) (by omega) ho hks (by omega) hR.go e (fun M1 v2 hT2 hF2 => ?_))
        show V rS g (dd + 3) mX10_sum 42 [some (.ref 83), some (.int v), some (.int (43 : Int32)), none] [.int v2] M1 Q
        obtain ⟨w2, hw2, hv2, h2⟩ := hT2 rfl
        refine V.istore_n dX10_sum_42 rfl (i := 3) (by decide) (fun _ h => by cases h; exact Or.inl rfl) rfl ?_
        refine V.iload_n dX10_sum_43 rfl (i := 2) rfl ?_
        refine V.bipush dX10_sum_44 (v := 43) (by decide) ?_
        suffices kJ46 : V rS g (dd + 3) mX10_sum 58 [some (.ref 83), some (.int v), some (.int (43 : Int32)), some (.int v2)] [.int (if (43 : Int32) = (43 : Int32) then (v + v2) else (v - v2))] M1 Q by
          refine V.ic_ne (tgt := 55) dX10_sum_46 (by decide) (fun c46 => ?_) (fun c46 => ?_)
          · refine V.iload_n dX10_sum_55 rfl (i := 1) rfl ?_
            refine V.iload_n dX10_sum_56 rfl (i := 3) rfl ?_
            refine V.isub dX10_sum_57 ?_
            rw [if_neg c46] at kJ46; exact kJ46
          · refine V.iload_n dX10_sum_49 rfl (i := 1) rfl ?_
            refine V.iload_n dX10_sum_50 rfl (i := 3) rfl ?_
            refine V.iadd dX10_sum_51 ?_
            refine V.goto dX10_sum_52 (tgt := 58) (by decide) ?_
            rw [if_pos c46] at kJ46; exact kJ46
        refine V.top (x' := (joinF 43 v v2)) ((jn43 v v2)) ?_
        refine V.istore_n dX10_sum_58 rfl (i := 1) (by decide) (fun _ h => by cases h; exact Or.inl rfl) rfl ?_
        refine V.goto dX10_sum_59 (tgt := 5) (by decide) ?_
        exact V.fg (ls' := [some (.ref 83), some (.int _), none, none]) ⟨rfl, rfl, trivial⟩ (hP (dd + 3) op k1 out (w0 ++ w2 ++ [-43]) (joinF 43 v v2) M1 Q r (by omega) ho i2 (by omega) (hv.bin hv2 (by decide) (by decide)) h2 (by rw [← List.append_assoc, ← List.append_assoc, ← hw2, ← hc]; exact he) hQ)
    · skip
      cases b
      · rw [rd_lpF hs e] at he
        subst he
        refine V.aload_n dX10_sum_5 rfl (i := 0) rfl ?_
        refine V.invv (z := mX10_here) (As := []) dX10_sum_6 rfl mlRX10_85 okX10_here npX10_here rfl rfl rfl ⟨by decide, by decide⟩ (Nat.le_of_ble_eq_true rfl) rfl (Nat.le_of_ble_eq_true rfl) (c_here hT hR hk ?_)
        show V rS g (dd + 3) mX10_sum 9 [some (.ref 83), some (.int v), none, none] [.int ((nx (fun i => M0 84 (base + i)) sz) k)] M Q
        refine V.top (x' := (45 : Int32)) (hc) ?_
        refine V.bipush dX10_sum_9 (v := 43) (by decide) ?_
        refine V.ic_eq (tgt := 23) dX10_sum_11 (by decide) (fun q => absurd q ((by decide))) (fun c11 => ?_)
        refine V.aload_n dX10_sum_14 rfl (i := 0) rfl ?_
        refine V.invv (z := mX10_here) (As := []) dX10_sum_15 rfl mlRX10_85 okX10_here npX10_here rfl rfl rfl ⟨by decide, by decide⟩ (Nat.le_of_ble_eq_true rfl) rfl (Nat.le_of_ble_eq_true rfl) (c_here hT hR hk ?_)
        show V rS g (dd + 3) mX10_sum 18 [some (.ref 83), some (.int v), none, none] [.int ((nx (fun i => M0 84 (base + i)) sz) k)] M Q
        refine V.top (x' := (45 : Int32)) (hc) ?_
        refine V.bipush dX10_sum_18 (v := 45) (by decide) ?_
        refine V.ic_ne (tgt := 62) dX10_sum_20 (by decide) (fun q => absurd (rfl) q) (fun c20 => ?_)
        refine V.aload_n dX10_sum_23 rfl (i := 0) rfl ?_
        refine V.invv (z := mX10_here) (As := []) dX10_sum_24 rfl mlRX10_85 okX10_here npX10_here rfl rfl rfl ⟨by decide, by decide⟩ (Nat.le_of_ble_eq_true rfl) rfl (Nat.le_of_ble_eq_true rfl) (c_here hT hR hk ?_)
        show V rS g (dd + 3) mX10_sum 27 [some (.ref 83), some (.int v), none, none] [.int ((nx (fun i => M0 84 (base + i)) sz) k)] M Q
        refine V.top (x' := (45 : Int32)) (hc) ?_
        refine V.istore_n dX10_sum_27 rfl (i := 2) (by decide) (fun _ h => by cases h; exact Or.inl rfl) rfl ?_
        refine V.aload_n dX10_sum_28 rfl (i := 0) rfl ?_
        refine V.dup dX10_sum_29 rfl ?_
        refine V.getI dX10_sum_30 rfl flRX10_72 rfl ⟨by decide, by decide⟩ ?_
        refine V.top (x' := (nI k)) (hR.2.1) ?_
        refine V.iconst dX10_sum_33 (v := 1) (by decide) ?_
        refine V.iadd dX10_sum_34 ?_
        refine V.top (x' := (nI (k + 1))) (nI_add k 1) ?_
        refine V.putI dX10_sum_35 rfl fpRX10_72 rfl ⟨by decide, by decide⟩ ?_
        refine V.aload_n dX10_sum_38 rfl (i := 0) rfl ?_
        refine V.invv (z := mX10_product) (As := []) dX10_sum_39 rfl mlRX10_106 okX10_product npX10_product rfl rfl rfl ⟨by decide, by decide⟩ (Nat.le_of_ble_eq_true rfl) rfl (Nat.le_of_ble_eq_true rfl) (hS (dd + 2) op (k + 1) (out ++ w0) _ _ (false, k1, o1) (by omega) ho hks (by omega) hR.go e (fun M1 v2 hT2 hF2 => ?_))
        show V rS g (dd + 3) mX10_sum 42 [some (.ref 83), some (.int v), some (.int (45 : Int32)), none] [.int v2] M1 Q
        refine V.istore_n dX10_sum_42 rfl (i := 3) (by decide) (fun _ h => by cases h; exact Or.inl rfl) rfl ?_
        refine V.iload_n dX10_sum_43 rfl (i := 2) rfl ?_
        refine V.bipush dX10_sum_44 (v := 43) (by decide) ?_
        suffices kJ46 : V rS g (dd + 3) mX10_sum 58 [some (.ref 83), some (.int v), some (.int (45 : Int32)), some (.int v2)] [.int (if (45 : Int32) = (43 : Int32) then (v + v2) else (v - v2))] M1 Q by
          refine V.ic_ne (tgt := 55) dX10_sum_46 (by decide) (fun c46 => ?_) (fun c46 => ?_)
          · refine V.iload_n dX10_sum_55 rfl (i := 1) rfl ?_
            refine V.iload_n dX10_sum_56 rfl (i := 3) rfl ?_
            refine V.isub dX10_sum_57 ?_
            rw [if_neg c46] at kJ46; exact kJ46
          · refine V.iload_n dX10_sum_49 rfl (i := 1) rfl ?_
            refine V.iload_n dX10_sum_50 rfl (i := 3) rfl ?_
            refine V.iadd dX10_sum_51 ?_
            refine V.goto dX10_sum_52 (tgt := 58) (by decide) ?_
            rw [if_pos c46] at kJ46; exact kJ46
        refine V.top (x' := (joinF 45 v v2)) ((jn45 v v2)) ?_
        refine V.istore_n dX10_sum_58 rfl (i := 1) (by decide) (fun _ h => by cases h; exact Or.inl rfl) rfl ?_
        refine V.goto dX10_sum_59 (tgt := 5) (by decide) ?_
        exact V.fg (ls' := [some (.ref 83), some (.int _), none, none]) ⟨rfl, rfl, trivial⟩ (fl_sum (p := k1) (d := dd + 1) (hF2 rfl) (by omega) (hQ M1 _ (fun z => by cases z) (fun _ => hF2 rfl)))
      · rw [rd_lpT hs (by omega) e] at he
        refine V.aload_n dX10_sum_5 rfl (i := 0) rfl ?_
        refine V.invv (z := mX10_here) (As := []) dX10_sum_6 rfl mlRX10_85 okX10_here npX10_here rfl rfl rfl ⟨by decide, by decide⟩ (Nat.le_of_ble_eq_true rfl) rfl (Nat.le_of_ble_eq_true rfl) (c_here hT hR hk ?_)
        show V rS g (dd + 3) mX10_sum 9 [some (.ref 83), some (.int v), none, none] [.int ((nx (fun i => M0 84 (base + i)) sz) k)] M Q
        refine V.top (x' := (45 : Int32)) (hc) ?_
        refine V.bipush dX10_sum_9 (v := 43) (by decide) ?_
        refine V.ic_eq (tgt := 23) dX10_sum_11 (by decide) (fun q => absurd q ((by decide))) (fun c11 => ?_)
        refine V.aload_n dX10_sum_14 rfl (i := 0) rfl ?_
        refine V.invv (z := mX10_here) (As := []) dX10_sum_15 rfl mlRX10_85 okX10_here npX10_here rfl rfl rfl ⟨by decide, by decide⟩ (Nat.le_of_ble_eq_true rfl) rfl (Nat.le_of_ble_eq_true rfl) (c_here hT hR hk ?_)
        show V rS g (dd + 3) mX10_sum 18 [some (.ref 83), some (.int v), none, none] [.int ((nx (fun i => M0 84 (base + i)) sz) k)] M Q
        refine V.top (x' := (45 : Int32)) (hc) ?_
        refine V.bipush dX10_sum_18 (v := 45) (by decide) ?_
        refine V.ic_ne (tgt := 62) dX10_sum_20 (by decide) (fun q => absurd (rfl) q) (fun c20 => ?_)
        refine V.aload_n dX10_sum_23 rfl (i := 0) rfl ?_
        refine V.invv (z := mX10_here) (As := []) dX10_sum_24 rfl mlRX10_85 okX10_here npX10_here rfl rfl rfl ⟨by decide, by decide⟩ (Nat.le_of_ble_eq_true rfl) rfl (Nat.le_of_ble_eq_true rfl) (c_here hT hR hk ?_)
        show V rS g (dd + 3) mX10_sum 27 [some (.ref 83), some (.int v), none, none] [.int ((nx (fun i => M0 84 (base + i)) sz) k)] M Q
        refine V.top (x' := (45 : Int32)) (hc) ?_
        refine V.istore_n dX10_sum_27 rfl (i := 2) (by decide) (fun _ h => by cases h; exact Or.inl rfl) rfl ?_
        refine V.aload_n dX10_sum_28 rfl (i := 0) rfl ?_
        refine V.dup dX10_sum_29 rfl ?_
        refine V.getI dX10_sum_30 rfl flRX10_72 rfl ⟨by decide, by decide⟩ ?_
        refine V.top (x' := (nI k)) (hR.2.1) ?_
        refine V.iconst dX10_sum_33 (v := 1) (by decide) ?_
        refine V.iadd dX10_sum_34 ?_
        refine V.top (x' := (nI (k + 1))) (nI_add k 1) ?_
        refine V.putI dX10_sum_35 rfl fpRX10_72 rfl ⟨by decide, by decide⟩ ?_
        refine V.aload_n dX10_sum_38 rfl (i := 0) rfl ?_
        refine V.invv (z := mX10_product) (As := []) dX10_sum_39 rfl mlRX10_106 okX10_product npX10_product rfl rfl rfl ⟨by decide, by decide⟩ (Nat.le_of_ble_eq_true rfl) rfl (Nat.le_of_ble_eq_true rfl) (hS (dd + 2) op (k + 1) (out ++ w0) _ _ (true, k1, o1) (by omega) ho hks (by omega) hR.go e (fun M1 v2 hT2 hF2 => ?_))
        show V rS g (dd + 3) mX10_sum 42 [some (.ref 83), some (.int v), some (.int (45 : Int32)), none] [.int v2] M1 Q
        obtain ⟨w2, hw2, hv2, h2⟩ := hT2 rfl
        refine V.istore_n dX10_sum_42 rfl (i := 3) (by decide) (fun _ h => by cases h; exact Or.inl rfl) rfl ?_
        refine V.iload_n dX10_sum_43 rfl (i := 2) rfl ?_
        refine V.bipush dX10_sum_44 (v := 43) (by decide) ?_
        suffices kJ46 : V rS g (dd + 3) mX10_sum 58 [some (.ref 83), some (.int v), some (.int (45 : Int32)), some (.int v2)] [.int (if (45 : Int32) = (43 : Int32) then (v + v2) else (v - v2))] M1 Q by
          refine V.ic_ne (tgt := 55) dX10_sum_46 (by decide) (fun c46 => ?_) (fun c46 => ?_)
          · refine V.iload_n dX10_sum_55 rfl (i := 1) rfl ?_
            refine V.iload_n dX10_sum_56 rfl (i := 3) rfl ?_
            refine V.isub dX10_sum_57 ?_
            rw [if_neg c46] at kJ46; exact kJ46
          · refine V.iload_n dX10_sum_49 rfl (i := 1) rfl ?_
            refine V.iload_n dX10_sum_50 rfl (i := 3) rfl ?_
            refine V.iadd dX10_sum_51 ?_
            refine V.goto dX10_sum_52 (tgt := 58) (by decide) ?_
            rw [if_pos c46] at kJ46; exact kJ46
        refine V.top (x' := (joinF 45 v v2)) ((jn45 v v2)) ?_
        refine V.istore_n dX10_sum_58 rfl (i := 1) (by decide) (fun _ h => by cases h; exact Or.inl rfl) rfl ?_
        refine V.goto dX10_sum_59 (tgt := 5) (by decide) ?_
        exact V.fg (ls' := [some (.ref 83), some (.int _), none, none]) ⟨rfl, rfl, trivial⟩ (hP (dd + 3) op k1 out (w0 ++ w2 ++ [-45]) (joinF 45 v v2) M1 Q r (by omega) ho i2 (by omega) (hv.bin hv2 (by decide) (by decide)) h2 (by rw [← List.append_assoc, ← List.append_assoc, ← hw2, ← hc]; exact he) hQ)
  · rw [rd_lpN hs] at he
    subst he
    refine V.aload_n dX10_sum_5 rfl (i := 0) rfl ?_
    refine V.invv (z := mX10_here) (As := []) dX10_sum_6 rfl mlRX10_85 okX10_here npX10_here rfl rfl rfl ⟨by decide, by decide⟩ (Nat.le_of_ble_eq_true rfl) rfl (Nat.le_of_ble_eq_true rfl) (c_here hT hR hk ?_)
    show V rS g (dd + 3) mX10_sum 9 [some (.ref 83), some (.int v), none, none] [.int ((nx (fun i => M0 84 (base + i)) sz) k)] M Q
    refine V.bipush dX10_sum_9 (v := 43) (by decide) ?_
    refine V.ic_eq (tgt := 23) dX10_sum_11 (by decide) (fun q => absurd q ((fun z => hs (lvS_3.mpr (Or.inl z))))) (fun c11 => ?_)
    refine V.aload_n dX10_sum_14 rfl (i := 0) rfl ?_
    refine V.invv (z := mX10_here) (As := []) dX10_sum_15 rfl mlRX10_85 okX10_here npX10_here rfl rfl rfl ⟨by decide, by decide⟩ (Nat.le_of_ble_eq_true rfl) rfl (Nat.le_of_ble_eq_true rfl) (c_here hT hR hk ?_)
    show V rS g (dd + 3) mX10_sum 18 [some (.ref 83), some (.int v), none, none] [.int ((nx (fun i => M0 84 (base + i)) sz) k)] M Q
    refine V.bipush dX10_sum_18 (v := 45) (by decide) ?_
    refine V.ic_ne (tgt := 62) dX10_sum_20 (by decide) (fun c20 => ?_) (fun q => absurd q ((fun z => hs (lvS_3.mpr (Or.inr z)))))
    refine V.iload_n dX10_sum_62 rfl (i := 1) rfl ?_
    exact V.ret dX10_sum_63 rfl (hQ M v (fun _ => ⟨w0, rfl, hv, hR⟩) (fun z => by cases z))
set_option maxHeartbeats 4000000 in
set_option maxRecDepth 100000 in
theorem s_EM_sum {g : GG} {M0 : Mem} {us base sz f : Nat} (hT : EvT M0 us base sz) (hS : EM g M0 us base sz f 4 mX10_product [some (.ref 83), none, none, none]) (hP : EP g M0 us base sz f 3 mX10_sum [none, none]) : EM g M0 us base sz (f + 1) 3 mX10_sum [some (.ref 83), none, none, none] := by
  intro D op k out M Q r hD ho hk hf hR he hQ
  have h50 := hT.2.2.1
  obtain ⟨dd, rfl⟩ : ∃ dd, D = dd + 3 := ⟨D - 3, by omega⟩
  rcases e : rd (nx (fun i => M0 84 (base + i)) sz) us f (3 + 1) op k out with ⟨b, k1, o1⟩
  obtain ⟨i1, i2, i3, i4⟩ := rd_inv f (3 + 1) op k out _ (by omega) hk e
  have i4' := i4 (by omega)
  simp only at i1 i2 i3 i4'
  cases b
  · rw [rd_lvF (by omega) e] at he
    subst he
    refine V.aload_n dX10_sum_0 rfl (i := 0) rfl ?_
    refine V.invv (z := mX10_product) (As := []) dX10_sum_1 rfl mlRX10_106 okX10_product npX10_product rfl rfl rfl ⟨by decide, by decide⟩ (Nat.le_of_ble_eq_true rfl) rfl (Nat.le_of_ble_eq_true rfl) (hS (dd + 2) op k out _ _ (false, k1, o1) (by omega) ho hk (by omega) hR e (fun M1 v2 hT2 hF2 => ?_))
    show V rS g (dd + 3) mX10_sum 4 [some (.ref 83), none, none, none] [.int v2] M1 Q
    refine V.istore_n dX10_sum_4 rfl (i := 1) (by decide) (fun _ h => by cases h; exact Or.inl rfl) rfl ?_
    exact fl_sum (p := k1) (d := dd + 1) (hF2 rfl) (by omega) (hQ M1 _ (fun z => by cases z) (fun _ => hF2 rfl))
  · rw [rd_lvT (by omega) e] at he
    have i5 := i4' rfl
    refine V.aload_n dX10_sum_0 rfl (i := 0) rfl ?_
    refine V.invv (z := mX10_product) (As := []) dX10_sum_1 rfl mlRX10_106 okX10_product npX10_product rfl rfl rfl ⟨by decide, by decide⟩ (Nat.le_of_ble_eq_true rfl) rfl (Nat.le_of_ble_eq_true rfl) (hS (dd + 2) op k out _ _ (true, k1, o1) (by omega) ho hk (by omega) hR e (fun M1 v2 hT2 hF2 => ?_))
    show V rS g (dd + 3) mX10_sum 4 [some (.ref 83), none, none, none] [.int v2] M1 Q
    obtain ⟨w2, hw2, hv2, h2⟩ := hT2 rfl
    refine V.istore_n dX10_sum_4 rfl (i := 1) (by decide) (fun _ h => by cases h; exact Or.inl rfl) rfl ?_
    exact hP (dd + 3) op k1 out w2 v2 M1 Q r (by omega) ho i2 (by omega) hv2 h2 (by rw [← hw2]; exact he) hQ
set_option maxHeartbeats 4000000 in
set_option maxRecDepth 100000 in
theorem s_EP_product {g : GG} {M0 : Mem} {us base sz f : Nat} (hT : EvT M0 us base sz) (hS : EM g M0 us base sz f 5 mX10_unit [some (.ref 83), none, none, none, none]) (hP : EP g M0 us base sz f 4 mX10_product [none, none]) : EP g M0 us base sz (f + 1) 4 mX10_product [none, none] := by
  intro D op k out w0 v M Q r hD ho hk hf hv hR he hQ
  have h50 := hT.2.2.1
  obtain ⟨dd, rfl⟩ : ∃ dd, D = dd + 3 := ⟨D - 3, by omega⟩
  by_cases hs : lvS ((nx (fun i => M0 84 (base + i)) sz) k) = nI 4
  · have hks := lvS_in (by omega) hs
    rcases e : rd (nx (fun i => M0 84 (base + i)) sz) us f (4 + 1) op (k + 1) (out ++ w0) with ⟨b, k1, o1⟩
    obtain ⟨i1, i2, i3, i4⟩ := rd_inv f (4 + 1) op (k + 1) (out ++ w0) _ (by omega) hks e
    have i4' := i4 (by omega)
    simp only at i1 i2 i3 i4'
    rcases lvS_4.mp hs with hc | hc | hc
    · skip
      cases b
      · rw [rd_lpF hs e] at he
        subst he
        refine V.aload_n dX10_product_5 rfl (i := 0) rfl ?_
        refine V.invv (z := mX10_here) (As := []) dX10_product_6 rfl mlRX10_85 okX10_here npX10_here rfl rfl rfl ⟨by decide, by decide⟩ (Nat.le_of_ble_eq_true rfl) rfl (Nat.le_of_ble_eq_true rfl) (c_here hT hR hk ?_)
        show V rS g (dd + 3) mX10_product 9 [some (.ref 83), some (.int v), none, none] [.int ((nx (fun i => M0 84 (base + i)) sz) k)] M Q
        refine V.top (x' := (42 : Int32)) (hc) ?_
        refine V.bipush dX10_product_9 (v := 42) (by decide) ?_
        refine V.ic_eq (tgt := 32) dX10_product_11 (by decide) (fun c11 => ?_) (fun q => absurd (rfl) q)
        refine V.aload_n dX10_product_32 rfl (i := 0) rfl ?_
        refine V.invv (z := mX10_here) (As := []) dX10_product_33 rfl mlRX10_85 okX10_here npX10_here rfl rfl rfl ⟨by decide, by decide⟩ (Nat.le_of_ble_eq_true rfl) rfl (Nat.le_of_ble_eq_true rfl) (c_here hT hR hk ?_)
        show V rS g (dd + 3) mX10_product 36 [some (.ref 83), some (.int v), none, none] [.int ((nx (fun i => M0 84 (base + i)) sz) k)] M Q
        refine V.top (x' := (42 : Int32)) (hc) ?_
        refine V.istore_n dX10_product_36 rfl (i := 2) (by decide) (fun _ h => by cases h; exact Or.inl rfl) rfl ?_
        refine V.aload_n dX10_product_37 rfl (i := 0) rfl ?_
        refine V.dup dX10_product_38 rfl ?_
        refine V.getI dX10_product_39 rfl flRX10_72 rfl ⟨by decide, by decide⟩ ?_
        refine V.top (x' := (nI k)) (hR.2.1) ?_
        refine V.iconst dX10_product_42 (v := 1) (by decide) ?_
        refine V.iadd dX10_product_43 ?_
        refine V.top (x' := (nI (k + 1))) (nI_add k 1) ?_
        refine V.putI dX10_product_44 rfl fpRX10_72 rfl ⟨by decide, by decide⟩ ?_
        refine V.aload_n dX10_product_47 rfl (i := 0) rfl ?_
        refine V.invv (z := mX10_unit) (As := []) dX10_product_48 rfl mlRX10_109 okX10_unit npX10_unit rfl rfl rfl ⟨by decide, by decide⟩ (Nat.le_of_ble_eq_true rfl) rfl (Nat.le_of_ble_eq_true rfl) (hS (dd + 2) op (k + 1) (out ++ w0) _ _ (false, k1, o1) (by omega) ho hks (by omega) hR.go e (fun M1 v2 hT2 hF2 => ?_))
        show V rS g (dd + 3) mX10_product 51 [some (.ref 83), some (.int v), some (.int (42 : Int32)), none] [.int v2] M1 Q
        refine V.istore_n dX10_product_51 rfl (i := 3) (by decide) (fun _ h => by cases h; exact Or.inl rfl) rfl ?_
        refine V.iload_n dX10_product_52 rfl (i := 2) rfl ?_
        refine V.bipush dX10_product_53 (v := 42) (by decide) ?_
        refine V.ic_ne (tgt := 64) dX10_product_55 (by decide) (fun q => absurd (rfl) q) (fun c55 => ?_)
        refine V.iload_n dX10_product_58 rfl (i := 1) rfl ?_
        refine V.iload_n dX10_product_59 rfl (i := 3) rfl ?_
        refine V.imul dX10_product_60 ?_
        refine V.goto dX10_product_61 (tgt := 87) (by decide) ?_
        refine V.top (x' := (joinF 42 v v2)) ((jn42 v v2)) ?_
        refine V.istore_n dX10_product_87 rfl (i := 1) (by decide) (fun _ h => by cases h; exact Or.inl rfl) rfl ?_
        refine V.goto dX10_product_88 (tgt := 5) (by decide) ?_
        exact V.fg (ls' := [some (.ref 83), some (.int _), none, none]) ⟨rfl, rfl, trivial⟩ (fl_product (p := k1) (d := dd + 1) (hF2 rfl) (by omega) (hQ M1 _ (fun z => by cases z) (fun _ => hF2 rfl)))
      · rw [rd_lpT hs (by omega) e] at he
        refine V.aload_n dX10_product_5 rfl (i := 0) rfl ?_
        refine V.invv (z := mX10_here) (As := []) dX10_product_6 rfl mlRX10_85 okX10_here npX10_here rfl rfl rfl ⟨by decide, by decide⟩ (Nat.le_of_ble_eq_true rfl) rfl (Nat.le_of_ble_eq_true rfl) (c_here hT hR hk ?_)
        show V rS g (dd + 3) mX10_product 9 [some (.ref 83), some (.int v), none, none] [.int ((nx (fun i => M0 84 (base + i)) sz) k)] M Q
        refine V.top (x' := (42 : Int32)) (hc) ?_
        refine V.bipush dX10_product_9 (v := 42) (by decide) ?_
        refine V.ic_eq (tgt := 32) dX10_product_11 (by decide) (fun c11 => ?_) (fun q => absurd (rfl) q)
        refine V.aload_n dX10_product_32 rfl (i := 0) rfl ?_
        refine V.invv (z := mX10_here) (As := []) dX10_product_33 rfl mlRX10_85 okX10_here npX10_here rfl rfl rfl ⟨by decide, by decide⟩ (Nat.le_of_ble_eq_true rfl) rfl (Nat.le_of_ble_eq_true rfl) (c_here hT hR hk ?_)
        show V rS g (dd + 3) mX10_product 36 [some (.ref 83), some (.int v), none, none] [.int ((nx (fun i => M0 84 (base + i)) sz) k)] M Q
        refine V.top (x' := (42 : Int32)) (hc) ?_
        refine V.istore_n dX10_product_36 rfl (i := 2) (by decide) (fun _ h => by cases h; exact Or.inl rfl) rfl ?_
        refine V.aload_n dX10_product_37 rfl (i := 0) rfl ?_
        refine V.dup dX10_product_38 rfl ?_
        refine V.getI dX10_product_39 rfl flRX10_72 rfl ⟨by decide, by decide⟩ ?_
        refine V.top (x' := (nI k)) (hR.2.1) ?_
        refine V.iconst dX10_product_42 (v := 1) (by decide) ?_
        refine V.iadd dX10_product_43 ?_
        refine V.top (x' := (nI (k + 1))) (nI_add k 1) ?_
        refine V.putI dX10_product_44 rfl fpRX10_72 rfl ⟨by decide, by decide⟩ ?_
        refine V.aload_n dX10_product_47 rfl (i := 0) rfl ?_
        refine V.invv (z := mX10_unit) (As := []) dX10_product_48 rfl mlRX10_109 okX10_unit npX10_unit rfl rfl rfl ⟨by decide, by decide⟩ (Nat.le_of_ble_eq_true rfl) rfl (Nat.le_of_ble_eq_true rfl) (hS (dd + 2) op (k + 1) (out ++ w0) _ _ (true, k1, o1) (by omega) ho hks (by omega) hR.go e (fun M1 v2 hT2 hF2 => ?_))
        show V rS g (dd + 3) mX10_product 51 [some (.ref 83), some (.int v), some (.int (42 : Int32)), none] [.int v2] M1 Q
        obtain ⟨w2, hw2, hv2, h2⟩ := hT2 rfl
        refine V.istore_n dX10_product_51 rfl (i := 3) (by decide) (fun _ h => by cases h; exact Or.inl rfl) rfl ?_
        refine V.iload_n dX10_product_52 rfl (i := 2) rfl ?_
        refine V.bipush dX10_product_53 (v := 42) (by decide) ?_
        refine V.ic_ne (tgt := 64) dX10_product_55 (by decide) (fun q => absurd (rfl) q) (fun c55 => ?_)
        refine V.iload_n dX10_product_58 rfl (i := 1) rfl ?_
        refine V.iload_n dX10_product_59 rfl (i := 3) rfl ?_
        refine V.imul dX10_product_60 ?_
        refine V.goto dX10_product_61 (tgt := 87) (by decide) ?_
        refine V.top (x' := (joinF 42 v v2)) ((jn42 v v2)) ?_
        refine V.istore_n dX10_product_87 rfl (i := 1) (by decide) (fun _ h => by cases h; exact Or.inl rfl) rfl ?_
        refine V.goto dX10_product_88 (tgt := 5) (by decide) ?_
        exact V.fg (ls' := [some (.ref 83), some (.int _), none, none]) ⟨rfl, rfl, trivial⟩ (hP (dd + 3) op k1 out (w0 ++ w2 ++ [-42]) (joinF 42 v v2) M1 Q r (by omega) ho i2 (by omega) (hv.bin hv2 (by decide) (by decide)) h2 (by rw [← List.append_assoc, ← List.append_assoc, ← hw2, ← hc]; exact he) hQ)
    · skip
      cases b
      · rw [rd_lpF hs e] at he
        subst he
        refine V.aload_n dX10_product_5 rfl (i := 0) rfl ?_
        refine V.invv (z := mX10_here) (As := []) dX10_product_6 rfl mlRX10_85 okX10_here npX10_here rfl rfl rfl ⟨by decide, by decide⟩ (Nat.le_of_ble_eq_true rfl) rfl (Nat.le_of_ble_eq_true rfl) (c_here hT hR hk ?_)
        show V rS g (dd + 3) mX10_product 9 [some (.ref 83), some (.int v), none, none] [.int ((nx (fun i => M0 84 (base + i)) sz) k)] M Q
        refine V.top (x' := (47 : Int32)) (hc) ?_
        refine V.bipush dX10_product_9 (v := 42) (by decide) ?_
        refine V.ic_eq (tgt := 32) dX10_product_11 (by decide) (fun q => absurd q ((by decide))) (fun c11 => ?_)
        refine V.aload_n dX10_product_14 rfl (i := 0) rfl ?_
        refine V.invv (z := mX10_here) (As := []) dX10_product_15 rfl mlRX10_85 okX10_here npX10_here rfl rfl rfl ⟨by decide, by decide⟩ (Nat.le_of_ble_eq_true rfl) rfl (Nat.le_of_ble_eq_true rfl) (c_here hT hR hk ?_)
        show V rS g (dd + 3) mX10_product 18 [some (.ref 83), some (.int v), none, none] [.int ((nx (fun i => M0 84 (base + i)) sz) k)] M Q
        refine V.top (x' := (47 : Int32)) (hc) ?_
        refine V.bipush dX10_product_18 (v := 47) (by decide) ?_
        refine V.ic_eq (tgt := 32) dX10_product_20 (by decide) (fun c20 => ?_) (fun q => absurd (rfl) q)
        refine V.aload_n dX10_product_32 rfl (i := 0) rfl ?_
        refine V.invv (z := mX10_here) (As := []) dX10_product_33 rfl mlRX10_85 okX10_here npX10_here rfl rfl rfl ⟨by decide, by decide⟩ (Nat.le_of_ble_eq_true rfl) rfl (Nat.le_of_ble_eq_true rfl) (c_here hT hR hk ?_)
        show V rS g (dd + 3) mX10_product 36 [some (.ref 83), some (.int v), none, none] [.int ((nx (fun i => M0 84 (base + i)) sz) k)] M Q
        refine V.top (x' := (47 : Int32)) (hc) ?_
        refine V.istore_n dX10_product_36 rfl (i := 2) (by decide) (fun _ h => by cases h; exact Or.inl rfl) rfl ?_
        refine V.aload_n dX10_product_37 rfl (i := 0) rfl ?_
        refine V.dup dX10_product_38 rfl ?_
        refine V.getI dX10_product_39 rfl flRX10_72 rfl ⟨by decide, by decide⟩ ?_
        refine V.top (x' := (nI k)) (hR.2.1) ?_
        refine V.iconst dX10_product_42 (v := 1) (by decide) ?_
        refine V.iadd dX10_product_43 ?_
        refine V.top (x' := (nI (k + 1))) (nI_add k 1) ?_
        refine V.putI dX10_product_44 rfl fpRX10_72 rfl ⟨by decide, by decide⟩ ?_
        refine V.aload_n dX10_product_47 rfl (i := 0) rfl ?_
        refine V.invv (z := mX10_unit) (As := []) dX10_product_48 rfl mlRX10_109 okX10_unit npX10_unit rfl rfl rfl ⟨by decide, by decide⟩ (Nat.le_of_ble_eq_true rfl) rfl (Nat.le_of_ble_eq_true rfl) (hS (dd + 2) op (k + 1) (out ++ w0) _ _ (false, k1, o1) (by omega) ho hks (by omega) hR.go e (fun M1 v2 hT2 hF2 => ?_))
        show V rS g (dd + 3) mX10_product 51 [some (.ref 83), some (.int v), some (.int (47 : Int32)), none] [.int v2] M1 Q
        refine V.istore_n dX10_product_51 rfl (i := 3) (by decide) (fun _ h => by cases h; exact Or.inl rfl) rfl ?_
        refine V.iload_n dX10_product_52 rfl (i := 2) rfl ?_
        refine V.bipush dX10_product_53 (v := 42) (by decide) ?_
        refine V.ic_ne (tgt := 64) dX10_product_55 (by decide) (fun c55 => ?_) (fun q => absurd q ((by decide)))
        refine V.iload_n dX10_product_64 rfl (i := 3) rfl ?_
        refine V.if_ne (tgt := 72) dX10_product_65 (by decide) (fun c65 => ?_) (fun c65 => ?_)
        · refine V.iload_n dX10_product_72 rfl (i := 2) rfl ?_
          refine V.bipush dX10_product_73 (v := 47) (by decide) ?_
          refine V.ic_ne (tgt := 84) dX10_product_75 (by decide) (fun q => absurd (rfl) q) (fun c75 => ?_)
          refine V.iload_n dX10_product_78 rfl (i := 1) rfl ?_
          refine V.iload_n dX10_product_79 rfl (i := 3) rfl ?_
          refine V.idiv dX10_product_80 (by first | assumption | decide | omega) ?_
          refine V.goto dX10_product_81 (tgt := 87) (by decide) ?_
          refine V.top (x' := (joinF 47 v v2)) ((by first | exact jn47 c65 | exact jn47z c65)) ?_
          refine V.istore_n dX10_product_87 rfl (i := 1) (by decide) (fun _ h => by cases h; exact Or.inl rfl) rfl ?_
          refine V.goto dX10_product_88 (tgt := 5) (by decide) ?_
          exact V.fg (ls' := [some (.ref 83), some (.int _), none, none]) ⟨rfl, rfl, trivial⟩ (fl_product (p := k1) (d := dd + 1) (hF2 rfl) (by omega) (hQ M1 _ (fun z => by cases z) (fun _ => hF2 rfl)))
        · refine V.iconst dX10_product_68 (v := 0) (by decide) ?_
          refine V.goto dX10_product_69 (tgt := 87) (by decide) ?_
          refine V.top (x' := (joinF 47 v v2)) ((by first | exact jn47 c65 | exact jn47z c65)) ?_
          refine V.istore_n dX10_product_87 rfl (i := 1) (by decide) (fun _ h => by cases h; exact Or.inl rfl) rfl ?_
          refine V.goto dX10_product_88 (tgt := 5) (by decide) ?_
          exact V.fg (ls' := [some (.ref 83), some (.int _), none, none]) ⟨rfl, rfl, trivial⟩ (fl_product (p := k1) (d := dd + 1) (hF2 rfl) (by omega) (hQ M1 _ (fun z => by cases z) (fun _ => hF2 rfl)))
      · rw [rd_lpT hs (by omega) e] at he
        refine V.aload_n dX10_product_5 rfl (i := 0) rfl ?_
        refine V.invv (z := mX10_here) (As := []) dX10_product_6 rfl mlRX10_85 okX10_here npX10_here rfl rfl rfl ⟨by decide, by decide⟩ (Nat.le_of_ble_eq_true rfl) rfl (Nat.le_of_ble_eq_true rfl) (c_here hT hR hk ?_)
        show V rS g (dd + 3) mX10_product 9 [some (.ref 83), some (.int v), none, none] [.int ((nx (fun i => M0 84 (base + i)) sz) k)] M Q
        refine V.top (x' := (47 : Int32)) (hc) ?_
        refine V.bipush dX10_product_9 (v := 42) (by decide) ?_
        refine V.ic_eq (tgt := 32) dX10_product_11 (by decide) (fun q => absurd q ((by decide))) (fun c11 => ?_)
        refine V.aload_n dX10_product_14 rfl (i := 0) rfl ?_
        refine V.invv (z := mX10_here) (As := []) dX10_product_15 rfl mlRX10_85 okX10_here npX10_here rfl rfl rfl ⟨by decide, by decide⟩ (Nat.le_of_ble_eq_true rfl) rfl (Nat.le_of_ble_eq_true rfl) (c_here hT hR hk ?_)
        show V rS g (dd + 3) mX10_product 18 [some (.ref 83), some (.int v), none, none] [.int ((nx (fun i => M0 84 (base + i)) sz) k)] M Q
        refine V.top (x' := (47 : Int32)) (hc) ?_
        refine V.bipush dX10_product_18 (v := 47) (by decide) ?_
        refine V.ic_eq (tgt := 32) dX10_product_20 (by decide) (fun c20 => ?_) (fun q => absurd (rfl) q)
        refine V.aload_n dX10_product_32 rfl (i := 0) rfl ?_
        refine V.invv (z := mX10_here) (As := []) dX10_product_33 rfl mlRX10_85 okX10_here npX10_here rfl rfl rfl ⟨by decide, by decide⟩ (Nat.le_of_ble_eq_true rfl) rfl (Nat.le_of_ble_eq_true rfl) (c_here hT hR hk ?_)
        show V rS g (dd + 3) mX10_product 36 [some (.ref 83), some (.int v), none, none] [.int ((nx (fun i => M0 84 (base + i)) sz) k)] M Q
        refine V.top (x' := (47 : Int32)) (hc) ?_
        refine V.istore_n dX10_product_36 rfl (i := 2) (by decide) (fun _ h => by cases h; exact Or.inl rfl) rfl ?_
        refine V.aload_n dX10_product_37 rfl (i := 0) rfl ?_
        refine V.dup dX10_product_38 rfl ?_
        refine V.getI dX10_product_39 rfl flRX10_72 rfl ⟨by decide, by decide⟩ ?_
        refine V.top (x' := (nI k)) (hR.2.1) ?_
        refine V.iconst dX10_product_42 (v := 1) (by decide) ?_
        refine V.iadd dX10_product_43 ?_
        refine V.top (x' := (nI (k + 1))) (nI_add k 1) ?_
        refine V.putI dX10_product_44 rfl fpRX10_72 rfl ⟨by decide, by decide⟩ ?_
        refine V.aload_n dX10_product_47 rfl (i := 0) rfl ?_
        refine V.invv (z := mX10_unit) (As := []) dX10_product_48 rfl mlRX10_109 okX10_unit npX10_unit rfl rfl rfl ⟨by decide, by decide⟩ (Nat.le_of_ble_eq_true rfl) rfl (Nat.le_of_ble_eq_true rfl) (hS (dd + 2) op (k + 1) (out ++ w0) _ _ (true, k1, o1) (by omega) ho hks (by omega) hR.go e (fun M1 v2 hT2 hF2 => ?_))
        show V rS g (dd + 3) mX10_product 51 [some (.ref 83), some (.int v), some (.int (47 : Int32)), none] [.int v2] M1 Q
        obtain ⟨w2, hw2, hv2, h2⟩ := hT2 rfl
        refine V.istore_n dX10_product_51 rfl (i := 3) (by decide) (fun _ h => by cases h; exact Or.inl rfl) rfl ?_
        refine V.iload_n dX10_product_52 rfl (i := 2) rfl ?_
        refine V.bipush dX10_product_53 (v := 42) (by decide) ?_
        refine V.ic_ne (tgt := 64) dX10_product_55 (by decide) (fun c55 => ?_) (fun q => absurd q ((by decide)))
        refine V.iload_n dX10_product_64 rfl (i := 3) rfl ?_
        refine V.if_ne (tgt := 72) dX10_product_65 (by decide) (fun c65 => ?_) (fun c65 => ?_)
        · refine V.iload_n dX10_product_72 rfl (i := 2) rfl ?_
          refine V.bipush dX10_product_73 (v := 47) (by decide) ?_
          refine V.ic_ne (tgt := 84) dX10_product_75 (by decide) (fun q => absurd (rfl) q) (fun c75 => ?_)
          refine V.iload_n dX10_product_78 rfl (i := 1) rfl ?_
          refine V.iload_n dX10_product_79 rfl (i := 3) rfl ?_
          refine V.idiv dX10_product_80 (by first | assumption | decide | omega) ?_
          refine V.goto dX10_product_81 (tgt := 87) (by decide) ?_
          refine V.top (x' := (joinF 47 v v2)) ((by first | exact jn47 c65 | exact jn47z c65)) ?_
          refine V.istore_n dX10_product_87 rfl (i := 1) (by decide) (fun _ h => by cases h; exact Or.inl rfl) rfl ?_
          refine V.goto dX10_product_88 (tgt := 5) (by decide) ?_
          exact V.fg (ls' := [some (.ref 83), some (.int _), none, none]) ⟨rfl, rfl, trivial⟩ (hP (dd + 3) op k1 out (w0 ++ w2 ++ [-47]) (joinF 47 v v2) M1 Q r (by omega) ho i2 (by omega) (hv.bin hv2 (by decide) (by decide)) h2 (by rw [← List.append_assoc, ← List.append_assoc, ← hw2, ← hc]; exact he) hQ)
        · refine V.iconst dX10_product_68 (v := 0) (by decide) ?_
          refine V.goto dX10_product_69 (tgt := 87) (by decide) ?_
          refine V.top (x' := (joinF 47 v v2)) ((by first | exact jn47 c65 | exact jn47z c65)) ?_
          refine V.istore_n dX10_product_87 rfl (i := 1) (by decide) (fun _ h => by cases h; exact Or.inl rfl) rfl ?_
          refine V.goto dX10_product_88 (tgt := 5) (by decide) ?_
          exact V.fg (ls' := [some (.ref 83), some (.int _), none, none]) ⟨rfl, rfl, trivial⟩ (hP (dd + 3) op k1 out (w0 ++ w2 ++ [-47]) (joinF 47 v v2) M1 Q r (by omega) ho i2 (by omega) (hv.bin hv2 (by decide) (by decide)) h2 (by rw [← List.append_assoc, ← List.append_assoc, ← hw2, ← hc]; exact he) hQ)
    · skip
      cases b
      · rw [rd_lpF hs e] at he
        subst he
        refine V.aload_n dX10_product_5 rfl (i := 0) rfl ?_
        refine V.invv (z := mX10_here) (As := []) dX10_product_6 rfl mlRX10_85 okX10_here npX10_here rfl rfl rfl ⟨by decide, by decide⟩ (Nat.le_of_ble_eq_true rfl) rfl (Nat.le_of_ble_eq_true rfl) (c_here hT hR hk ?_)
        show V rS g (dd + 3) mX10_product 9 [some (.ref 83), some (.int v), none, none] [.int ((nx (fun i => M0 84 (base + i)) sz) k)] M Q
        refine V.top (x' := (37 : Int32)) (hc) ?_
        refine V.bipush dX10_product_9 (v := 42) (by decide) ?_
        refine V.ic_eq (tgt := 32) dX10_product_11 (by decide) (fun q => absurd q ((by decide))) (fun c11 => ?_)
        refine V.aload_n dX10_product_14 rfl (i := 0) rfl ?_
        refine V.invv (z := mX10_here) (As := []) dX10_product_15 rfl mlRX10_85 okX10_here npX10_here rfl rfl rfl ⟨by decide, by decide⟩ (Nat.le_of_ble_eq_true rfl) rfl (Nat.le_of_ble_eq_true rfl) (c_here hT hR hk ?_)
        show V rS g (dd + 3) mX10_product 18 [some (.ref 83), some (.int v), none, none] [.int ((nx (fun i => M0 84 (base + i)) sz) k)] M Q
        refine V.top (x' := (37 : Int32)) (hc) ?_
        refine V.bipush dX10_product_18 (v := 47) (by decide) ?_
        refine V.ic_eq (tgt := 32) dX10_product_20 (by decide) (fun q => absurd q ((by decide))) (fun c20 => ?_)
        refine V.aload_n dX10_product_23 rfl (i := 0) rfl ?_
        refine V.invv (z := mX10_here) (As := []) dX10_product_24 rfl mlRX10_85 okX10_here npX10_here rfl rfl rfl ⟨by decide, by decide⟩ (Nat.le_of_ble_eq_true rfl) rfl (Nat.le_of_ble_eq_true rfl) (c_here hT hR hk ?_)
        show V rS g (dd + 3) mX10_product 27 [some (.ref 83), some (.int v), none, none] [.int ((nx (fun i => M0 84 (base + i)) sz) k)] M Q
        refine V.top (x' := (37 : Int32)) (hc) ?_
        refine V.bipush dX10_product_27 (v := 37) (by decide) ?_
        refine V.ic_ne (tgt := 91) dX10_product_29 (by decide) (fun q => absurd (rfl) q) (fun c29 => ?_)
        refine V.aload_n dX10_product_32 rfl (i := 0) rfl ?_
        refine V.invv (z := mX10_here) (As := []) dX10_product_33 rfl mlRX10_85 okX10_here npX10_here rfl rfl rfl ⟨by decide, by decide⟩ (Nat.le_of_ble_eq_true rfl) rfl (Nat.le_of_ble_eq_true rfl) (c_here hT hR hk ?_)
        show V rS g (dd + 3) mX10_product 36 [some (.ref 83), some (.int v), none, none] [.int ((nx (fun i => M0 84 (base + i)) sz) k)] M Q
        refine V.top (x' := (37 : Int32)) (hc) ?_
        refine V.istore_n dX10_product_36 rfl (i := 2) (by decide) (fun _ h => by cases h; exact Or.inl rfl) rfl ?_
        refine V.aload_n dX10_product_37 rfl (i := 0) rfl ?_
        refine V.dup dX10_product_38 rfl ?_
        refine V.getI dX10_product_39 rfl flRX10_72 rfl ⟨by decide, by decide⟩ ?_
        refine V.top (x' := (nI k)) (hR.2.1) ?_
        refine V.iconst dX10_product_42 (v := 1) (by decide) ?_
        refine V.iadd dX10_product_43 ?_
        refine V.top (x' := (nI (k + 1))) (nI_add k 1) ?_
        refine V.putI dX10_product_44 rfl fpRX10_72 rfl ⟨by decide, by decide⟩ ?_
        refine V.aload_n dX10_product_47 rfl (i := 0) rfl ?_
        refine V.invv (z := mX10_unit) (As := []) dX10_product_48 rfl mlRX10_109 okX10_unit npX10_unit rfl rfl rfl ⟨by decide, by decide⟩ (Nat.le_of_ble_eq_true rfl) rfl (Nat.le_of_ble_eq_true rfl) (hS (dd + 2) op (k + 1) (out ++ w0) _ _ (false, k1, o1) (by omega) ho hks (by omega) hR.go e (fun M1 v2 hT2 hF2 => ?_))
        show V rS g (dd + 3) mX10_product 51 [some (.ref 83), some (.int v), some (.int (37 : Int32)), none] [.int v2] M1 Q
        refine V.istore_n dX10_product_51 rfl (i := 3) (by decide) (fun _ h => by cases h; exact Or.inl rfl) rfl ?_
        refine V.iload_n dX10_product_52 rfl (i := 2) rfl ?_
        refine V.bipush dX10_product_53 (v := 42) (by decide) ?_
        refine V.ic_ne (tgt := 64) dX10_product_55 (by decide) (fun c55 => ?_) (fun q => absurd q ((by decide)))
        refine V.iload_n dX10_product_64 rfl (i := 3) rfl ?_
        refine V.if_ne (tgt := 72) dX10_product_65 (by decide) (fun c65 => ?_) (fun c65 => ?_)
        · refine V.iload_n dX10_product_72 rfl (i := 2) rfl ?_
          refine V.bipush dX10_product_73 (v := 47) (by decide) ?_
          refine V.ic_ne (tgt := 84) dX10_product_75 (by decide) (fun c75 => ?_) (fun q => absurd q ((by decide)))
          refine V.iload_n dX10_product_84 rfl (i := 1) rfl ?_
          refine V.iload_n dX10_product_85 rfl (i := 3) rfl ?_
          refine V.irem dX10_product_86 (by first | assumption | decide | omega) ?_
          refine V.top (x' := (joinF 37 v v2)) ((by first | exact jn37 c65 | exact jn37z c65)) ?_
          refine V.istore_n dX10_product_87 rfl (i := 1) (by decide) (fun _ h => by cases h; exact Or.inl rfl) rfl ?_
          refine V.goto dX10_product_88 (tgt := 5) (by decide) ?_
          exact V.fg (ls' := [some (.ref 83), some (.int _), none, none]) ⟨rfl, rfl, trivial⟩ (fl_product (p := k1) (d := dd + 1) (hF2 rfl) (by omega) (hQ M1 _ (fun z => by cases z) (fun _ => hF2 rfl)))
        · refine V.iconst dX10_product_68 (v := 0) (by decide) ?_
          refine V.goto dX10_product_69 (tgt := 87) (by decide) ?_
          refine V.top (x' := (joinF 37 v v2)) ((by first | exact jn37 c65 | exact jn37z c65)) ?_
          refine V.istore_n dX10_product_87 rfl (i := 1) (by decide) (fun _ h => by cases h; exact Or.inl rfl) rfl ?_
          refine V.goto dX10_product_88 (tgt := 5) (by decide) ?_
          exact V.fg (ls' := [some (.ref 83), some (.int _), none, none]) ⟨rfl, rfl, trivial⟩ (fl_product (p := k1) (d := dd + 1) (hF2 rfl) (by omega) (hQ M1 _ (fun z => by cases z) (fun _ => hF2 rfl)))
      · rw [rd_lpT hs (by omega) e] at he
        refine V.aload_n dX10_product_5 rfl (i := 0) rfl ?_
        refine V.invv (z := mX10_here) (As := []) dX10_product_6 rfl mlRX10_85 okX10_here npX10_here rfl rfl rfl ⟨by decide, by decide⟩ (Nat.le_of_ble_eq_true rfl) rfl (Nat.le_of_ble_eq_true rfl) (c_here hT hR hk ?_)
        show V rS g (dd + 3) mX10_product 9 [some (.ref 83), some (.int v), none, none] [.int ((nx (fun i => M0 84 (base + i)) sz) k)] M Q
        refine V.top (x' := (37 : Int32)) (hc) ?_
        refine V.bipush dX10_product_9 (v := 42) (by decide) ?_
        refine V.ic_eq (tgt := 32) dX10_product_11 (by decide) (fun q => absurd q ((by decide))) (fun c11 => ?_)
        refine V.aload_n dX10_product_14 rfl (i := 0) rfl ?_
        refine V.invv (z := mX10_here) (As := []) dX10_product_15 rfl mlRX10_85 okX10_here npX10_here rfl rfl rfl ⟨by decide, by decide⟩ (Nat.le_of_ble_eq_true rfl) rfl (Nat.le_of_ble_eq_true rfl) (c_here hT hR hk ?_)
        show V rS g (dd + 3) mX10_product 18 [some (.ref 83), some (.int v), none, none] [.int ((nx (fun i => M0 84 (base + i)) sz) k)] M Q
        refine V.top (x' := (37 : Int32)) (hc) ?_
        refine V.bipush dX10_product_18 (v := 47) (by decide) ?_
        refine V.ic_eq (tgt := 32) dX10_product_20 (by decide) (fun q => absurd q ((by decide))) (fun c20 => ?_)
        refine V.aload_n dX10_product_23 rfl (i := 0) rfl ?_
        refine V.invv (z := mX10_here) (As := []) dX10_product_24 rfl mlRX10_85 okX10_here npX10_here rfl rfl rfl ⟨by decide, by decide⟩ (Nat.le_of_ble_eq_true rfl) rfl (Nat.le_of_ble_eq_true rfl) (c_here hT hR hk ?_)
        show V rS g (dd + 3) mX10_product 27 [some (.ref 83), some (.int v), none, none] [.int ((nx (fun i => M0 84 (base + i)) sz) k)] M Q
        refine V.top (x' := (37 : Int32)) (hc) ?_
        refine V.bipush dX10_product_27 (v := 37) (by decide) ?_
        refine V.ic_ne (tgt := 91) dX10_product_29 (by decide) (fun q => absurd (rfl) q) (fun c29 => ?_)
        refine V.aload_n dX10_product_32 rfl (i := 0) rfl ?_
        refine V.invv (z := mX10_here) (As := []) dX10_product_33 rfl mlRX10_85 okX10_here npX10_here rfl rfl rfl ⟨by decide, by decide⟩ (Nat.le_of_ble_eq_true rfl) rfl (Nat.le_of_ble_eq_true rfl) (c_here hT hR hk ?_)
        show V rS g (dd + 3) mX10_product 36 [some (.ref 83), some (.int v), none, none] [.int ((nx (fun i => M0 84 (base + i)) sz) k)] M Q
        refine V.top (x' := (37 : Int32)) (hc) ?_
        refine V.istore_n dX10_product_36 rfl (i := 2) (by decide) (fun _ h => by cases h; exact Or.inl rfl) rfl ?_
        refine V.aload_n dX10_product_37 rfl (i := 0) rfl ?_
        refine V.dup dX10_product_38 rfl ?_
        refine V.getI dX10_product_39 rfl flRX10_72 rfl ⟨by decide, by decide⟩ ?_
        refine V.top (x' := (nI k)) (hR.2.1) ?_
        refine V.iconst dX10_product_42 (v := 1) (by decide) ?_
        refine V.iadd dX10_product_43 ?_
        refine V.top (x' := (nI (k + 1))) (nI_add k 1) ?_
        refine V.putI dX10_product_44 rfl fpRX10_72 rfl ⟨by decide, by decide⟩ ?_
        refine V.aload_n dX10_product_47 rfl (i := 0) rfl ?_
        refine V.invv (z := mX10_unit) (As := []) dX10_product_48 rfl mlRX10_109 okX10_unit npX10_unit rfl rfl rfl ⟨by decide, by decide⟩ (Nat.le_of_ble_eq_true rfl) rfl (Nat.le_of_ble_eq_true rfl) (hS (dd + 2) op (k + 1) (out ++ w0) _ _ (true, k1, o1) (by omega) ho hks (by omega) hR.go e (fun M1 v2 hT2 hF2 => ?_))
        show V rS g (dd + 3) mX10_product 51 [some (.ref 83), some (.int v), some (.int (37 : Int32)), none] [.int v2] M1 Q
        obtain ⟨w2, hw2, hv2, h2⟩ := hT2 rfl
        refine V.istore_n dX10_product_51 rfl (i := 3) (by decide) (fun _ h => by cases h; exact Or.inl rfl) rfl ?_
        refine V.iload_n dX10_product_52 rfl (i := 2) rfl ?_
        refine V.bipush dX10_product_53 (v := 42) (by decide) ?_
        refine V.ic_ne (tgt := 64) dX10_product_55 (by decide) (fun c55 => ?_) (fun q => absurd q ((by decide)))
        refine V.iload_n dX10_product_64 rfl (i := 3) rfl ?_
        refine V.if_ne (tgt := 72) dX10_product_65 (by decide) (fun c65 => ?_) (fun c65 => ?_)
        · refine V.iload_n dX10_product_72 rfl (i := 2) rfl ?_
          refine V.bipush dX10_product_73 (v := 47) (by decide) ?_
          refine V.ic_ne (tgt := 84) dX10_product_75 (by decide) (fun c75 => ?_) (fun q => absurd q ((by decide)))
          refine V.iload_n dX10_product_84 rfl (i := 1) rfl ?_
          refine V.iload_n dX10_product_85 rfl (i := 3) rfl ?_
          refine V.irem dX10_product_86 (by first | assumption | decide | omega) ?_
          refine V.top (x' := (joinF 37 v v2)) ((by first | exact jn37 c65 | exact jn37z c65)) ?_
          refine V.istore_n dX10_product_87 rfl (i := 1) (by decide) (fun _ h => by cases h; exact Or.inl rfl) rfl ?_
          refine V.goto dX10_product_88 (tgt := 5) (by decide) ?_
          exact V.fg (ls' := [some (.ref 83), some (.int _), none, none]) ⟨rfl, rfl, trivial⟩ (hP (dd + 3) op k1 out (w0 ++ w2 ++ [-37]) (joinF 37 v v2) M1 Q r (by omega) ho i2 (by omega) (hv.bin hv2 (by decide) (by decide)) h2 (by rw [← List.append_assoc, ← List.append_assoc, ← hw2, ← hc]; exact he) hQ)
        · refine V.iconst dX10_product_68 (v := 0) (by decide) ?_
          refine V.goto dX10_product_69 (tgt := 87) (by decide) ?_
          refine V.top (x' := (joinF 37 v v2)) ((by first | exact jn37 c65 | exact jn37z c65)) ?_
          refine V.istore_n dX10_product_87 rfl (i := 1) (by decide) (fun _ h => by cases h; exact Or.inl rfl) rfl ?_
          refine V.goto dX10_product_88 (tgt := 5) (by decide) ?_
          exact V.fg (ls' := [some (.ref 83), some (.int _), none, none]) ⟨rfl, rfl, trivial⟩ (hP (dd + 3) op k1 out (w0 ++ w2 ++ [-37]) (joinF 37 v v2) M1 Q r (by omega) ho i2 (by omega) (hv.bin hv2 (by decide) (by decide)) h2 (by rw [← List.append_assoc, ← List.append_assoc, ← hw2, ← hc]; exact he) hQ)
  · rw [rd_lpN hs] at he
    subst he
    refine V.aload_n dX10_product_5 rfl (i := 0) rfl ?_
    refine V.invv (z := mX10_here) (As := []) dX10_product_6 rfl mlRX10_85 okX10_here npX10_here rfl rfl rfl ⟨by decide, by decide⟩ (Nat.le_of_ble_eq_true rfl) rfl (Nat.le_of_ble_eq_true rfl) (c_here hT hR hk ?_)
    show V rS g (dd + 3) mX10_product 9 [some (.ref 83), some (.int v), none, none] [.int ((nx (fun i => M0 84 (base + i)) sz) k)] M Q
    refine V.bipush dX10_product_9 (v := 42) (by decide) ?_
    refine V.ic_eq (tgt := 32) dX10_product_11 (by decide) (fun q => absurd q ((fun z => hs (lvS_4.mpr (Or.inl z))))) (fun c11 => ?_)
    refine V.aload_n dX10_product_14 rfl (i := 0) rfl ?_
    refine V.invv (z := mX10_here) (As := []) dX10_product_15 rfl mlRX10_85 okX10_here npX10_here rfl rfl rfl ⟨by decide, by decide⟩ (Nat.le_of_ble_eq_true rfl) rfl (Nat.le_of_ble_eq_true rfl) (c_here hT hR hk ?_)
    show V rS g (dd + 3) mX10_product 18 [some (.ref 83), some (.int v), none, none] [.int ((nx (fun i => M0 84 (base + i)) sz) k)] M Q
    refine V.bipush dX10_product_18 (v := 47) (by decide) ?_
    refine V.ic_eq (tgt := 32) dX10_product_20 (by decide) (fun q => absurd q ((fun z => hs (lvS_4.mpr (Or.inr (Or.inl z)))))) (fun c20 => ?_)
    refine V.aload_n dX10_product_23 rfl (i := 0) rfl ?_
    refine V.invv (z := mX10_here) (As := []) dX10_product_24 rfl mlRX10_85 okX10_here npX10_here rfl rfl rfl ⟨by decide, by decide⟩ (Nat.le_of_ble_eq_true rfl) rfl (Nat.le_of_ble_eq_true rfl) (c_here hT hR hk ?_)
    show V rS g (dd + 3) mX10_product 27 [some (.ref 83), some (.int v), none, none] [.int ((nx (fun i => M0 84 (base + i)) sz) k)] M Q
    refine V.bipush dX10_product_27 (v := 37) (by decide) ?_
    refine V.ic_ne (tgt := 91) dX10_product_29 (by decide) (fun c29 => ?_) (fun q => absurd q ((fun z => hs (lvS_4.mpr (Or.inr (Or.inr z))))))
    refine V.iload_n dX10_product_91 rfl (i := 1) rfl ?_
    exact V.ret dX10_product_92 rfl (hQ M v (fun _ => ⟨w0, rfl, hv, hR⟩) (fun z => by cases z))
set_option maxHeartbeats 4000000 in
set_option maxRecDepth 100000 in
theorem s_EM_product {g : GG} {M0 : Mem} {us base sz f : Nat} (hT : EvT M0 us base sz) (hS : EM g M0 us base sz f 5 mX10_unit [some (.ref 83), none, none, none, none]) (hP : EP g M0 us base sz f 4 mX10_product [none, none]) : EM g M0 us base sz (f + 1) 4 mX10_product [some (.ref 83), none, none, none] := by
  intro D op k out M Q r hD ho hk hf hR he hQ
  have h50 := hT.2.2.1
  obtain ⟨dd, rfl⟩ : ∃ dd, D = dd + 3 := ⟨D - 3, by omega⟩
  rcases e : rd (nx (fun i => M0 84 (base + i)) sz) us f (4 + 1) op k out with ⟨b, k1, o1⟩
  obtain ⟨i1, i2, i3, i4⟩ := rd_inv f (4 + 1) op k out _ (by omega) hk e
  have i4' := i4 (by omega)
  simp only at i1 i2 i3 i4'
  cases b
  · rw [rd_lvF (by omega) e] at he
    subst he
    refine V.aload_n dX10_product_0 rfl (i := 0) rfl ?_
    refine V.invv (z := mX10_unit) (As := []) dX10_product_1 rfl mlRX10_109 okX10_unit npX10_unit rfl rfl rfl ⟨by decide, by decide⟩ (Nat.le_of_ble_eq_true rfl) rfl (Nat.le_of_ble_eq_true rfl) (hS (dd + 2) op k out _ _ (false, k1, o1) (by omega) ho hk (by omega) hR e (fun M1 v2 hT2 hF2 => ?_))
    show V rS g (dd + 3) mX10_product 4 [some (.ref 83), none, none, none] [.int v2] M1 Q
    refine V.istore_n dX10_product_4 rfl (i := 1) (by decide) (fun _ h => by cases h; exact Or.inl rfl) rfl ?_
    exact fl_product (p := k1) (d := dd + 1) (hF2 rfl) (by omega) (hQ M1 _ (fun z => by cases z) (fun _ => hF2 rfl))
  · rw [rd_lvT (by omega) e] at he
    have i5 := i4' rfl
    refine V.aload_n dX10_product_0 rfl (i := 0) rfl ?_
    refine V.invv (z := mX10_unit) (As := []) dX10_product_1 rfl mlRX10_109 okX10_unit npX10_unit rfl rfl rfl ⟨by decide, by decide⟩ (Nat.le_of_ble_eq_true rfl) rfl (Nat.le_of_ble_eq_true rfl) (hS (dd + 2) op k out _ _ (true, k1, o1) (by omega) ho hk (by omega) hR e (fun M1 v2 hT2 hF2 => ?_))
    show V rS g (dd + 3) mX10_product 4 [some (.ref 83), none, none, none] [.int v2] M1 Q
    obtain ⟨w2, hw2, hv2, h2⟩ := hT2 rfl
    refine V.istore_n dX10_product_4 rfl (i := 1) (by decide) (fun _ h => by cases h; exact Or.inl rfl) rfl ?_
    exact hP (dd + 3) op k1 out w2 v2 M1 Q r (by omega) ho i2 (by omega) hv2 h2 (by rw [← hw2]; exact he) hQ
set_option maxHeartbeats 4000000 in
set_option maxRecDepth 100000 in
theorem s_EM_compared {g : GG} {M0 : Mem} {us base sz f : Nat} (hT : EvT M0 us base sz) (hS1 : EM g M0 us base sz (f + 1) 3 mX10_sum [some (.ref 83), none, none, none]) (hS : EM g M0 us base sz f 3 mX10_sum [some (.ref 83), none, none, none]) : EM g M0 us base sz (f + 1 + 1) 2 mX10_compared [some (.ref 83), none, none, none] := by
  intro D op k out M Q r hD ho hk hf hR he hQ
  have h50 := hT.2.2.1
  obtain ⟨dd, rfl⟩ : ∃ dd, D = dd + 3 := ⟨D - 3, by omega⟩
  rcases e : rd (nx (fun i => M0 84 (base + i)) sz) us (f + 1) (2 + 1) op k out with ⟨b, k1, o1⟩
  obtain ⟨i1, i2, i3, i4⟩ := rd_inv (f + 1) (2 + 1) op k out _ (by omega) hk e
  have i4' := i4 (by omega)
  simp only at i1 i2 i3 i4'
  cases b
  · rw [rd_lvF (by omega) e] at he
    subst he
    refine V.aload_n dX10_compared_0 rfl (i := 0) rfl ?_
    refine V.invv (z := mX10_sum) (As := []) dX10_compared_1 rfl mlRX10_103 okX10_sum npX10_sum rfl rfl rfl ⟨by decide, by decide⟩ (Nat.le_of_ble_eq_true rfl) rfl (Nat.le_of_ble_eq_true rfl) (hS1 (dd + 2) op k out _ _ (false, k1, o1) (by omega) ho hk (by omega) hR e (fun M1 v2 hT2 hF2 => ?_))
    show V rS g (dd + 3) mX10_compared 4 [some (.ref 83), none, none, none] [.int v2] M1 Q
    refine V.istore_n dX10_compared_4 rfl (i := 1) (by decide) (fun _ h => by cases h; exact Or.inl rfl) rfl ?_
    refine V.aload_n dX10_compared_5 rfl (i := 0) rfl ?_
    refine V.invv (z := mX10_here) (As := []) dX10_compared_6 rfl mlRX10_85 okX10_here npX10_here rfl rfl rfl ⟨by decide, by decide⟩ (Nat.le_of_ble_eq_true rfl) rfl (Nat.le_of_ble_eq_true rfl) (c_hereF (p := k1) (hF2 rfl) (by omega) ?_)
    show V rS g (dd + 3) mX10_compared 9 [some (.ref 83), some (.int v2), none, none] [.int (-1 : Int32)] M1 Q
    refine V.istore_n dX10_compared_9 rfl (i := 2) (by decide) (fun _ h => by cases h; exact Or.inl rfl) rfl ?_
    refine V.iload_n dX10_compared_10 rfl (i := 2) rfl ?_
    refine V.bipush dX10_compared_11 (v := 60) (by decide) ?_
    refine V.ic_eq (tgt := 30) dX10_compared_13 (by decide) (fun q => absurd q ((by decide))) (fun c13 => ?_)
    refine V.iload_n dX10_compared_16 rfl (i := 2) rfl ?_
    refine V.bipush dX10_compared_17 (v := 61) (by decide) ?_
    refine V.ic_eq (tgt := 30) dX10_compared_19 (by decide) (fun q => absurd q ((by decide))) (fun c19 => ?_)
    refine V.iload_n dX10_compared_22 rfl (i := 2) rfl ?_
    refine V.bipush dX10_compared_23 (v := 62) (by decide) ?_
    refine V.ic_eq (tgt := 30) dX10_compared_25 (by decide) (fun q => absurd q ((by decide))) (fun c25 => ?_)
    refine V.iload_n dX10_compared_28 rfl (i := 1) rfl ?_
    exact V.ret dX10_compared_29 rfl (hQ M1 _ (fun z => by cases z) (fun _ => hF2 rfl))
  · rw [rd_lvT (by omega) e] at he
    have i5 := i4' rfl
    by_cases hs : lvS ((nx (fun i => M0 84 (base + i)) sz) k1) = nI 2
    · have hks := lvS_in (by omega) hs
      rcases e2 : rd (nx (fun i => M0 84 (base + i)) sz) us f 3 op (k1 + 1) o1 with ⟨b2, k2, o2⟩
      obtain ⟨j1, j2, j3, j4⟩ := rd_inv f 3 op (k1 + 1) o1 _ (by omega) hks e2
      simp only at j1 j2 j3
      rcases lvS_2.mp hs with hc | hc | hc
      · cases b2
        · rw [rd_lpF hs e2] at he
          subst he
          refine V.aload_n dX10_compared_0 rfl (i := 0) rfl ?_
          refine V.invv (z := mX10_sum) (As := []) dX10_compared_1 rfl mlRX10_103 okX10_sum npX10_sum rfl rfl rfl ⟨by decide, by decide⟩ (Nat.le_of_ble_eq_true rfl) rfl (Nat.le_of_ble_eq_true rfl) (hS1 (dd + 2) op k out _ _ (true, k1, o1) (by omega) ho hk (by omega) hR e (fun M1 v1 hT1 hF1 => ?_))
          show V rS g (dd + 3) mX10_compared 4 [some (.ref 83), none, none, none] [.int v1] M1 Q
          obtain ⟨w1, hw1, hv1, h1⟩ := hT1 rfl
          refine V.istore_n dX10_compared_4 rfl (i := 1) (by decide) (fun _ h => by cases h; exact Or.inl rfl) rfl ?_
          refine V.aload_n dX10_compared_5 rfl (i := 0) rfl ?_
          refine V.invv (z := mX10_here) (As := []) dX10_compared_6 rfl mlRX10_85 okX10_here npX10_here rfl rfl rfl ⟨by decide, by decide⟩ (Nat.le_of_ble_eq_true rfl) rfl (Nat.le_of_ble_eq_true rfl) (c_here hT h1 i2 ?_)
          show V rS g (dd + 3) mX10_compared 9 [some (.ref 83), some (.int v1), none, none] [.int ((nx (fun i => M0 84 (base + i)) sz) k1)] M1 Q
          refine V.top (x' := (60 : Int32)) (hc) ?_
          refine V.istore_n dX10_compared_9 rfl (i := 2) (by decide) (fun _ h => by cases h; exact Or.inl rfl) rfl ?_
          refine V.iload_n dX10_compared_10 rfl (i := 2) rfl ?_
          refine V.bipush dX10_compared_11 (v := 60) (by decide) ?_
          refine V.ic_eq (tgt := 30) dX10_compared_13 (by decide) (fun c13 => ?_) (fun q => absurd (rfl) q)
          refine V.aload_n dX10_compared_30 rfl (i := 0) rfl ?_
          refine V.dup dX10_compared_31 rfl ?_
          refine V.getI dX10_compared_32 rfl flRX10_72 rfl ⟨by decide, by decide⟩ ?_
          refine V.top (x' := (nI k1)) (h1.2.1) ?_
          refine V.iconst dX10_compared_35 (v := 1) (by decide) ?_
          refine V.iadd dX10_compared_36 ?_
          refine V.top (x' := (nI (k1 + 1))) (nI_add k1 1) ?_
          refine V.putI dX10_compared_37 rfl fpRX10_72 rfl ⟨by decide, by decide⟩ ?_
          refine V.aload_n dX10_compared_40 rfl (i := 0) rfl ?_
          refine V.invv (z := mX10_sum) (As := []) dX10_compared_41 rfl mlRX10_103 okX10_sum npX10_sum rfl rfl rfl ⟨by decide, by decide⟩ (Nat.le_of_ble_eq_true rfl) rfl (Nat.le_of_ble_eq_true rfl) (hS (dd + 2) op (k1 + 1) o1 _ _ (false, k2, o2) (by omega) ho hks (by omega) h1.go e2 (fun M2 v2 hT2 hF2 => ?_))
          show V rS g (dd + 3) mX10_compared 44 [some (.ref 83), some (.int v1), some (.int (60 : Int32)), none] [.int v2] M2 Q
          refine V.istore_n dX10_compared_44 rfl (i := 3) (by decide) (fun _ h => by cases h; exact Or.inl rfl) rfl ?_
          refine V.iload_n dX10_compared_45 rfl (i := 2) rfl ?_
          refine V.bipush dX10_compared_46 (v := 60) (by decide) ?_
          suffices kJ48 : V rS g (dd + 3) mX10_compared 83 [some (.ref 83), some (.int v1), some (.int (60 : Int32)), some (.int v2)] [.int (if (60 : Int32) = (60 : Int32) then (if v2 ≤ v1 then (0 : Int32) else (1 : Int32)) else (if (60 : Int32) = (61 : Int32) then (if v1 = v2 then (1 : Int32) else (0 : Int32)) else (if v1 ≤ v2 then (0 : Int32) else (1 : Int32))))] M2 Q by
            refine V.ic_ne (tgt := 59) dX10_compared_48 (by decide) (fun c48 => ?_) (fun c48 => ?_)
            · refine V.iload_n dX10_compared_59 rfl (i := 2) rfl ?_
              refine V.bipush dX10_compared_60 (v := 61) (by decide) ?_
              refine V.ic_ne (tgt := 73) dX10_compared_62 (by decide) (fun c62 => ?_) (fun c62 => ?_)
              · refine V.iload_n dX10_compared_73 rfl (i := 1) rfl ?_
                refine V.iload_n dX10_compared_74 rfl (i := 3) rfl ?_
                refine V.ic_le (tgt := 82) dX10_compared_75 (by decide) (fun c75 => ?_) (fun c75 => ?_)
                · refine V.iconst dX10_compared_82 (v := 0) (by decide) ?_
                  rw [if_neg c48, if_neg c62, if_pos c75] at kJ48; exact kJ48
                · refine V.iconst dX10_compared_78 (v := 1) (by decide) ?_
                  refine V.goto dX10_compared_79 (tgt := 83) (by decide) ?_
                  rw [if_neg c48, if_neg c62, if_neg c75] at kJ48; exact kJ48
              · refine V.iload_n dX10_compared_65 rfl (i := 1) rfl ?_
                refine V.iload_n dX10_compared_66 rfl (i := 3) rfl ?_
                refine V.ic_ne (tgt := 82) dX10_compared_67 (by decide) (fun c67 => ?_) (fun c67 => ?_)
                · refine V.iconst dX10_compared_82 (v := 0) (by decide) ?_
                  rw [if_neg c48, if_pos c62, if_neg c67] at kJ48; exact kJ48
                · refine V.goto dX10_compared_70 (tgt := 78) (by decide) ?_
                  refine V.iconst dX10_compared_78 (v := 1) (by decide) ?_
                  refine V.goto dX10_compared_79 (tgt := 83) (by decide) ?_
                  rw [if_neg c48, if_pos c62, if_pos c67] at kJ48; exact kJ48
            · refine V.iload_n dX10_compared_51 rfl (i := 1) rfl ?_
              refine V.iload_n dX10_compared_52 rfl (i := 3) rfl ?_
              refine V.ic_ge (tgt := 82) dX10_compared_53 (by decide) (fun c53 => ?_) (fun c53 => ?_)
              · refine V.iconst dX10_compared_82 (v := 0) (by decide) ?_
                rw [if_pos c48, if_pos c53] at kJ48; exact kJ48
              · refine V.goto dX10_compared_56 (tgt := 78) (by decide) ?_
                refine V.iconst dX10_compared_78 (v := 1) (by decide) ?_
                refine V.goto dX10_compared_79 (tgt := 83) (by decide) ?_
                rw [if_pos c48, if_neg c53] at kJ48; exact kJ48
          exact V.ret dX10_compared_83 rfl (hQ M2 _ (fun z => by cases z) (fun _ => hF2 rfl))
        · rw [rd_lpE hs e2] at he
          subst he
          refine V.aload_n dX10_compared_0 rfl (i := 0) rfl ?_
          refine V.invv (z := mX10_sum) (As := []) dX10_compared_1 rfl mlRX10_103 okX10_sum npX10_sum rfl rfl rfl ⟨by decide, by decide⟩ (Nat.le_of_ble_eq_true rfl) rfl (Nat.le_of_ble_eq_true rfl) (hS1 (dd + 2) op k out _ _ (true, k1, o1) (by omega) ho hk (by omega) hR e (fun M1 v1 hT1 hF1 => ?_))
          show V rS g (dd + 3) mX10_compared 4 [some (.ref 83), none, none, none] [.int v1] M1 Q
          obtain ⟨w1, hw1, hv1, h1⟩ := hT1 rfl
          refine V.istore_n dX10_compared_4 rfl (i := 1) (by decide) (fun _ h => by cases h; exact Or.inl rfl) rfl ?_
          refine V.aload_n dX10_compared_5 rfl (i := 0) rfl ?_
          refine V.invv (z := mX10_here) (As := []) dX10_compared_6 rfl mlRX10_85 okX10_here npX10_here rfl rfl rfl ⟨by decide, by decide⟩ (Nat.le_of_ble_eq_true rfl) rfl (Nat.le_of_ble_eq_true rfl) (c_here hT h1 i2 ?_)
          show V rS g (dd + 3) mX10_compared 9 [some (.ref 83), some (.int v1), none, none] [.int ((nx (fun i => M0 84 (base + i)) sz) k1)] M1 Q
          refine V.top (x' := (60 : Int32)) (hc) ?_
          refine V.istore_n dX10_compared_9 rfl (i := 2) (by decide) (fun _ h => by cases h; exact Or.inl rfl) rfl ?_
          refine V.iload_n dX10_compared_10 rfl (i := 2) rfl ?_
          refine V.bipush dX10_compared_11 (v := 60) (by decide) ?_
          refine V.ic_eq (tgt := 30) dX10_compared_13 (by decide) (fun c13 => ?_) (fun q => absurd (rfl) q)
          refine V.aload_n dX10_compared_30 rfl (i := 0) rfl ?_
          refine V.dup dX10_compared_31 rfl ?_
          refine V.getI dX10_compared_32 rfl flRX10_72 rfl ⟨by decide, by decide⟩ ?_
          refine V.top (x' := (nI k1)) (h1.2.1) ?_
          refine V.iconst dX10_compared_35 (v := 1) (by decide) ?_
          refine V.iadd dX10_compared_36 ?_
          refine V.top (x' := (nI (k1 + 1))) (nI_add k1 1) ?_
          refine V.putI dX10_compared_37 rfl fpRX10_72 rfl ⟨by decide, by decide⟩ ?_
          refine V.aload_n dX10_compared_40 rfl (i := 0) rfl ?_
          refine V.invv (z := mX10_sum) (As := []) dX10_compared_41 rfl mlRX10_103 okX10_sum npX10_sum rfl rfl rfl ⟨by decide, by decide⟩ (Nat.le_of_ble_eq_true rfl) rfl (Nat.le_of_ble_eq_true rfl) (hS (dd + 2) op (k1 + 1) o1 _ _ (true, k2, o2) (by omega) ho hks (by omega) h1.go e2 (fun M2 v2 hT2 hF2 => ?_))
          show V rS g (dd + 3) mX10_compared 44 [some (.ref 83), some (.int v1), some (.int (60 : Int32)), none] [.int v2] M2 Q
          obtain ⟨w2, hw2, hv2, h2⟩ := hT2 rfl
          refine V.istore_n dX10_compared_44 rfl (i := 3) (by decide) (fun _ h => by cases h; exact Or.inl rfl) rfl ?_
          refine V.iload_n dX10_compared_45 rfl (i := 2) rfl ?_
          refine V.bipush dX10_compared_46 (v := 60) (by decide) ?_
          suffices kJ48 : V rS g (dd + 3) mX10_compared 83 [some (.ref 83), some (.int v1), some (.int (60 : Int32)), some (.int v2)] [.int (if (60 : Int32) = (60 : Int32) then (if v2 ≤ v1 then (0 : Int32) else (1 : Int32)) else (if (60 : Int32) = (61 : Int32) then (if v1 = v2 then (1 : Int32) else (0 : Int32)) else (if v1 ≤ v2 then (0 : Int32) else (1 : Int32))))] M2 Q by
            refine V.ic_ne (tgt := 59) dX10_compared_48 (by decide) (fun c48 => ?_) (fun c48 => ?_)
            · refine V.iload_n dX10_compared_59 rfl (i := 2) rfl ?_
              refine V.bipush dX10_compared_60 (v := 61) (by decide) ?_
              refine V.ic_ne (tgt := 73) dX10_compared_62 (by decide) (fun c62 => ?_) (fun c62 => ?_)
              · refine V.iload_n dX10_compared_73 rfl (i := 1) rfl ?_
                refine V.iload_n dX10_compared_74 rfl (i := 3) rfl ?_
                refine V.ic_le (tgt := 82) dX10_compared_75 (by decide) (fun c75 => ?_) (fun c75 => ?_)
                · refine V.iconst dX10_compared_82 (v := 0) (by decide) ?_
                  rw [if_neg c48, if_neg c62, if_pos c75] at kJ48; exact kJ48
                · refine V.iconst dX10_compared_78 (v := 1) (by decide) ?_
                  refine V.goto dX10_compared_79 (tgt := 83) (by decide) ?_
                  rw [if_neg c48, if_neg c62, if_neg c75] at kJ48; exact kJ48
              · refine V.iload_n dX10_compared_65 rfl (i := 1) rfl ?_
                refine V.iload_n dX10_compared_66 rfl (i := 3) rfl ?_
                refine V.ic_ne (tgt := 82) dX10_compared_67 (by decide) (fun c67 => ?_) (fun c67 => ?_)
                · refine V.iconst dX10_compared_82 (v := 0) (by decide) ?_
                  rw [if_neg c48, if_pos c62, if_neg c67] at kJ48; exact kJ48
                · refine V.goto dX10_compared_70 (tgt := 78) (by decide) ?_
                  refine V.iconst dX10_compared_78 (v := 1) (by decide) ?_
                  refine V.goto dX10_compared_79 (tgt := 83) (by decide) ?_
                  rw [if_neg c48, if_pos c62, if_pos c67] at kJ48; exact kJ48
            · refine V.iload_n dX10_compared_51 rfl (i := 1) rfl ?_
              refine V.iload_n dX10_compared_52 rfl (i := 3) rfl ?_
              refine V.ic_ge (tgt := 82) dX10_compared_53 (by decide) (fun c53 => ?_) (fun c53 => ?_)
              · refine V.iconst dX10_compared_82 (v := 0) (by decide) ?_
                rw [if_pos c48, if_pos c53] at kJ48; exact kJ48
              · refine V.goto dX10_compared_56 (tgt := 78) (by decide) ?_
                refine V.iconst dX10_compared_78 (v := 1) (by decide) ?_
                refine V.goto dX10_compared_79 (tgt := 83) (by decide) ?_
                rw [if_pos c48, if_neg c53] at kJ48; exact kJ48
          refine V.top (x' := (joinF 60 v1 v2)) ((jn60 v1 v2)) ?_
          exact V.ret dX10_compared_83 rfl (hQ M2 _ (fun _ => ⟨w1 ++ w2 ++ [-60], (by show o2 ++ [-((nx (fun i => M0 84 (base + i)) sz) k1)] = _; rw [hc, ← List.append_assoc, ← List.append_assoc, ← hw1]; exact congrArg (· ++ [-60]) hw2), hv1.bin hv2 (by decide) (by decide), h2⟩) (fun z => by cases z))
      · cases b2
        · rw [rd_lpF hs e2] at he
          subst he
          refine V.aload_n dX10_compared_0 rfl (i := 0) rfl ?_
          refine V.invv (z := mX10_sum) (As := []) dX10_compared_1 rfl mlRX10_103 okX10_sum npX10_sum rfl rfl rfl ⟨by decide, by decide⟩ (Nat.le_of_ble_eq_true rfl) rfl (Nat.le_of_ble_eq_true rfl) (hS1 (dd + 2) op k out _ _ (true, k1, o1) (by omega) ho hk (by omega) hR e (fun M1 v1 hT1 hF1 => ?_))
          show V rS g (dd + 3) mX10_compared 4 [some (.ref 83), none, none, none] [.int v1] M1 Q
          obtain ⟨w1, hw1, hv1, h1⟩ := hT1 rfl
          refine V.istore_n dX10_compared_4 rfl (i := 1) (by decide) (fun _ h => by cases h; exact Or.inl rfl) rfl ?_
          refine V.aload_n dX10_compared_5 rfl (i := 0) rfl ?_
          refine V.invv (z := mX10_here) (As := []) dX10_compared_6 rfl mlRX10_85 okX10_here npX10_here rfl rfl rfl ⟨by decide, by decide⟩ (Nat.le_of_ble_eq_true rfl) rfl (Nat.le_of_ble_eq_true rfl) (c_here hT h1 i2 ?_)
          show V rS g (dd + 3) mX10_compared 9 [some (.ref 83), some (.int v1), none, none] [.int ((nx (fun i => M0 84 (base + i)) sz) k1)] M1 Q
          refine V.top (x' := (61 : Int32)) (hc) ?_
          refine V.istore_n dX10_compared_9 rfl (i := 2) (by decide) (fun _ h => by cases h; exact Or.inl rfl) rfl ?_
          refine V.iload_n dX10_compared_10 rfl (i := 2) rfl ?_
          refine V.bipush dX10_compared_11 (v := 60) (by decide) ?_
          refine V.ic_eq (tgt := 30) dX10_compared_13 (by decide) (fun q => absurd q ((by decide))) (fun c13 => ?_)
          refine V.iload_n dX10_compared_16 rfl (i := 2) rfl ?_
          refine V.bipush dX10_compared_17 (v := 61) (by decide) ?_
          refine V.ic_eq (tgt := 30) dX10_compared_19 (by decide) (fun c19 => ?_) (fun q => absurd (rfl) q)
          refine V.aload_n dX10_compared_30 rfl (i := 0) rfl ?_
          refine V.dup dX10_compared_31 rfl ?_
          refine V.getI dX10_compared_32 rfl flRX10_72 rfl ⟨by decide, by decide⟩ ?_
          refine V.top (x' := (nI k1)) (h1.2.1) ?_
          refine V.iconst dX10_compared_35 (v := 1) (by decide) ?_
          refine V.iadd dX10_compared_36 ?_
          refine V.top (x' := (nI (k1 + 1))) (nI_add k1 1) ?_
          refine V.putI dX10_compared_37 rfl fpRX10_72 rfl ⟨by decide, by decide⟩ ?_
          refine V.aload_n dX10_compared_40 rfl (i := 0) rfl ?_
          refine V.invv (z := mX10_sum) (As := []) dX10_compared_41 rfl mlRX10_103 okX10_sum npX10_sum rfl rfl rfl ⟨by decide, by decide⟩ (Nat.le_of_ble_eq_true rfl) rfl (Nat.le_of_ble_eq_true rfl) (hS (dd + 2) op (k1 + 1) o1 _ _ (false, k2, o2) (by omega) ho hks (by omega) h1.go e2 (fun M2 v2 hT2 hF2 => ?_))
          show V rS g (dd + 3) mX10_compared 44 [some (.ref 83), some (.int v1), some (.int (61 : Int32)), none] [.int v2] M2 Q
          refine V.istore_n dX10_compared_44 rfl (i := 3) (by decide) (fun _ h => by cases h; exact Or.inl rfl) rfl ?_
          refine V.iload_n dX10_compared_45 rfl (i := 2) rfl ?_
          refine V.bipush dX10_compared_46 (v := 60) (by decide) ?_
          suffices kJ48 : V rS g (dd + 3) mX10_compared 83 [some (.ref 83), some (.int v1), some (.int (61 : Int32)), some (.int v2)] [.int (if (61 : Int32) = (60 : Int32) then (if v2 ≤ v1 then (0 : Int32) else (1 : Int32)) else (if (61 : Int32) = (61 : Int32) then (if v1 = v2 then (1 : Int32) else (0 : Int32)) else (if v1 ≤ v2 then (0 : Int32) else (1 : Int32))))] M2 Q by
            refine V.ic_ne (tgt := 59) dX10_compared_48 (by decide) (fun c48 => ?_) (fun c48 => ?_)
            · refine V.iload_n dX10_compared_59 rfl (i := 2) rfl ?_
              refine V.bipush dX10_compared_60 (v := 61) (by decide) ?_
              refine V.ic_ne (tgt := 73) dX10_compared_62 (by decide) (fun c62 => ?_) (fun c62 => ?_)
              · refine V.iload_n dX10_compared_73 rfl (i := 1) rfl ?_
                refine V.iload_n dX10_compared_74 rfl (i := 3) rfl ?_
                refine V.ic_le (tgt := 82) dX10_compared_75 (by decide) (fun c75 => ?_) (fun c75 => ?_)
                · refine V.iconst dX10_compared_82 (v := 0) (by decide) ?_
                  rw [if_neg c48, if_neg c62, if_pos c75] at kJ48; exact kJ48
                · refine V.iconst dX10_compared_78 (v := 1) (by decide) ?_
                  refine V.goto dX10_compared_79 (tgt := 83) (by decide) ?_
                  rw [if_neg c48, if_neg c62, if_neg c75] at kJ48; exact kJ48
              · refine V.iload_n dX10_compared_65 rfl (i := 1) rfl ?_
                refine V.iload_n dX10_compared_66 rfl (i := 3) rfl ?_
                refine V.ic_ne (tgt := 82) dX10_compared_67 (by decide) (fun c67 => ?_) (fun c67 => ?_)
                · refine V.iconst dX10_compared_82 (v := 0) (by decide) ?_
                  rw [if_neg c48, if_pos c62, if_neg c67] at kJ48; exact kJ48
                · refine V.goto dX10_compared_70 (tgt := 78) (by decide) ?_
                  refine V.iconst dX10_compared_78 (v := 1) (by decide) ?_
                  refine V.goto dX10_compared_79 (tgt := 83) (by decide) ?_
                  rw [if_neg c48, if_pos c62, if_pos c67] at kJ48; exact kJ48
            · refine V.iload_n dX10_compared_51 rfl (i := 1) rfl ?_
              refine V.iload_n dX10_compared_52 rfl (i := 3) rfl ?_
              refine V.ic_ge (tgt := 82) dX10_compared_53 (by decide) (fun c53 => ?_) (fun c53 => ?_)
              · refine V.iconst dX10_compared_82 (v := 0) (by decide) ?_
                rw [if_pos c48, if_pos c53] at kJ48; exact kJ48
              · refine V.goto dX10_compared_56 (tgt := 78) (by decide) ?_
                refine V.iconst dX10_compared_78 (v := 1) (by decide) ?_
                refine V.goto dX10_compared_79 (tgt := 83) (by decide) ?_
                rw [if_pos c48, if_neg c53] at kJ48; exact kJ48
          exact V.ret dX10_compared_83 rfl (hQ M2 _ (fun z => by cases z) (fun _ => hF2 rfl))
        · rw [rd_lpE hs e2] at he
          subst he
          refine V.aload_n dX10_compared_0 rfl (i := 0) rfl ?_
          refine V.invv (z := mX10_sum) (As := []) dX10_compared_1 rfl mlRX10_103 okX10_sum npX10_sum rfl rfl rfl ⟨by decide, by decide⟩ (Nat.le_of_ble_eq_true rfl) rfl (Nat.le_of_ble_eq_true rfl) (hS1 (dd + 2) op k out _ _ (true, k1, o1) (by omega) ho hk (by omega) hR e (fun M1 v1 hT1 hF1 => ?_))
          show V rS g (dd + 3) mX10_compared 4 [some (.ref 83), none, none, none] [.int v1] M1 Q
          obtain ⟨w1, hw1, hv1, h1⟩ := hT1 rfl
          refine V.istore_n dX10_compared_4 rfl (i := 1) (by decide) (fun _ h => by cases h; exact Or.inl rfl) rfl ?_
          refine V.aload_n dX10_compared_5 rfl (i := 0) rfl ?_
          refine V.invv (z := mX10_here) (As := []) dX10_compared_6 rfl mlRX10_85 okX10_here npX10_here rfl rfl rfl ⟨by decide, by decide⟩ (Nat.le_of_ble_eq_true rfl) rfl (Nat.le_of_ble_eq_true rfl) (c_here hT h1 i2 ?_)
          show V rS g (dd + 3) mX10_compared 9 [some (.ref 83), some (.int v1), none, none] [.int ((nx (fun i => M0 84 (base + i)) sz) k1)] M1 Q
          refine V.top (x' := (61 : Int32)) (hc) ?_
          refine V.istore_n dX10_compared_9 rfl (i := 2) (by decide) (fun _ h => by cases h; exact Or.inl rfl) rfl ?_
          refine V.iload_n dX10_compared_10 rfl (i := 2) rfl ?_
          refine V.bipush dX10_compared_11 (v := 60) (by decide) ?_
          refine V.ic_eq (tgt := 30) dX10_compared_13 (by decide) (fun q => absurd q ((by decide))) (fun c13 => ?_)
          refine V.iload_n dX10_compared_16 rfl (i := 2) rfl ?_
          refine V.bipush dX10_compared_17 (v := 61) (by decide) ?_
          refine V.ic_eq (tgt := 30) dX10_compared_19 (by decide) (fun c19 => ?_) (fun q => absurd (rfl) q)
          refine V.aload_n dX10_compared_30 rfl (i := 0) rfl ?_
          refine V.dup dX10_compared_31 rfl ?_
          refine V.getI dX10_compared_32 rfl flRX10_72 rfl ⟨by decide, by decide⟩ ?_
          refine V.top (x' := (nI k1)) (h1.2.1) ?_
          refine V.iconst dX10_compared_35 (v := 1) (by decide) ?_
          refine V.iadd dX10_compared_36 ?_
          refine V.top (x' := (nI (k1 + 1))) (nI_add k1 1) ?_
          refine V.putI dX10_compared_37 rfl fpRX10_72 rfl ⟨by decide, by decide⟩ ?_
          refine V.aload_n dX10_compared_40 rfl (i := 0) rfl ?_
          refine V.invv (z := mX10_sum) (As := []) dX10_compared_41 rfl mlRX10_103 okX10_sum npX10_sum rfl rfl rfl ⟨by decide, by decide⟩ (Nat.le_of_ble_eq_true rfl) rfl (Nat.le_of_ble_eq_true rfl) (hS (dd + 2) op (k1 + 1) o1 _ _ (true, k2, o2) (by omega) ho hks (by omega) h1.go e2 (fun M2 v2 hT2 hF2 => ?_))
          show V rS g (dd + 3) mX10_compared 44 [some (.ref 83), some (.int v1), some (.int (61 : Int32)), none] [.int v2] M2 Q
          obtain ⟨w2, hw2, hv2, h2⟩ := hT2 rfl
          refine V.istore_n dX10_compared_44 rfl (i := 3) (by decide) (fun _ h => by cases h; exact Or.inl rfl) rfl ?_
          refine V.iload_n dX10_compared_45 rfl (i := 2) rfl ?_
          refine V.bipush dX10_compared_46 (v := 60) (by decide) ?_
          suffices kJ48 : V rS g (dd + 3) mX10_compared 83 [some (.ref 83), some (.int v1), some (.int (61 : Int32)), some (.int v2)] [.int (if (61 : Int32) = (60 : Int32) then (if v2 ≤ v1 then (0 : Int32) else (1 : Int32)) else (if (61 : Int32) = (61 : Int32) then (if v1 = v2 then (1 : Int32) else (0 : Int32)) else (if v1 ≤ v2 then (0 : Int32) else (1 : Int32))))] M2 Q by
            refine V.ic_ne (tgt := 59) dX10_compared_48 (by decide) (fun c48 => ?_) (fun c48 => ?_)
            · refine V.iload_n dX10_compared_59 rfl (i := 2) rfl ?_
              refine V.bipush dX10_compared_60 (v := 61) (by decide) ?_
              refine V.ic_ne (tgt := 73) dX10_compared_62 (by decide) (fun c62 => ?_) (fun c62 => ?_)
              · refine V.iload_n dX10_compared_73 rfl (i := 1) rfl ?_
                refine V.iload_n dX10_compared_74 rfl (i := 3) rfl ?_
                refine V.ic_le (tgt := 82) dX10_compared_75 (by decide) (fun c75 => ?_) (fun c75 => ?_)
                · refine V.iconst dX10_compared_82 (v := 0) (by decide) ?_
                  rw [if_neg c48, if_neg c62, if_pos c75] at kJ48; exact kJ48
                · refine V.iconst dX10_compared_78 (v := 1) (by decide) ?_
                  refine V.goto dX10_compared_79 (tgt := 83) (by decide) ?_
                  rw [if_neg c48, if_neg c62, if_neg c75] at kJ48; exact kJ48
              · refine V.iload_n dX10_compared_65 rfl (i := 1) rfl ?_
                refine V.iload_n dX10_compared_66 rfl (i := 3) rfl ?_
                refine V.ic_ne (tgt := 82) dX10_compared_67 (by decide) (fun c67 => ?_) (fun c67 => ?_)
                · refine V.iconst dX10_compared_82 (v := 0) (by decide) ?_
                  rw [if_neg c48, if_pos c62, if_neg c67] at kJ48; exact kJ48
                · refine V.goto dX10_compared_70 (tgt := 78) (by decide) ?_
                  refine V.iconst dX10_compared_78 (v := 1) (by decide) ?_
                  refine V.goto dX10_compared_79 (tgt := 83) (by decide) ?_
                  rw [if_neg c48, if_pos c62, if_pos c67] at kJ48; exact kJ48
            · refine V.iload_n dX10_compared_51 rfl (i := 1) rfl ?_
              refine V.iload_n dX10_compared_52 rfl (i := 3) rfl ?_
              refine V.ic_ge (tgt := 82) dX10_compared_53 (by decide) (fun c53 => ?_) (fun c53 => ?_)
              · refine V.iconst dX10_compared_82 (v := 0) (by decide) ?_
                rw [if_pos c48, if_pos c53] at kJ48; exact kJ48
              · refine V.goto dX10_compared_56 (tgt := 78) (by decide) ?_
                refine V.iconst dX10_compared_78 (v := 1) (by decide) ?_
                refine V.goto dX10_compared_79 (tgt := 83) (by decide) ?_
                rw [if_pos c48, if_neg c53] at kJ48; exact kJ48
          refine V.top (x' := (joinF 61 v1 v2)) ((jn61 v1 v2)) ?_
          exact V.ret dX10_compared_83 rfl (hQ M2 _ (fun _ => ⟨w1 ++ w2 ++ [-61], (by show o2 ++ [-((nx (fun i => M0 84 (base + i)) sz) k1)] = _; rw [hc, ← List.append_assoc, ← List.append_assoc, ← hw1]; exact congrArg (· ++ [-61]) hw2), hv1.bin hv2 (by decide) (by decide), h2⟩) (fun z => by cases z))
      · cases b2
        · rw [rd_lpF hs e2] at he
          subst he
          refine V.aload_n dX10_compared_0 rfl (i := 0) rfl ?_
          refine V.invv (z := mX10_sum) (As := []) dX10_compared_1 rfl mlRX10_103 okX10_sum npX10_sum rfl rfl rfl ⟨by decide, by decide⟩ (Nat.le_of_ble_eq_true rfl) rfl (Nat.le_of_ble_eq_true rfl) (hS1 (dd + 2) op k out _ _ (true, k1, o1) (by omega) ho hk (by omega) hR e (fun M1 v1 hT1 hF1 => ?_))
          show V rS g (dd + 3) mX10_compared 4 [some (.ref 83), none, none, none] [.int v1] M1 Q
          obtain ⟨w1, hw1, hv1, h1⟩ := hT1 rfl
          refine V.istore_n dX10_compared_4 rfl (i := 1) (by decide) (fun _ h => by cases h; exact Or.inl rfl) rfl ?_
          refine V.aload_n dX10_compared_5 rfl (i := 0) rfl ?_
          refine V.invv (z := mX10_here) (As := []) dX10_compared_6 rfl mlRX10_85 okX10_here npX10_here rfl rfl rfl ⟨by decide, by decide⟩ (Nat.le_of_ble_eq_true rfl) rfl (Nat.le_of_ble_eq_true rfl) (c_here hT h1 i2 ?_)
          show V rS g (dd + 3) mX10_compared 9 [some (.ref 83), some (.int v1), none, none] [.int ((nx (fun i => M0 84 (base + i)) sz) k1)] M1 Q
          refine V.top (x' := (62 : Int32)) (hc) ?_
          refine V.istore_n dX10_compared_9 rfl (i := 2) (by decide) (fun _ h => by cases h; exact Or.inl rfl) rfl ?_
          refine V.iload_n dX10_compared_10 rfl (i := 2) rfl ?_
          refine V.bipush dX10_compared_11 (v := 60) (by decide) ?_
          refine V.ic_eq (tgt := 30) dX10_compared_13 (by decide) (fun q => absurd q ((by decide))) (fun c13 => ?_)
          refine V.iload_n dX10_compared_16 rfl (i := 2) rfl ?_
          refine V.bipush dX10_compared_17 (v := 61) (by decide) ?_
          refine V.ic_eq (tgt := 30) dX10_compared_19 (by decide) (fun q => absurd q ((by decide))) (fun c19 => ?_)
          refine V.iload_n dX10_compared_22 rfl (i := 2) rfl ?_
          refine V.bipush dX10_compared_23 (v := 62) (by decide) ?_
          refine V.ic_eq (tgt := 30) dX10_compared_25 (by decide) (fun c25 => ?_) (fun q => absurd (rfl) q)
          refine V.aload_n dX10_compared_30 rfl (i := 0) rfl ?_
          refine V.dup dX10_compared_31 rfl ?_
          refine V.getI dX10_compared_32 rfl flRX10_72 rfl ⟨by decide, by decide⟩ ?_
          refine V.top (x' := (nI k1)) (h1.2.1) ?_
          refine V.iconst dX10_compared_35 (v := 1) (by decide) ?_
          refine V.iadd dX10_compared_36 ?_
          refine V.top (x' := (nI (k1 + 1))) (nI_add k1 1) ?_
          refine V.putI dX10_compared_37 rfl fpRX10_72 rfl ⟨by decide, by decide⟩ ?_
          refine V.aload_n dX10_compared_40 rfl (i := 0) rfl ?_
          refine V.invv (z := mX10_sum) (As := []) dX10_compared_41 rfl mlRX10_103 okX10_sum npX10_sum rfl rfl rfl ⟨by decide, by decide⟩ (Nat.le_of_ble_eq_true rfl) rfl (Nat.le_of_ble_eq_true rfl) (hS (dd + 2) op (k1 + 1) o1 _ _ (false, k2, o2) (by omega) ho hks (by omega) h1.go e2 (fun M2 v2 hT2 hF2 => ?_))
          show V rS g (dd + 3) mX10_compared 44 [some (.ref 83), some (.int v1), some (.int (62 : Int32)), none] [.int v2] M2 Q
          refine V.istore_n dX10_compared_44 rfl (i := 3) (by decide) (fun _ h => by cases h; exact Or.inl rfl) rfl ?_
          refine V.iload_n dX10_compared_45 rfl (i := 2) rfl ?_
          refine V.bipush dX10_compared_46 (v := 60) (by decide) ?_
          suffices kJ48 : V rS g (dd + 3) mX10_compared 83 [some (.ref 83), some (.int v1), some (.int (62 : Int32)), some (.int v2)] [.int (if (62 : Int32) = (60 : Int32) then (if v2 ≤ v1 then (0 : Int32) else (1 : Int32)) else (if (62 : Int32) = (61 : Int32) then (if v1 = v2 then (1 : Int32) else (0 : Int32)) else (if v1 ≤ v2 then (0 : Int32) else (1 : Int32))))] M2 Q by
            refine V.ic_ne (tgt := 59) dX10_compared_48 (by decide) (fun c48 => ?_) (fun c48 => ?_)
            · refine V.iload_n dX10_compared_59 rfl (i := 2) rfl ?_
              refine V.bipush dX10_compared_60 (v := 61) (by decide) ?_
              refine V.ic_ne (tgt := 73) dX10_compared_62 (by decide) (fun c62 => ?_) (fun c62 => ?_)
              · refine V.iload_n dX10_compared_73 rfl (i := 1) rfl ?_
                refine V.iload_n dX10_compared_74 rfl (i := 3) rfl ?_
                refine V.ic_le (tgt := 82) dX10_compared_75 (by decide) (fun c75 => ?_) (fun c75 => ?_)
                · refine V.iconst dX10_compared_82 (v := 0) (by decide) ?_
                  rw [if_neg c48, if_neg c62, if_pos c75] at kJ48; exact kJ48
                · refine V.iconst dX10_compared_78 (v := 1) (by decide) ?_
                  refine V.goto dX10_compared_79 (tgt := 83) (by decide) ?_
                  rw [if_neg c48, if_neg c62, if_neg c75] at kJ48; exact kJ48
              · refine V.iload_n dX10_compared_65 rfl (i := 1) rfl ?_
                refine V.iload_n dX10_compared_66 rfl (i := 3) rfl ?_
                refine V.ic_ne (tgt := 82) dX10_compared_67 (by decide) (fun c67 => ?_) (fun c67 => ?_)
                · refine V.iconst dX10_compared_82 (v := 0) (by decide) ?_
                  rw [if_neg c48, if_pos c62, if_neg c67] at kJ48; exact kJ48
                · refine V.goto dX10_compared_70 (tgt := 78) (by decide) ?_
                  refine V.iconst dX10_compared_78 (v := 1) (by decide) ?_
                  refine V.goto dX10_compared_79 (tgt := 83) (by decide) ?_
                  rw [if_neg c48, if_pos c62, if_pos c67] at kJ48; exact kJ48
            · refine V.iload_n dX10_compared_51 rfl (i := 1) rfl ?_
              refine V.iload_n dX10_compared_52 rfl (i := 3) rfl ?_
              refine V.ic_ge (tgt := 82) dX10_compared_53 (by decide) (fun c53 => ?_) (fun c53 => ?_)
              · refine V.iconst dX10_compared_82 (v := 0) (by decide) ?_
                rw [if_pos c48, if_pos c53] at kJ48; exact kJ48
              · refine V.goto dX10_compared_56 (tgt := 78) (by decide) ?_
                refine V.iconst dX10_compared_78 (v := 1) (by decide) ?_
                refine V.goto dX10_compared_79 (tgt := 83) (by decide) ?_
                rw [if_pos c48, if_neg c53] at kJ48; exact kJ48
          exact V.ret dX10_compared_83 rfl (hQ M2 _ (fun z => by cases z) (fun _ => hF2 rfl))
        · rw [rd_lpE hs e2] at he
          subst he
          refine V.aload_n dX10_compared_0 rfl (i := 0) rfl ?_
          refine V.invv (z := mX10_sum) (As := []) dX10_compared_1 rfl mlRX10_103 okX10_sum npX10_sum rfl rfl rfl ⟨by decide, by decide⟩ (Nat.le_of_ble_eq_true rfl) rfl (Nat.le_of_ble_eq_true rfl) (hS1 (dd + 2) op k out _ _ (true, k1, o1) (by omega) ho hk (by omega) hR e (fun M1 v1 hT1 hF1 => ?_))
          show V rS g (dd + 3) mX10_compared 4 [some (.ref 83), none, none, none] [.int v1] M1 Q
          obtain ⟨w1, hw1, hv1, h1⟩ := hT1 rfl
          refine V.istore_n dX10_compared_4 rfl (i := 1) (by decide) (fun _ h => by cases h; exact Or.inl rfl) rfl ?_
          refine V.aload_n dX10_compared_5 rfl (i := 0) rfl ?_
          refine V.invv (z := mX10_here) (As := []) dX10_compared_6 rfl mlRX10_85 okX10_here npX10_here rfl rfl rfl ⟨by decide, by decide⟩ (Nat.le_of_ble_eq_true rfl) rfl (Nat.le_of_ble_eq_true rfl) (c_here hT h1 i2 ?_)
          show V rS g (dd + 3) mX10_compared 9 [some (.ref 83), some (.int v1), none, none] [.int ((nx (fun i => M0 84 (base + i)) sz) k1)] M1 Q
          refine V.top (x' := (62 : Int32)) (hc) ?_
          refine V.istore_n dX10_compared_9 rfl (i := 2) (by decide) (fun _ h => by cases h; exact Or.inl rfl) rfl ?_
          refine V.iload_n dX10_compared_10 rfl (i := 2) rfl ?_
          refine V.bipush dX10_compared_11 (v := 60) (by decide) ?_
          refine V.ic_eq (tgt := 30) dX10_compared_13 (by decide) (fun q => absurd q ((by decide))) (fun c13 => ?_)
          refine V.iload_n dX10_compared_16 rfl (i := 2) rfl ?_
          refine V.bipush dX10_compared_17 (v := 61) (by decide) ?_
          refine V.ic_eq (tgt := 30) dX10_compared_19 (by decide) (fun q => absurd q ((by decide))) (fun c19 => ?_)
          refine V.iload_n dX10_compared_22 rfl (i := 2) rfl ?_
          refine V.bipush dX10_compared_23 (v := 62) (by decide) ?_
          refine V.ic_eq (tgt := 30) dX10_compared_25 (by decide) (fun c25 => ?_) (fun q => absurd (rfl) q)
          refine V.aload_n dX10_compared_30 rfl (i := 0) rfl ?_
          refine V.dup dX10_compared_31 rfl ?_
          refine V.getI dX10_compared_32 rfl flRX10_72 rfl ⟨by decide, by decide⟩ ?_
          refine V.top (x' := (nI k1)) (h1.2.1) ?_
          refine V.iconst dX10_compared_35 (v := 1) (by decide) ?_
          refine V.iadd dX10_compared_36 ?_
          refine V.top (x' := (nI (k1 + 1))) (nI_add k1 1) ?_
          refine V.putI dX10_compared_37 rfl fpRX10_72 rfl ⟨by decide, by decide⟩ ?_
          refine V.aload_n dX10_compared_40 rfl (i := 0) rfl ?_
          refine V.invv (z := mX10_sum) (As := []) dX10_compared_41 rfl mlRX10_103 okX10_sum npX10_sum rfl rfl rfl ⟨by decide, by decide⟩ (Nat.le_of_ble_eq_true rfl) rfl (Nat.le_of_ble_eq_true rfl) (hS (dd + 2) op (k1 + 1) o1 _ _ (true, k2, o2) (by omega) ho hks (by omega) h1.go e2 (fun M2 v2 hT2 hF2 => ?_))
          show V rS g (dd + 3) mX10_compared 44 [some (.ref 83), some (.int v1), some (.int (62 : Int32)), none] [.int v2] M2 Q
          obtain ⟨w2, hw2, hv2, h2⟩ := hT2 rfl
          refine V.istore_n dX10_compared_44 rfl (i := 3) (by decide) (fun _ h => by cases h; exact Or.inl rfl) rfl ?_
          refine V.iload_n dX10_compared_45 rfl (i := 2) rfl ?_
          refine V.bipush dX10_compared_46 (v := 60) (by decide) ?_
          suffices kJ48 : V rS g (dd + 3) mX10_compared 83 [some (.ref 83), some (.int v1), some (.int (62 : Int32)), some (.int v2)] [.int (if (62 : Int32) = (60 : Int32) then (if v2 ≤ v1 then (0 : Int32) else (1 : Int32)) else (if (62 : Int32) = (61 : Int32) then (if v1 = v2 then (1 : Int32) else (0 : Int32)) else (if v1 ≤ v2 then (0 : Int32) else (1 : Int32))))] M2 Q by
            refine V.ic_ne (tgt := 59) dX10_compared_48 (by decide) (fun c48 => ?_) (fun c48 => ?_)
            · refine V.iload_n dX10_compared_59 rfl (i := 2) rfl ?_
              refine V.bipush dX10_compared_60 (v := 61) (by decide) ?_
              refine V.ic_ne (tgt := 73) dX10_compared_62 (by decide) (fun c62 => ?_) (fun c62 => ?_)
              · refine V.iload_n dX10_compared_73 rfl (i := 1) rfl ?_
                refine V.iload_n dX10_compared_74 rfl (i := 3) rfl ?_
                refine V.ic_le (tgt := 82) dX10_compared_75 (by decide) (fun c75 => ?_) (fun c75 => ?_)
                · refine V.iconst dX10_compared_82 (v := 0) (by decide) ?_
                  rw [if_neg c48, if_neg c62, if_pos c75] at kJ48; exact kJ48
                · refine V.iconst dX10_compared_78 (v := 1) (by decide) ?_
                  refine V.goto dX10_compared_79 (tgt := 83) (by decide) ?_
                  rw [if_neg c48, if_neg c62, if_neg c75] at kJ48; exact kJ48
              · refine V.iload_n dX10_compared_65 rfl (i := 1) rfl ?_
                refine V.iload_n dX10_compared_66 rfl (i := 3) rfl ?_
                refine V.ic_ne (tgt := 82) dX10_compared_67 (by decide) (fun c67 => ?_) (fun c67 => ?_)
                · refine V.iconst dX10_compared_82 (v := 0) (by decide) ?_
                  rw [if_neg c48, if_pos c62, if_neg c67] at kJ48; exact kJ48
                · refine V.goto dX10_compared_70 (tgt := 78) (by decide) ?_
                  refine V.iconst dX10_compared_78 (v := 1) (by decide) ?_
                  refine V.goto dX10_compared_79 (tgt := 83) (by decide) ?_
                  rw [if_neg c48, if_pos c62, if_pos c67] at kJ48; exact kJ48
            · refine V.iload_n dX10_compared_51 rfl (i := 1) rfl ?_
              refine V.iload_n dX10_compared_52 rfl (i := 3) rfl ?_
              refine V.ic_ge (tgt := 82) dX10_compared_53 (by decide) (fun c53 => ?_) (fun c53 => ?_)
              · refine V.iconst dX10_compared_82 (v := 0) (by decide) ?_
                rw [if_pos c48, if_pos c53] at kJ48; exact kJ48
              · refine V.goto dX10_compared_56 (tgt := 78) (by decide) ?_
                refine V.iconst dX10_compared_78 (v := 1) (by decide) ?_
                refine V.goto dX10_compared_79 (tgt := 83) (by decide) ?_
                rw [if_pos c48, if_neg c53] at kJ48; exact kJ48
          refine V.top (x' := (joinF 62 v1 v2)) ((jn62 v1 v2)) ?_
          exact V.ret dX10_compared_83 rfl (hQ M2 _ (fun _ => ⟨w1 ++ w2 ++ [-62], (by show o2 ++ [-((nx (fun i => M0 84 (base + i)) sz) k1)] = _; rw [hc, ← List.append_assoc, ← List.append_assoc, ← hw1]; exact congrArg (· ++ [-62]) hw2), hv1.bin hv2 (by decide) (by decide), h2⟩) (fun z => by cases z))
    · rw [rd_lpN hs] at he
      subst he
      refine V.aload_n dX10_compared_0 rfl (i := 0) rfl ?_
      refine V.invv (z := mX10_sum) (As := []) dX10_compared_1 rfl mlRX10_103 okX10_sum npX10_sum rfl rfl rfl ⟨by decide, by decide⟩ (Nat.le_of_ble_eq_true rfl) rfl (Nat.le_of_ble_eq_true rfl) (hS1 (dd + 2) op k out _ _ (true, k1, o1) (by omega) ho hk (by omega) hR e (fun M1 v1 hT1 hF1 => ?_))
      show V rS g (dd + 3) mX10_compared 4 [some (.ref 83), none, none, none] [.int v1] M1 Q
      obtain ⟨w1, hw1, hv1, h1⟩ := hT1 rfl
      refine V.istore_n dX10_compared_4 rfl (i := 1) (by decide) (fun _ h => by cases h; exact Or.inl rfl) rfl ?_
      refine V.aload_n dX10_compared_5 rfl (i := 0) rfl ?_
      refine V.invv (z := mX10_here) (As := []) dX10_compared_6 rfl mlRX10_85 okX10_here npX10_here rfl rfl rfl ⟨by decide, by decide⟩ (Nat.le_of_ble_eq_true rfl) rfl (Nat.le_of_ble_eq_true rfl) (c_here hT h1 i2 ?_)
      show V rS g (dd + 3) mX10_compared 9 [some (.ref 83), some (.int v1), none, none] [.int ((nx (fun i => M0 84 (base + i)) sz) k1)] M1 Q
      refine V.istore_n dX10_compared_9 rfl (i := 2) (by decide) (fun _ h => by cases h; exact Or.inl rfl) rfl ?_
      refine V.iload_n dX10_compared_10 rfl (i := 2) rfl ?_
      refine V.bipush dX10_compared_11 (v := 60) (by decide) ?_
      refine V.ic_eq (tgt := 30) dX10_compared_13 (by decide) (fun q => absurd q ((fun z => hs (lvS_2.mpr (Or.inl z))))) (fun c13 => ?_)
      refine V.iload_n dX10_compared_16 rfl (i := 2) rfl ?_
      refine V.bipush dX10_compared_17 (v := 61) (by decide) ?_
      refine V.ic_eq (tgt := 30) dX10_compared_19 (by decide) (fun q => absurd q ((fun z => hs (lvS_2.mpr (Or.inr (Or.inl z)))))) (fun c19 => ?_)
      refine V.iload_n dX10_compared_22 rfl (i := 2) rfl ?_
      refine V.bipush dX10_compared_23 (v := 62) (by decide) ?_
      refine V.ic_eq (tgt := 30) dX10_compared_25 (by decide) (fun q => absurd q ((fun z => hs (lvS_2.mpr (Or.inr (Or.inr z)))))) (fun c25 => ?_)
      refine V.iload_n dX10_compared_28 rfl (i := 1) rfl ?_
      exact V.ret dX10_compared_29 rfl (hQ M1 _ (fun _ => ⟨w1, hw1, hv1, h1⟩) (fun z => by cases z))

