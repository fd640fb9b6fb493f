/-! ===== alike: quiet ===== -/
theorem sm_front {f : Nat → Nat} : ∀ k, sm f (k + 1) = f 0 + sm (fun i => f (i + 1)) k
  | 0 => by simp [sm]
  | k + 1 => by rw [sm, sm_front k, sm]; omega
section QT
variable {st : Nat → Nat → Bool} {cn : Nat → Nat → Nat} {h : Nat}
/-- what two bells add at an hour -/
def qw (st : Nat → Nat → Bool) (cn : Nat → Nat → Nat) (h a b : Nat) : Nat := if st a h = true ∧ st b h = true then cn a b else 0
def qup (st : Nat → Nat → Bool) (cn : Nat → Nat → Nat) (h n a : Nat) : Nat := sm (fun i => qw st cn h a (a + 1 + i)) (n - (a + 1))
theorem adP_qw (hh : h < 24) {a b : Nat} {f : Nat → Int32} (hc : cn a b < 1000) : adP st (fun a b => nI (cn a b)) a b f h = f h + nI (qw st cn h a b) := by
  unfold adP qw
  by_cases c : st a h = true ∧ st b h = true
  · rw [if_pos c]
    by_cases z : 0 < cn a b
    · rw [if_pos ⟨hh, c.1, c.2, nI_lt (a := 0) z (by omega)⟩]
    · have z0 : cn a b = 0 := by omega
      rw [if_neg (fun q => by
        have t : 0 < nI (cn a b) := q.2.2.2
        rw [z0] at t
        exact absurd t (by decide)), z0]
      exact (Int32.add_zero _).symm
  · rw [if_neg c, if_neg (fun q => c ⟨q.2.1, q.2.2.1⟩)]
    exact (Int32.add_zero _).symm
theorem hqR_v (hh : h < 24) {a : Nat} (hc : ∀ a b, cn a b < 1000) : ∀ k b f, hqR st (fun a b => nI (cn a b)) a k b f h = f h + nI (sm (fun i => qw st cn h a (b + i)) k)
  | 0, b, f => (Int32.add_zero _).symm
  | k + 1, b, f => by
    rw [hqR, hqR_v hh hc k (b + 1), adP_qw hh (hc _ _), sm_front, Int32.add_assoc, nI_add]
    exact congrArg (fun q => f h + nI (qw st cn h a b + q)) (sm_ext k (fun i _ => by show qw st cn h a (b + 1 + i) = qw st cn h a (b + (i + 1)); rw [show b + 1 + i = b + (i + 1) by omega]))
theorem hqA_v (hh : h < 24) (hc : ∀ a b, cn a b < 1000) {n : Nat} : ∀ k a f, hqA st (fun a b => nI (cn a b)) n k a f h = f h + nI (sm (fun i => qup st cn h n (a + i)) k)
  | 0, a, f => (Int32.add_zero _).symm
  | k + 1, a, f => by
    rw [hqA, hqA_v hh hc k (a + 1), hqR_v hh hc, sm_front, Int32.add_assoc, nI_add]
    exact congrArg (fun q => f h + nI (qup st cn h n a + q)) (sm_ext k (fun i _ => by show qup st cn h n (a + 1 + i) = qup st cn h n (a + (i + 1)); rw [show a + 1 + i = a + (i + 1) by omega]))
theorem qup_s {n a : Nat} (ha : a < n) : qup st cn h (n + 1) a = qup st cn h n a + qw st cn h a n := by
  unfold qup
  rw [show n + 1 - (a + 1) = (n - (a + 1)) + 1 by omega, sm]
  show _ + qw st cn h a (a + 1 + (n - (a + 1))) = _
  rw [show a + 1 + (n - (a + 1)) = n by omega]
theorem qup_sum : ∀ n, sm (qup st cn h n) n = sm (fun b => sm (fun a => qw st cn h a b) b) n
  | 0 => rfl
  | n + 1 => by
    rw [sm, sm, ← qup_sum n, sm_ext n (fun a ha => qup_s ha), sm_add, show qup st cn h (n + 1) n = 0 from by unfold qup; rw [Nat.sub_self]; rfl, Nat.add_zero]
theorem hqA_T (hh : h < 24) (hc : ∀ a b, cn a b < 1000) {n : Nat} : hqA st (fun a b => nI (cn a b)) n n 0 (fun _ => 0) h = nI (sm (fun b => sm (fun a => qw st cn h a b) b) n) := by
  rw [hqA_v hh hc, ← qup_sum]
  show (0 : Int32) + _ = _
  rw [Int32.zero_add]
  exact congrArg nI (sm_ext n (fun i _ => by show qup st cn h n (0 + i) = _; rw [Nat.zero_add]))
end QT
theorem qtF_arg {f : Nat → Int32} (h0 : f 0 < 1000000000) : ∀ k, qtF f (k + 1) = (argm f k, f (argm f k))
  | 0 => by
    rw [qtF]
    exact if_pos h0
  | k + 1 => by
    rw [qtF, qtF_arg h0 k]
    show (if f (k + 1) < f (argm f k) then (k + 1, f (k + 1)) else (argm f k, f (argm f k))) = _
    rw [argm]
    by_cases c : f (k + 1) < f (argm f k)
    · rw [if_pos c, if_pos c]
    · rw [if_neg c, if_neg c]
theorem argm_ext {f f' : Nat → Int32} : ∀ h, (∀ i, i ≤ h → f i = f' i) → argm f h = argm f' h
  | 0, _ => rfl
  | h + 1, e => by
    have := argm_le f' h
    rw [argm, argm, argm_ext h (fun i hi => e i (by omega)), e (h + 1) (Nat.le_refl _), e (argm f' h) (by omega)]
theorem kq {M M' : Mem} (h : eqx scrQ M M') : KpC M M' := KpC.of h (by decide)

set_option maxHeartbeats 4000000 in
set_option maxRecDepth 100000 in
theorem s_quiet {g : GG} {d : Nat} {a : Int32} : Same g (d + 5) (d + 67) mX9_quiet mX10_quiet [some (.ref 0), some (.int a), none] [some (.ref 83), some (.int a), none, none, none, none] := by
  rintro M1 M2 ⟨n, ne, t, wt, S0, S1, h⟩
  have h8 := h.hn.2.2
  have h10 := h.hne.2.2
  refine c9_quiet h.vb (fun hn => c10_quiet h.vr (fun _ => h.er (by decide) (by decide)) (fun hp => absurd hp hn)) (fun hp M1' k1 => c10_quiet h.vr (fun hn => absurd hp hn) (fun _ M2' k2 => ?_))
  have key : ∀ i, i ≤ 23 → hqA (fun b h => strk (M1 (30 + b) 0) (M1 (30 + b) 1) (M1 (30 + b) 6) (nI h)) (fun a b => nI (cB (cl2 (hpF M1 (fun _ => true) (M1 1 5)) (wyF M1 (M1 1 5)) (M1 1 6) (fun b => M1 (30 + b) 4) a b) ne)) n n 0 (fun _ => 0) i = caR S0 M2 n ne (nI i) := fun i hi => by
    rw [hqA_T (cn := fun a b => cB (cl2 (hpF M1 (fun _ => true) (M1 1 5)) (wyF M1 (M1 1 5)) (M1 1 6) (fun b => M1 (30 + b) 4) a b) ne) (by omega) (fun a b => by have := cB_le (cl2 (hpF M1 (fun _ => true) (M1 1 5)) (wyF M1 (M1 1 5)) (M1 1 6) (fun b => M1 (30 + b) 4) a b) ne; omega)]
    unfold caR
    rw [ca_T h8 h10]
    unfold csT
    refine congrArg nI (sm_ext n (fun b hb => sm_ext b (fun a ha => ?_)))
    have e1 : cB (cl2 (hpR S0 M2 (nI i)) (wyR M2) (M2 84 101) (offR M2) a b) ne = cB (cl2 (hpH M1 (nI i)) (wyH M1) (M1 1 6) (fun b => M1 (30 + b) 4) a b) ne := by
      rw [h.wn.2.1.1]
      exact (cB_cong (fun e he => (h.ag (nI i)).cl (by omega) hb he)).symm
    show qw _ _ i a b = cB (cl2 (hpR S0 M2 (nI i)) (wyR M2) (M2 84 101) (offR M2) a b) ne
    rw [e1]
    unfold qw
    by_cases c : strk (M1 (30 + a) 0) (M1 (30 + a) 1) (M1 (30 + a) 6) (nI i) = true ∧ strk (M1 (30 + b) 0) (M1 (30 + b) 1) (M1 (30 + b) 6) (nI i) = true
    · rw [if_pos c]
      refine cB_cong (fun e _ => ?_)
      unfold cl2 clP hpH hpF wyH
      dsimp only
      rw [c.1, c.2]
    · rw [if_neg c]
      refine (cB_zero.mpr (fun e _ => ?_)).symm
      unfold cl2 clP hpH hpF
      dsimp only
      cases ca : strk (M1 (30 + a) 0) (M1 (30 + a) 1) (M1 (30 + a) 6) (nI i)
      · rfl
      · cases cb : strk (M1 (30 + b) 0) (M1 (30 + b) 1) (M1 (30 + b) 6) (nI i)
        · rw [Bool.false_and, Bool.false_and, Bool.and_false]
        · exact absurd ⟨ca, cb⟩ c
  have h23 := argm_le (fun h => caR S0 M2 n ne (nI h)) 23
  have ea := argm_ext 23 key
  have h0 : caR S0 M2 n ne (nI 0) < 1000000000 := by
    unfold caR
    rw [ca_T h8 h10]
    have := csT_le (hp := hpR S0 M2 (nI 0)) (wy := wyR M2) (br := M2 84 101) (off := offR M2) h8 h10
    exact nI_lt (b := 1000000000) (by omega) (by decide)
  refine ⟨_, rfl, congrArg (fun q => some (Value.int q)) ?_, ((h.keepC (kq k1)).keepR k2.xx).e⟩
  rw [qtF_arg (f := fun h => caR S0 M2 n ne (nI h)) h0 23, ea, key _ h23]

