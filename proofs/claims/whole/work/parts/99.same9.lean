/-! ===== alike: move, check ===== -/
set_option maxHeartbeats 4000000 in
set_option maxRecDepth 100000 in
theorem s_move {g : GG} {d : Nat} {a i b j c : Int32} : Same g (d + 2) (d + 2) mX9_move mX10_move [some (.ref 0), some (.int a), some (.int i), some (.int b), some (.int j), some (.int c)] [some (.ref 83), some (.int a), some (.int i), some (.int b), some (.int j), some (.int c), none] := by
  rintro M1 M2 ⟨n, ne, t, wt, S0, S1, h⟩
  have sh := h.2.2.2.1
  have hsz1 : ∀ s, s < 4 → ∃ z, z ≤ 40 ∧ M1 63 s = nI z := fun s hs => by rw [(sh s hs).2.1]; exact (sh s hs).2.2.1
  have hsz2 : ∀ s, s < 4 → ∃ z, z ≤ 40 ∧ M2 99 s = nI z := fun s hs => (sh s hs).2.2.1
  have inj : ∀ {u : Int32} {s s' : Nat}, s < 4 → s' < 4 → u = nI s → u = nI s' → s' = s := fun h1 h2 e1 e2 => nI_inj2 (e2.symm.trans e1) (by omega) (by omega)
  have rgN : ∀ s t, s < 4 → t < 4 → a = nI s → b = nI t → ((0 ≤ a ∧ a ≤ 3) ∧ 0 ≤ b ∧ b ≤ 3) := fun s t h1 h2 e1 e2 => by subst e1; subst e2; exact ⟨⟨nI_pos' (by omega), nI_le (b := 3) (by omega) (by omega)⟩, nI_pos' (by omega), nI_le (b := 3) (by omega) (by omega)⟩
  have q62 : ∀ s, s < 4 → M2 98 s = M1 62 s := fun s hs => (sh s hs).1.symm
  have q63 : ∀ s, s < 4 → M2 99 s = M1 63 s := fun s hs => (sh s hs).2.1.symm
  refine c9_move hsz1 (fun hn => c10_move hsz2 (fun _ => h.er (by decide) (by decide)) (fun s t hs ht e1 e2 _ => absurd (rgN s t hs ht e1 e2) hn) (fun s t hs ht e1 e2 _ _ => absurd (rgN s t hs ht e1 e2) hn) (fun s t hs ht e1 e2 _ _ _ => absurd (rgN s t hs ht e1 e2) hn) (fun s t x y K hs ht e1 e2 _ _ _ _ _ _ _ _ => absurd (rgN s t hs ht e1 e2) hn)) (fun s t hs ht e1 e2 hm => c10_move hsz2 (fun hn => absurd (rgN s t hs ht e1 e2) hn) (fun _ _ _ _ _ _ _ => h.er (by decide) (by decide)) (fun s' t' hs' ht' e1' e2' hm' => ?_) (fun s' t' hs' ht' e1' e2' hm' => ?_) (fun s' t' x y K hs' ht' e1' e2' _ _ _ _ _ hm' => ?_)) (fun s t hs ht e1 e2 hm hk => c10_move hsz2 (fun hn => absurd (rgN s t hs ht e1 e2) hn) (fun s' t' hs' ht' e1' e2' hm' => ?_) (fun _ _ _ _ _ _ _ _ => h.er (by decide) (by decide)) (fun s' t' hs' ht' e1' e2' hm' hk' => ?_) (fun s' t' x y K hs' ht' e1' e2' _ _ _ _ _ hm' hk' => ?_)) (fun s t hs ht e1 e2 hm hk hst => c10_move hsz2 (fun hn => absurd (rgN s t hs ht e1 e2) hn) (fun s' t' hs' ht' e1' e2' hm' => ?_) (fun s' t' hs' ht' e1' e2' hm' hk' => ?_) (fun _ _ _ _ _ _ _ _ _ => h.er (by decide) (by decide)) (fun s' t' x y K hs' ht' e1' e2' _ _ _ _ _ hm' hk' hst' => ?_)) (fun s t x y k hs ht e1 e2 ei ej ec hx hy hm hk hst => c10_move hsz2 (fun hn => absurd (rgN s t hs ht e1 e2) hn) (fun s' t' hs' ht' e1' e2' hm' => ?_) (fun s' t' hs' ht' e1' e2' hm' hk' => ?_) (fun s' t' hs' ht' e1' e2' hm' hk' hst' => ?_) (fun s' t' x' y' K hs' ht' e1' e2' ei' ej' ec' hx' hy' hm' hk' hst' => ?_))
  all_goals (obtain rfl := inj hs hs' e1 e1'; obtain rfl := inj ht ht' e2 e2'; rw [q62 s' hs', q62 t' ht'] at hm'; try rw [q62 s' hs', q62 t' ht'] at hk'; try rw [q63 s' hs', q63 t' ht'] at hst')
  · exact absurd hm hm'
  · exact absurd hm hm'
  · exact absurd hm hm'
  · exact absurd hm' hm
  · exact absurd hk' hk
  · exact absurd hk' hk
  · exact absurd hm' hm
  · exact absurd hk hk'
  · exact absurd hst' hst
  · exact absurd hm' hm
  · exact absurd hk hk'
  · exact absurd hst hst'
  · obtain rfl : x' = x := nI_inj2 (ei'.symm.trans ei) (by omega) (by omega)
    obtain rfl : y' = y := nI_inj2 (ej'.symm.trans ej) (by omega) (by omega)
    obtain rfl : K = k := nI_inj2 (ec'.symm.trans ec) (by omega) (by omega)
    refine ⟨_, rfl, rfl, (h.sh (fun x hx => um_n (by omega)) (fun x h1 h2 h3 h4 => by unfold mvM lfM; rw [um_n h3, um_n h4]) (fun s hs => ?_)).e⟩
    have ec1 : ∀ c, c ≠ 100 → c ≠ 101 → mvM M2 (40 * s' + x') (40 * t' + y') K K c = M2 c := fun c h3 h4 => by unfold mvM lfM; rw [um_n h3, um_n h4]
    rw [um_n (b := 62) (by omega), um_n (b := 63) (by omega), ec1 98 (by decide) (by decide), ec1 99 (by decide) (by decide)]
    refine ⟨(sh s hs).1, (sh s hs).2.1, (sh s hs).2.2.1, (sh s hs).2.2.2.1, fun q hq => ?_⟩
    have e100 : mvM M2 (40 * s' + x') (40 * t' + y') K K 100 (40 * s + q) = if 40 * t' + y' ≤ 40 * s + q ∧ 40 * s + q < 40 * t' + y' + K then M2 100 (40 * s' + x' + (40 * s + q - (40 * t' + y'))) else M2 100 (40 * s + q) := by unfold mvM; rw [um_s]
    rw [e100]
    by_cases st : s = t'
    · subst st
      rw [um_s]
      by_cases c : y' ≤ q ∧ q < y' + K
      · rw [if_pos (by omega), pk_cpy_in c.1 c.2, show 40 * s' + x' + (40 * s + q - (40 * s + y')) = 40 * s' + (x' + (q - y')) by omega]
        exact (sh s' hs').2.2.2.2 _ (by omega)
      · rw [if_neg (by omega), pk_cpy_out (by omega)]
        exact (sh s hs).2.2.2.2 q hq
    · rw [um_n (by omega), if_neg (by omega)]
      exact (sh s hs).2.2.2.2 q hq

