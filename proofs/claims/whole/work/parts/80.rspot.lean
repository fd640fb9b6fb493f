/-! ===== the reference: chances, another bell ===== -/
theorem V.topL {sd : Nat × Nat} {g : GG} {d : Nat} {y : XM} {pc : Nat} {ls : List (Option Value)} {st : List Value} {M : Mem} {Q : Option Value → Mem → Prop} {x x' : Int64} (h : x = x') (k : V sd g d y pc ls (.long x' :: st) M Q) : V sd g d y pc ls (.long x :: st) M Q := h ▸ k

set_option maxHeartbeats 4000000 in
set_option maxRecDepth 100000 in
theorem l_cm {g : GG} {d : Nat} {M : Mem} {Q : Option Value → Mem → Prop} {x0 y0 : Int64} : ∀ (b a : Nat) (l8 l9 : Option Value), a < 1000 → b < 1000 → Q (some (.long (lN (Nat.gcd a b)))) M → V rS g d mX10_common 6 [some (.long x0), none, some (.long y0), none, some (.long (lN a)), none, some (.long (lN b)), none, l8, l9] [] M Q := by
  intro b
  induction b using Nat.strongRecOn with
  | ind b ih =>
    intro a l8 l9 ha hb hQ
    refine V.fg (ls' := [some (.long x0), none, some (.long y0), none, some (.long (lN a)), none, some (.long (lN b)), none, none, none]) ⟨rfl, rfl, rfl, rfl, trivial⟩ ?_
    by_cases hz : b = 0
    · subst hz
      refine V.lload dX10_common_6 rfl ?_
      refine V.lconst dX10_common_8 (v := 0) (by decide) ?_
      refine V.lcmp dX10_common_9 ?_
      refine V.if_eq (tgt := 31) dX10_common_10 (by decide) (fun c10 => ?_) (fun q => absurd ((by rw [lg_cmp_eq]; rfl)) q)
      refine V.lload dX10_common_31 rfl ?_
      exact V.lret dX10_common_33 rfl (by rw [Nat.gcd_zero_right] at hQ; exact hQ)
    · have hne : ¬ lN b = 0 := fun z => hz ((pk_lEQ (b := 0) (by omega) (by omega)).mp z)
      refine V.lload dX10_common_6 rfl ?_
      refine V.lconst dX10_common_8 (v := 0) (by decide) ?_
      refine V.lcmp dX10_common_9 ?_
      refine V.if_eq (tgt := 31) dX10_common_10 (by decide) (fun q => absurd q ((fun z => hne ((lg_cmp_eq _ _).mp z)))) (fun c10 => ?_)
      refine V.lload dX10_common_13 rfl ?_
      refine V.lload dX10_common_15 rfl ?_
      refine V.lrem dX10_common_17 (hne) ?_
      refine V.topL (x' := (lN (a % b))) ((pk_lRem (by omega) (by omega) (by omega))) ?_
      refine V.lstore dX10_common_18 (i := 8) (by decide) (fun _ h => by cases h) rfl ?_
      refine V.lload dX10_common_20 rfl ?_
      refine V.lstore dX10_common_22 (i := 4) (by decide) (fun _ h => by cases h) rfl ?_
      refine V.lload dX10_common_24 rfl ?_
      refine V.lstore dX10_common_26 (i := 6) (by decide) (fun _ h => by cases h) rfl ?_
      refine V.goto dX10_common_28 (tgt := 6) (by decide) ?_
      exact ih (a % b) (Nat.mod_lt a (by omega)) b _ _ hb (by have := Nat.mod_lt a (show b > 0 by omega); omega) (by rw [Nat.gcd_comm b (a % b), ← Nat.gcd_rec, Nat.gcd_comm]; exact hQ)
set_option maxHeartbeats 4000000 in
set_option maxRecDepth 100000 in
theorem c_common {g : GG} {d : Nat} {M : Mem} {Q : Option Value → Mem → Prop} {a b : Nat} (ha : a < 1000) (hb : b < 1000) (hQ : Q (some (.long (lN (Nat.gcd a b)))) M) : V rS g d mX10_common 0 [some (.long (Int32.toInt64 (nI a))), none, some (.long (Int32.toInt64 (nI b))), none, none, none, none, none, none, none] [] M Q := by
  refine V.lload_n dX10_common_0 rfl (i := 0) rfl ?_
  refine V.topL (x' := (lN a)) ((nI_l (by omega))) ?_
  refine V.lstore dX10_common_1 (i := 4) (by decide) (fun _ h => by cases h) rfl ?_
  refine V.lload_n dX10_common_3 rfl (i := 2) rfl ?_
  refine V.topL (x' := (lN b)) ((nI_l (by omega))) ?_
  refine V.lstore dX10_common_4 (i := 6) (by decide) (fun _ h => by cases h) rfl ?_
  exact l_cm b a _ _ ha hb hQ
/-- the reference's memory with a bell at another spot -/
def spM (M : Mem) (b : Nat) (s : Int32) : Mem := put M 84 (108 + 7 * b + 2) s
theorem sp_n {M : Mem} {b i : Nat} {s : Int32} (h : i ≠ 108 + 7 * b + 2) : spM M b s 84 i = M 84 i := put_n (fun q => h q.2)
def hpC (S : List Int32) (M : Mem) (h : Int32) (b : Nat) (s : Int32) (x e : Nat) : Bool := if x = b then hpR S (spM M b s) h b e else hpR S M h x e
def wyC (M : Mem) (b : Nat) (s : Int32) (x e : Nat) : Int32 := if x = b then wyR (spM M b s) b e else wyR M x e
def chP (S : List Int32) (M : Mem) (h : Int32) (n ne b : Nat) (s : Nat) : Bool := decide (0 < ccF (hpC S M h b (nI s)) (wyC M b (nI s)) (M 84 101) (offR M) n ne b)
/-- the spots that a bell may be at -/
def nrS (sp m : Int32) (s : Nat) : Bool := decide (absI (nI s - sp) ≤ m)
theorem VR.sp {S : List Int32} {M : Mem} {n ne b s : Nat} (h : VR S M n ne) (hb : b < n) (hs : s < 100) : VR S (spM M b (nI s)) n ne := by
  obtain ⟨h1, h2, h3, h4, h5, h6, h7, h8⟩ := h
  refine ⟨by rw [sp_n (by omega)]; exact h1, h2, by rw [sp_n (by omega)]; exact h3, h4, by rw [sp_n (by omega)]; exact h5, ?_, fun x hx => ?_, fun e he => ?_⟩
  · unfold LwR
    rw [sp_n (by omega)]
    rw [show (fun i => spM M b (nI s) 84 (203 + 50 * 0 + i)) = (fun i => M 84 (203 + 50 * 0 + i)) from funext fun i => sp_n (by omega)]
    exact h6
  · by_cases hq : x = b
    · subst hq
      unfold BB
      rw [sp_n (i := 108 + 7 * x + 6) (by omega)]
      refine ⟨?_, (h7 x hx).2⟩
      unfold spM
      rw [put_s]
      exact ⟨nI_pos' (by omega), nI_le (b := 99) (by omega) (by omega)⟩
    · unfold BB
      rw [sp_n (by omega), sp_n (by omega)]
      exact h7 x hx
  · rw [sp_n (by omega)]
    exact h8 e he
/-- but for a bell's spot, the same -/
def KpP (b : Nat) (M M' : Mem) : Prop := (∀ c, c = 86 ∨ c = 87 ∨ c = 97 ∨ c = 98 ∨ c = 99 ∨ c = 100 → M' c = M c) ∧ (∀ i, i ≠ 108 + 7 * b + 2 → M' 84 i = M 84 i) ∧ M' 83 3 = M 83 3 ∧ M' 83 22 = M 83 22
theorem KpP.rf {b : Nat} {M : Mem} : KpP b M M := ⟨fun _ _ => rfl, fun _ _ => rfl, rfl, rfl⟩
theorem KpP.p {b : Nat} {M M1 : Mem} {x : Int32} (h : KpP b M M1) : KpP b M (put M1 84 (108 + 7 * b + 2) x) := ⟨fun c hc => by rw [put_cell (by omega)]; exact h.1 c hc, fun i hi => by rw [put_n (fun q => hi q.2)]; exact h.2.1 i hi, by rw [put_cell (by decide)]; exact h.2.2.1, by rw [put_cell (by decide)]; exact h.2.2.2⟩
theorem KpP.x {b : Nat} {M M1 M2 : Mem} (h : KpP b M M1) (h2 : KpX M1 M2) : KpP b M M2 := ⟨fun c hc => (h2.1 c (by omega)).trans (h.1 c hc), fun i hi => by rw [h2.d]; exact h.2.1 i hi, h2.2.1.trans h.2.2.1, h2.2.2.trans h.2.2.2⟩
theorem KpP.at {b : Nat} {M M1 : Mem} {x : Int32} (h : KpP b M M1) : put M1 84 (108 + 7 * b + 2) x 84 = spM M b x 84 := by
  funext i
  unfold spM
  by_cases hi : i = 108 + 7 * b + 2
  · subst hi; rw [put_s, put_s]
  · rw [put_n (fun q => hi q.2), put_n (fun q => hi q.2)]; exact h.2.1 i hi
theorem KpP.back {b : Nat} {M M1 : Mem} (h : KpP b M M1) : KpX M (put M1 84 (108 + 7 * b + 2) (M 84 (108 + 7 * b + 2))) := by
  refine ⟨fun c hc => ?_, by rw [put_cell (by decide)]; exact h.2.2.1, by rw [put_cell (by decide)]; exact h.2.2.2⟩
  by_cases h84 : c = 84
  · subst h84
    funext i
    by_cases hi : i = 108 + 7 * b + 2
    · subst hi; rw [put_s]
    · rw [put_n (fun q => hi q.2)]; exact h.2.1 i hi
  · rw [put_cell h84]; exact h.1 c (by omega)
theorem cB_s {p : Nat → Bool} {n : Nat} : cB p (n + 1) = cB p n + (if p n = true then 1 else 0) := rfl

set_option maxHeartbeats 4000000 in
set_option maxRecDepth 100000 in
theorem l_ch {g : GG} {d : Nat} {Q : Option Value → Mem → Prop} {M0 : Mem} {h v : Int32} {S : List Int32} {n ne b : Nat} (hV : VR S M0 n ne) (hb : b < n) (hc : ∀ M', KpP b M0 M' → V rS g (d + 67) mX10_chance 138 [some (.ref 83), some (.int (nI b)), some (.int h), some (.int v), some (.int (M0 84 (108 + 7 * b + 2))), some (.int (nI (cB (fun s => nrS (M0 84 (108 + 7 * b + 2)) (M0 84 (108 + 7 * b + 1)) s && chP S M0 h n ne b s) 100))), some (.int (nI (cB (nrS (M0 84 (108 + 7 * b + 2)) (M0 84 (108 + 7 * b + 1))) 100))), some (.int (nI 100))] [] M' Q) : ∀ (k s : Nat) (M : Mem), s + k = 100 → KpP b M0 M → (∀ x, x < n → x ≠ b → HdX M (hpR S M0 h) (wyR M0) ne x) → V rS g (d + 67) mX10_chance 72 [some (.ref 83), some (.int (nI b)), some (.int h), some (.int v), some (.int (M0 84 (108 + 7 * b + 2))), some (.int (nI (cB (fun s => nrS (M0 84 (108 + 7 * b + 2)) (M0 84 (108 + 7 * b + 1)) s && chP S M0 h n ne b s) s))), some (.int (nI (cB (nrS (M0 84 (108 + 7 * b + 2)) (M0 84 (108 + 7 * b + 1))) s))), some (.int (nI s))] [] M Q := by
  have h8 := hV.2.1
  have h10 := hV.2.2.2.1
  intro k
  induction k with
  | zero =>
    intro s M hk hM hX
    obtain rfl : s = 100 := by omega
    refine V.iload dX10_chance_72 rfl ?_
    refine V.bipush dX10_chance_74 (v := 100) (by decide) ?_
    refine V.ic_ge (tgt := 138) dX10_chance_76 (by decide) (fun c76 => ?_) (fun q => absurd ((by decide)) q)
    exact hc M hM
  | succ k ih =>
    intro s M hk hM hX
    have hm : M 84 (108 + 7 * b + 1) = (M0 84 (108 + 7 * b + 1)) := hM.2.1 _ (by omega)
    by_cases hq : absI (nI s - (M0 84 (108 + 7 * b + 2))) ≤ (M0 84 (108 + 7 * b + 1))
    · have hat := hM.at (x := nI s)
      have hVs := hV.sp (s := s) hb (by omega)
      have hbe : cB (nrS (M0 84 (108 + 7 * b + 2)) (M0 84 (108 + 7 * b + 1))) (s + 1) = cB (nrS (M0 84 (108 + 7 * b + 2)) (M0 84 (108 + 7 * b + 1))) s + 1 := by rw [cB_s, if_pos (show nrS (M0 84 (108 + 7 * b + 2)) (M0 84 (108 + 7 * b + 1)) s = true from decide_eq_true hq)]
      refine V.iload dX10_chance_72 rfl ?_
      refine V.bipush dX10_chance_74 (v := 100) (by decide) ?_
      refine V.ic_ge (tgt := 138) dX10_chance_76 (by decide) (fun q => absurd q ((nI_ge (a := s) (b := 100) (by omega) (by omega)))) (fun c76 => ?_)
      refine V.iload dX10_chance_79 rfl ?_
      refine V.iload dX10_chance_81 rfl ?_
      refine V.isub dX10_chance_83 ?_
      refine V.invs (z := mX10_size) (As := [_]) dX10_chance_84 rfl mlRX10_200 okX10_size npX10_size rfl (Nat.le_of_ble_eq_true rfl) rfl (Nat.le_of_ble_eq_true rfl) (c_sizeR   ?_)
      show V rS g (d + 67) mX10_chance 87 [some (.ref 83), some (.int (nI b)), some (.int h), some (.int v), some (.int (M0 84 (108 + 7 * b + 2))), some (.int (nI (cB (fun s => nrS (M0 84 (108 + 7 * b + 2)) (M0 84 (108 + 7 * b + 1)) s && chP S M0 h n ne b s) s))), some (.int (nI (cB (nrS (M0 84 (108 + 7 * b + 2)) (M0 84 (108 + 7 * b + 1))) s))), some (.int (nI s))] [.int (absI ((nI s) - (M0 84 (108 + 7 * b + 2))))] (M) Q
      refine V.aload_n dX10_chance_87 rfl (i := 0) rfl ?_
      refine V.iload_n dX10_chance_88 rfl (i := 1) rfl ?_
      refine V.iconst dX10_chance_89 (v := 1) (by decide) ?_
      refine V.invv (z := mX10_of) (As := [_, _]) dX10_chance_90 rfl mlRX10_175 okX10_of npX10_of rfl rfl rfl ⟨by decide, by decide⟩ (Nat.le_of_ble_eq_true rfl) rfl (Nat.le_of_ble_eq_true rfl) (c_of  (by omega) (by decide) ?_)
      show V rS g (d + 67) mX10_chance 93 [some (.ref 83), some (.int (nI b)), some (.int h), some (.int v), some (.int (M0 84 (108 + 7 * b + 2))), some (.int (nI (cB (fun s => nrS (M0 84 (108 + 7 * b + 2)) (M0 84 (108 + 7 * b + 1)) s && chP S M0 h n ne b s) s))), some (.int (nI (cB (nrS (M0 84 (108 + 7 * b + 2)) (M0 84 (108 + 7 * b + 1))) s))), some (.int (nI s))] [.int ((M) 84 (108 + 7 * b + 1)), .int (absI ((nI s) - (M0 84 (108 + 7 * b + 2))))] ((M)) Q
      refine V.top (x' := (M0 84 (108 + 7 * b + 1))) (hm) ?_
      refine V.ic_gt (tgt := 132) dX10_chance_93 (by decide) (fun q => absurd q ((Int32.not_lt.mpr hq))) (fun c93 => ?_)
      refine V.aload_n dX10_chance_96 rfl (i := 0) rfl ?_
      refine V.iload_n dX10_chance_97 rfl (i := 1) rfl ?_
      refine V.iconst dX10_chance_98 (v := 2) (by decide) ?_
      refine V.iload dX10_chance_99 rfl ?_
      refine V.invv (z := mX10_becomes) (As := [_, _, _]) dX10_chance_101 rfl mlRX10_162 okX10_becomes npX10_becomes rfl rfl rfl ⟨by decide, by decide⟩ (Nat.le_of_ble_eq_true rfl) rfl (Nat.le_of_ble_eq_true rfl) (c_bec  (by omega) (by decide) ?_)
      show V rS g (d + 67) mX10_chance 104 [some (.ref 83), some (.int (nI b)), some (.int h), some (.int v), some (.int (M0 84 (108 + 7 * b + 2))), some (.int (nI (cB (fun s => nrS (M0 84 (108 + 7 * b + 2)) (M0 84 (108 + 7 * b + 1)) s && chP S M0 h n ne b s) s))), some (.int (nI (cB (nrS (M0 84 (108 + 7 * b + 2)) (M0 84 (108 + 7 * b + 1))) s))), some (.int (nI s))] [] (put ((M)) 84 (108 + 7 * b + 2) (nI s)) Q
      refine V.aload_n dX10_chance_104 rfl (i := 0) rfl ?_
      refine V.iload_n dX10_chance_105 rfl (i := 1) rfl ?_
      refine V.iload_n dX10_chance_106 rfl (i := 2) rfl ?_
      refine V.invv (z := mX10_hears) (As := [_, _]) dX10_chance_107 rfl mlRX10_227 okX10_hears npX10_hears rfl rfl rfl ⟨by decide, by decide⟩ (Nat.le_of_ble_eq_true rfl) rfl (Nat.le_of_ble_eq_true rfl) (c_hears (S := S) (n := n) (ne := ne) (h := h) (hVs.eq hat) (by omega) ((hVs.eq hat).2.2.2.2.2.2.1 b hb) (fun M1 hM1 g1 g2 => ?_))
      show V rS g (d + 67) mX10_chance 110 [some (.ref 83), some (.int (nI b)), some (.int h), some (.int v), some (.int (M0 84 (108 + 7 * b + 2))), some (.int (nI (cB (fun s => nrS (M0 84 (108 + 7 * b + 2)) (M0 84 (108 + 7 * b + 1)) s && chP S M0 h n ne b s) s))), some (.int (nI (cB (nrS (M0 84 (108 + 7 * b + 2)) (M0 84 (108 + 7 * b + 1))) s))), some (.int (nI s))] [] M1 Q
      skip
      rw [hpR_eq hat, wyR_eq hat] at g1
      have hX1 : ∀ x, x < n → x ≠ b → HdX M1 (hpR S M0 h) (wyR M0) ne x := fun x hx hxb e he => by
        rw [(g2 (10 * x + e) (by omega)).1, (g2 (10 * x + e) (by omega)).2, put_cell (by decide), put_cell (by decide)]
        exact hX x hx hxb e he
      have hH1 : HdR M1 (hpC S M0 h b (nI s)) (wyC M0 b (nI s)) n ne := fun x e hx he => by
        unfold hpC wyC
        by_cases hxb : x = b
        · subst hxb
          rw [if_pos rfl, if_pos rfl]
          exact g1 e he
        · rw [if_neg hxb, if_neg hxb]
          exact hX1 x hx hxb e he
      have hM1' : KpP b M0 M1 := hM.p.x hM1.x
      have e101 : M1 84 101 = M0 84 101 := hM1'.2.1 _ (by omega)
      have eoff : offR M1 = offR M0 := funext fun x => hM1'.2.1 _ (by omega)
      have e3 : ccS (hpC S M0 h b (nI s)) (wyC M0 b (nI s)) (M1 84 101) (offR M1) n ne b 0 = ccF (hpC S M0 h b (nI s)) (wyC M0 b (nI s)) (M0 84 101) (offR M0) n ne b := by rw [e101, eoff, ccS_0]
      have e4 : nI (cB (fun s => nrS (M0 84 (108 + 7 * b + 2)) (M0 84 (108 + 7 * b + 1)) s && chP S M0 h n ne b s) s) + (if ccF (hpC S M0 h b (nI s)) (wyC M0 b (nI s)) (M0 84 101) (offR M0) n ne b ≤ (0 : Int32) then (0 : Int32) else (1 : Int32)) = nI (cB (fun s => nrS (M0 84 (108 + 7 * b + 2)) (M0 84 (108 + 7 * b + 1)) s && chP S M0 h n ne b s) (s + 1)) := by
        rw [hit_add, cB_s, show nrS (M0 84 (108 + 7 * b + 2)) (M0 84 (108 + 7 * b + 1)) s = true from decide_eq_true hq, Bool.true_and]
        rfl
      refine V.iload dX10_chance_110 rfl ?_
      refine V.aload_n dX10_chance_112 rfl (i := 0) rfl ?_
      refine V.iload_n dX10_chance_113 rfl (i := 1) rfl ?_
      refine V.iconst dX10_chance_114 (v := 0) (by decide) ?_
      refine V.invv (z := mX10_clashesOfOne) (As := [_, _]) dX10_chance_115 rfl mlRX10_242 okX10_clashesOfOne npX10_clashesOfOne rfl rfl rfl ⟨by decide, by decide⟩ (Nat.le_of_ble_eq_true rfl) rfl (Nat.le_of_ble_eq_true rfl) (c_c1 hH1 (by rw [hM1'.2.1 _ (by omega)]; exact hV.1) h8 (by rw [hM1'.2.1 _ (by omega)]; exact hV.2.2.1) h10 (hH1.x hb) (by omega) ?_)
      show V rS g (d + 67) mX10_chance 118 [some (.ref 83), some (.int (nI b)), some (.int h), some (.int v), some (.int (M0 84 (108 + 7 * b + 2))), some (.int (nI (cB (fun s => nrS (M0 84 (108 + 7 * b + 2)) (M0 84 (108 + 7 * b + 1)) s && chP S M0 h n ne b s) s))), some (.int (nI (cB (nrS (M0 84 (108 + 7 * b + 2)) (M0 84 (108 + 7 * b + 1))) s))), some (.int (nI s))] [.int (ccS (hpC S M0 h b (nI s)) (wyC M0 b (nI s)) (M1 84 101) (offR M1) n ne b 0), .int (nI (cB (fun s => nrS (M0 84 (108 + 7 * b + 2)) (M0 84 (108 + 7 * b + 1)) s && chP S M0 h n ne b s) s))] M1 Q
      refine V.top (x' := (ccF (hpC S M0 h b (nI s)) (wyC M0 b (nI s)) (M0 84 101) (offR M0) n ne b)) (e3) ?_
      suffices kJ118 : V rS g (d + 67) mX10_chance 126 [some (.ref 83), some (.int (nI b)), some (.int h), some (.int v), some (.int (M0 84 (108 + 7 * b + 2))), some (.int (nI (cB (fun s => nrS (M0 84 (108 + 7 * b + 2)) (M0 84 (108 + 7 * b + 1)) s && chP S M0 h n ne b s) s))), some (.int (nI (cB (nrS (M0 84 (108 + 7 * b + 2)) (M0 84 (108 + 7 * b + 1))) s))), some (.int (nI s))] [.int (if (ccF (hpC S M0 h b (nI s)) (wyC M0 b (nI s)) (M0 84 101) (offR M0) n ne b) ≤ (0 : Int32) then (0 : Int32) else (1 : Int32)), .int (nI (cB (fun s => nrS (M0 84 (108 + 7 * b + 2)) (M0 84 (108 + 7 * b + 1)) s && chP S M0 h n ne b s) s))] M1 Q by
        refine V.if_le (tgt := 125) dX10_chance_118 (by decide) (fun c118 => ?_) (fun c118 => ?_)
        · refine V.iconst dX10_chance_125 (v := 0) (by decide) ?_
          rw [if_pos c118] at kJ118; exact kJ118
        · refine V.iconst dX10_chance_121 (v := 1) (by decide) ?_
          refine V.goto dX10_chance_122 (tgt := 126) (by decide) ?_
          rw [if_neg c118] at kJ118; exact kJ118
      refine V.iadd dX10_chance_126 ?_
      refine V.top (x' := (nI (cB (fun s => nrS (M0 84 (108 + 7 * b + 2)) (M0 84 (108 + 7 * b + 1)) s && chP S M0 h n ne b s) (s + 1)))) (e4) ?_
      refine V.istore dX10_chance_127 (i := 5) (by decide) (fun _ h => by cases h; exact Or.inl rfl) rfl ?_
      refine V.iinc dX10_chance_129 rfl (v := (nI (cB (nrS (M0 84 (108 + 7 * b + 2)) (M0 84 (108 + 7 * b + 1))) (s + 1)))) (by rw [hbe]; exact nI_1 _) (by decide) (fun _ h => by cases h; exact Or.inl rfl) rfl ?_
      refine V.iinc dX10_chance_132 rfl (v := (nI (s + 1))) (nI_1 _) (by decide) (fun _ h => by cases h; exact Or.inl rfl) rfl ?_
      refine V.goto dX10_chance_135 (tgt := 72) (by decide) ?_
      exact ih (s + 1) M1 (by omega) hM1' hX1
    · have hbe : cB (nrS (M0 84 (108 + 7 * b + 2)) (M0 84 (108 + 7 * b + 1))) (s + 1) = cB (nrS (M0 84 (108 + 7 * b + 2)) (M0 84 (108 + 7 * b + 1))) s := by rw [cB_s, if_neg (show ¬ nrS (M0 84 (108 + 7 * b + 2)) (M0 84 (108 + 7 * b + 1)) s = true from fun z => hq (of_decide_eq_true z))]; rfl
      have hab : cB (fun s => nrS (M0 84 (108 + 7 * b + 2)) (M0 84 (108 + 7 * b + 1)) s && chP S M0 h n ne b s) (s + 1) = cB (fun s => nrS (M0 84 (108 + 7 * b + 2)) (M0 84 (108 + 7 * b + 1)) s && chP S M0 h n ne b s) s := by rw [cB_s, if_neg (show ¬ (nrS (M0 84 (108 + 7 * b + 2)) (M0 84 (108 + 7 * b + 1)) s && chP S M0 h n ne b s) = true from fun z => hq (of_decide_eq_true (Bool.and_eq_true _ _ ▸ z).1))]; rfl
      refine V.iload dX10_chance_72 rfl ?_
      refine V.bipush dX10_chance_74 (v := 100) (by decide) ?_
      refine V.ic_ge (tgt := 138) dX10_chance_76 (by decide) (fun q => absurd q ((nI_ge (a := s) (b := 100) (by omega) (by omega)))) (fun c76 => ?_)
      refine V.iload dX10_chance_79 rfl ?_
      refine V.iload dX10_chance_81 rfl ?_
      refine V.isub dX10_chance_83 ?_
      refine V.invs (z := mX10_size) (As := [_]) dX10_chance_84 rfl mlRX10_200 okX10_size npX10_size rfl (Nat.le_of_ble_eq_true rfl) rfl (Nat.le_of_ble_eq_true rfl) (c_sizeR   ?_)
      show V rS g (d + 67) mX10_chance 87 [some (.ref 83), some (.int (nI b)), some (.int h), some (.int v), some (.int (M0 84 (108 + 7 * b + 2))), some (.int (nI (cB (fun s => nrS (M0 84 (108 + 7 * b + 2)) (M0 84 (108 + 7 * b + 1)) s && chP S M0 h n ne b s) s))), some (.int (nI (cB (nrS (M0 84 (108 + 7 * b + 2)) (M0 84 (108 + 7 * b + 1))) s))), some (.int (nI s))] [.int (absI ((nI s) - (M0 84 (108 + 7 * b + 2))))] (M) Q
      refine V.aload_n dX10_chance_87 rfl (i := 0) rfl ?_
      refine V.iload_n dX10_chance_88 rfl (i := 1) rfl ?_
      refine V.iconst dX10_chance_89 (v := 1) (by decide) ?_
      refine V.invv (z := mX10_of) (As := [_, _]) dX10_chance_90 rfl mlRX10_175 okX10_of npX10_of rfl rfl rfl ⟨by decide, by decide⟩ (Nat.le_of_ble_eq_true rfl) rfl (Nat.le_of_ble_eq_true rfl) (c_of  (by omega) (by decide) ?_)
      show V rS g (d + 67) mX10_chance 93 [some (.ref 83), some (.int (nI b)), some (.int h), some (.int v), some (.int (M0 84 (108 + 7 * b + 2))), some (.int (nI (cB (fun s => nrS (M0 84 (108 + 7 * b + 2)) (M0 84 (108 + 7 * b + 1)) s && chP S M0 h n ne b s) s))), some (.int (nI (cB (nrS (M0 84 (108 + 7 * b + 2)) (M0 84 (108 + 7 * b + 1))) s))), some (.int (nI s))] [.int ((M) 84 (108 + 7 * b + 1)), .int (absI ((nI s) - (M0 84 (108 + 7 * b + 2))))] ((M)) Q
      refine V.top (x' := (M0 84 (108 + 7 * b + 1))) (hm) ?_
      refine V.ic_gt (tgt := 132) dX10_chance_93 (by decide) (fun c93 => ?_) (fun q => absurd ((Int32.not_le.mp hq)) q)
      refine V.iinc dX10_chance_132 rfl (v := (nI (s + 1))) (nI_1 _) (by decide) (fun _ h => by cases h; exact Or.inl rfl) rfl ?_
      refine V.goto dX10_chance_135 (tgt := 72) (by decide) ?_
      exact V.lseq (ls' := [some (.ref 83), some (.int (nI b)), some (.int h), some (.int v), some (.int (M0 84 (108 + 7 * b + 2))), some (.int (nI (cB (fun s => nrS (M0 84 (108 + 7 * b + 2)) (M0 84 (108 + 7 * b + 1)) s && chP S M0 h n ne b s) (s + 1)))), some (.int (nI (cB (nrS (M0 84 (108 + 7 * b + 2)) (M0 84 (108 + 7 * b + 1))) (s + 1)))), some (.int (nI (s + 1)))]) (by rw [hbe, hab]; rfl) (ih (s + 1) M (by omega) hM hX)
set_option maxHeartbeats 4000000 in
set_option maxRecDepth 100000 in
theorem c10_chance {g : GG} {d : Nat} {M : Mem} {Q : Option Value → Mem → Prop} {a w v : Int32} {S : List Int32} {n ne : Nat} (hV : VR S M n ne) (hm : ∀ b, b < n → 0 ≤ M 84 (108 + 7 * b + 1)) (hbad : ¬ ((0 ≤ a ∧ a < nI n) ∧ (0 ≤ w ∧ w ≤ 23) ∧ 0 ≤ v ∧ v ≤ 1) → Q (some (.int (-1000000001))) (put M 87 1 (M 87 1 + 1))) (hkind : ((0 ≤ a ∧ a < nI n) ∧ (0 ≤ w ∧ w ≤ 23) ∧ 0 ≤ v ∧ v ≤ 1) → ∀ b, b < n → a = nI b → isOfB (M 84 (108 + 7 * b + 0)) 3 = false → Q (some (.int (-1000000005))) (put M 87 5 (M 87 5 + 1))) (hok : ((0 ≤ a ∧ a < nI n) ∧ (0 ≤ w ∧ w ≤ 23) ∧ 0 ≤ v ∧ v ≤ 1) → ∀ b, b < n → a = nI b → isOfB (M 84 (108 + 7 * b + 0)) 3 = true → ∀ M', KpX M M' → Q (some (.int (if v = 0 then nI (cB (fun s => nrS (M 84 (108 + 7 * b + 2)) (M 84 (108 + 7 * b + 1)) s && chP S M w n ne b s) 100 / (Nat.gcd (cB (fun s => nrS (M 84 (108 + 7 * b + 2)) (M 84 (108 + 7 * b + 1)) s && chP S M w n ne b s) 100) (cB (nrS (M 84 (108 + 7 * b + 2)) (M 84 (108 + 7 * b + 1))) 100))) else nI (cB (nrS (M 84 (108 + 7 * b + 2)) (M 84 (108 + 7 * b + 1))) 100 / (Nat.gcd (cB (fun s => nrS (M 84 (108 + 7 * b + 2)) (M 84 (108 + 7 * b + 1)) s && chP S M w n ne b s) 100) (cB (nrS (M 84 (108 + 7 * b + 2)) (M 84 (108 + 7 * b + 1))) 100)))))) M') : V rS g (d + 67) mX10_chance 0 [some (.ref 83), some (.int a), some (.int w), some (.int v), none, none, none, none] [] M Q := by
  have h8 := hV.2.1
  by_cases h : ((0 ≤ a ∧ a < nI n) ∧ (0 ≤ w ∧ w ≤ 23) ∧ 0 ≤ v ∧ v ≤ 1)
  · obtain ⟨b, hb, rfl⟩ := nI_ex (n := n) (by omega) h.1.1 h.1.2
    by_cases hk : isOfB (M 84 (108 + 7 * b + 0)) 3 = true
    · obtain ⟨sp, hsp1, hsp2⟩ := rg_99 (hV.2.2.2.2.2.2.1 b hb).1
      have hpos : 0 < cB (nrS (M 84 (108 + 7 * b + 2)) (M 84 (108 + 7 * b + 1))) 100 := by
        refine Nat.pos_of_ne_zero fun z => ?_
        have h1 := cB_zero.mp z sp hsp1
        unfold nrS at h1
        rw [hsp2, Int32.sub_self] at h1
        exact absurd (hm b hb) (of_decide_eq_false h1)
      have hla := cB_le (fun s => nrS (M 84 (108 + 7 * b + 2)) (M 84 (108 + 7 * b + 1)) s && chP S M w n ne b s) 100
      have hlb := cB_le (nrS (M 84 (108 + 7 * b + 2)) (M 84 (108 + 7 * b + 1))) 100
      have hg0 : 0 < (Nat.gcd (cB (fun s => nrS (M 84 (108 + 7 * b + 2)) (M 84 (108 + 7 * b + 1)) s && chP S M w n ne b s) 100) (cB (nrS (M 84 (108 + 7 * b + 2)) (M 84 (108 + 7 * b + 1))) 100)) := Nat.gcd_pos_of_pos_right _ hpos
      have hg1 : (Nat.gcd (cB (fun s => nrS (M 84 (108 + 7 * b + 2)) (M 84 (108 + 7 * b + 1)) s && chP S M w n ne b s) 100) (cB (nrS (M 84 (108 + 7 * b + 2)) (M 84 (108 + 7 * b + 1))) 100)) ≤ cB (nrS (M 84 (108 + 7 * b + 2)) (M 84 (108 + 7 * b + 1))) 100 := Nat.gcd_le_right _ hpos
      refine V.aload_n dX10_chance_0 rfl (i := 0) rfl ?_
      refine V.iload_n dX10_chance_1 rfl (i := 1) rfl ?_
      refine V.invv (z := mX10_isBell) (As := [_]) dX10_chance_2 rfl mlRX10_170 okX10_isBell npX10_isBell rfl rfl rfl ⟨by decide, by decide⟩ (Nat.le_of_ble_eq_true rfl) rfl (Nat.le_of_ble_eq_true rfl) (c_bellR hV.1 h8 ?_)
      show V rS g (d + 67) mX10_chance 5 [some (.ref 83), some (.int (nI b)), some (.int w), some (.int v), none, none, none, none] [.int (b2i (0 ≤ nI b ∧ nI b < nI n))] M Q
      refine V.if_eq (tgt := 25) dX10_chance_5 (by decide) (fun q => absurd q ((fun z => b2i_0.mp z h.1))) (fun c5 => ?_)
      refine V.iload_n dX10_chance_8 rfl (i := 2) rfl ?_
      refine V.invs (z := mX10_isHour) (As := [_]) dX10_chance_9 rfl mlRX10_191 okX10_isHour npX10_isHour rfl (Nat.le_of_ble_eq_true rfl) rfl (Nat.le_of_ble_eq_true rfl) (c_hourR   ?_)
      show V rS g (d + 67) mX10_chance 12 [some (.ref 83), some (.int (nI b)), some (.int w), some (.int v), none, none, none, none] [.int (b2i (0 ≤ w ∧ w ≤ 23))] (M) Q
      refine V.if_eq (tgt := 25) dX10_chance_12 (by decide) (fun q => absurd q ((fun z => b2i_0.mp z h.2.1))) (fun c12 => ?_)
      refine V.iload_n dX10_chance_15 rfl (i := 3) rfl ?_
      refine V.i2l dX10_chance_16 ?_
      refine V.lconst dX10_chance_17 (v := 0) (by decide) ?_
      refine V.lconst dX10_chance_18 (v := 1) (by decide) ?_
      refine V.invs (z := mX10_in) (As := [_, _, _]) dX10_chance_19 rfl mlRX10_66 okX10_in npX10_in rfl (Nat.le_of_ble_eq_true rfl) rfl (Nat.le_of_ble_eq_true rfl) (c_in32 (v := v) (lo := (0 : Int32)) (hi := (1 : Int32)) (by first | rfl | decide) (by first | rfl | decide)   ?_)
      show V rS g (d + 67) mX10_chance 22 [some (.ref 83), some (.int (nI b)), some (.int w), some (.int v), none, none, none, none] [.int (b2i ((0 : Int32) ≤ v ∧ v ≤ (1 : Int32)))] (M) Q
      refine V.if_ne (tgt := 31) dX10_chance_22 (by decide) (fun c22 => ?_) (fun q => absurd q ((fun z => b2i_0.mp z h.2.2)))
      refine V.aload_n dX10_chance_31 rfl (i := 0) rfl ?_
      refine V.iload_n dX10_chance_32 rfl (i := 1) rfl ?_
      refine V.iconst dX10_chance_33 (v := 0) (by decide) ?_
      refine V.invv (z := mX10_of) (As := [_, _]) dX10_chance_34 rfl mlRX10_175 okX10_of npX10_of rfl rfl rfl ⟨by decide, by decide⟩ (Nat.le_of_ble_eq_true rfl) rfl (Nat.le_of_ble_eq_true rfl) (c_of  (by omega) (by decide) ?_)
      show V rS g (d + 67) mX10_chance 37 [some (.ref 83), some (.int (nI b)), some (.int w), some (.int v), none, none, none, none] [.int ((M) 84 (108 + 7 * b + 0))] ((M)) Q
      refine V.iconst dX10_chance_37 (v := 3) (by decide) ?_
      refine V.invs (z := mX10_isOf) (As := [_, _]) dX10_chance_38 rfl mlRX10_185 okX10_isOf npX10_isOf rfl (Nat.le_of_ble_eq_true rfl) rfl (Nat.le_of_ble_eq_true rfl) (c_isOfR   ?_)
      show V rS g (d + 67) mX10_chance 41 [some (.ref 83), some (.int (nI b)), some (.int w), some (.int v), none, none, none, none] [.int (b2i (isOfB ((M) 84 (108 + 7 * b + 0)) (3 : Int32) = true))] (((M))) Q
      refine V.if_ne (tgt := 50) dX10_chance_41 (by decide) (fun c41 => ?_) (fun q => absurd q ((fun z => b2i_0.mp z hk)))
      refine V.aload_n dX10_chance_50 rfl (i := 0) rfl ?_
      refine V.iload_n dX10_chance_51 rfl (i := 2) rfl ?_
      refine V.invv (z := mX10_hearsAll) (As := [_]) dX10_chance_52 rfl mlRX10_238 okX10_hearsAll npX10_hearsAll rfl rfl rfl ⟨by decide, by decide⟩ (Nat.le_of_ble_eq_true rfl) rfl (Nat.le_of_ble_eq_true rfl) (c_all hV (fun M1 hM1 hH1 => ?_))
      show V rS g (d + 67) mX10_chance 55 [some (.ref 83), some (.int (nI b)), some (.int w), some (.int v), none, none, none, none] [] M1 Q
      refine V.aload_n dX10_chance_55 rfl (i := 0) rfl ?_
      refine V.iload_n dX10_chance_56 rfl (i := 1) rfl ?_
      refine V.iconst dX10_chance_57 (v := 2) (by decide) ?_
      refine V.invv (z := mX10_of) (As := [_, _]) dX10_chance_58 rfl mlRX10_175 okX10_of npX10_of rfl rfl rfl ⟨by decide, by decide⟩ (Nat.le_of_ble_eq_true rfl) rfl (Nat.le_of_ble_eq_true rfl) (c_of  (by omega) (by decide) ?_)
      show V rS g (d + 67) mX10_chance 61 [some (.ref 83), some (.int (nI b)), some (.int w), some (.int v), none, none, none, none] [.int (M1 84 (108 + 7 * b + 2))] (M1) Q
      refine V.top (x' := (M 84 (108 + 7 * b + 2))) ((by rw [hM1.d])) ?_
      refine V.istore dX10_chance_61 (i := 4) (by decide) (fun _ h => by cases h; exact Or.inl rfl) rfl ?_
      refine V.iconst dX10_chance_63 (v := 0) (by decide) ?_
      refine V.istore dX10_chance_64 (i := 5) (by decide) (fun _ h => by cases h; exact Or.inl rfl) rfl ?_
      refine V.iconst dX10_chance_66 (v := 0) (by decide) ?_
      refine V.istore dX10_chance_67 (i := 6) (by decide) (fun _ h => by cases h; exact Or.inl rfl) rfl ?_
      refine V.iconst dX10_chance_69 (v := 0) (by decide) ?_
      refine V.istore dX10_chance_70 (i := 7) (by decide) (fun _ h => by cases h; exact Or.inl rfl) rfl ?_
      skip
      refine V.lseq (ls' := [some (.ref 83), some (.int (nI b)), some (.int w), some (.int v), some (.int (M1 84 (108 + 7 * b + 2))), some (.int 0), some (.int 0), some (.int 0)]) (by rw [hM1.d]; rfl) ?_
      refine l_ch (M0 := M1) (hV.eq hM1.d) hb (fun M2 hM2 => ?_) 100 0 M1 (by omega) KpP.rf (fun x hx _ e he => by rw [hpR_eq hM1.d, wyR_eq hM1.d]; exact hH1 x e hx he)
      have hX : KpX M (put M2 84 (108 + 7 * b + 2) (M1 84 (108 + 7 * b + 2))) := hM1.x.tr hM2.back
      have hAB : (fun s => nrS (M1 84 (108 + 7 * b + 2)) (M1 84 (108 + 7 * b + 1)) s && chP S M1 w n ne b s) = (fun s => nrS (M 84 (108 + 7 * b + 2)) (M 84 (108 + 7 * b + 1)) s && chP S M w n ne b s) := by
        funext s
        have e2 : spM M1 b (nI s) 84 = spM M b (nI s) 84 := by funext i; unfold spM put; split; rfl; rw [hM1.d]
        unfold chP hpC wyC
        rw [hM1.d, hpR_eq e2, wyR_eq e2, hpR_eq hM1.d, wyR_eq hM1.d, show offR M1 = offR M from by unfold offR; rw [hM1.d]]
      rw [hAB, hM1.d]
      rw [hM1.d] at hX
      refine V.aload_n dX10_chance_138 rfl (i := 0) rfl ?_
      refine V.iload_n dX10_chance_139 rfl (i := 1) rfl ?_
      refine V.iconst dX10_chance_140 (v := 2) (by decide) ?_
      refine V.iload dX10_chance_141 rfl ?_
      refine V.invv (z := mX10_becomes) (As := [_, _, _]) dX10_chance_143 rfl mlRX10_162 okX10_becomes npX10_becomes rfl rfl rfl ⟨by decide, by decide⟩ (Nat.le_of_ble_eq_true rfl) rfl (Nat.le_of_ble_eq_true rfl) (c_bec  (by omega) (by decide) ?_)
      show V rS g (d + 67) mX10_chance 146 [some (.ref 83), some (.int (nI b)), some (.int w), some (.int v), some (.int (M 84 (108 + 7 * b + 2))), some (.int (nI (cB (fun s => nrS (M 84 (108 + 7 * b + 2)) (M 84 (108 + 7 * b + 1)) s && chP S M w n ne b s) 100))), some (.int (nI (cB (nrS (M 84 (108 + 7 * b + 2)) (M 84 (108 + 7 * b + 1))) 100))), some (.int (nI 100))] [] (put M2 84 (108 + 7 * b + 2) (M 84 (108 + 7 * b + 2))) Q
      refine V.iload dX10_chance_146 rfl ?_
      refine V.i2l dX10_chance_148 ?_
      refine V.iload dX10_chance_149 rfl ?_
      refine V.i2l dX10_chance_151 ?_
      refine V.invs (z := mX10_common) (As := [_, _]) dX10_chance_152 rfl mlRX10_273 okX10_common npX10_common rfl (Nat.le_of_ble_eq_true rfl) rfl (Nat.le_of_ble_eq_true rfl) (c_common (a := cB (fun s => nrS (M 84 (108 + 7 * b + 2)) (M 84 (108 + 7 * b + 1)) s && chP S M w n ne b s) 100) (b := cB (nrS (M 84 (108 + 7 * b + 2)) (M 84 (108 + 7 * b + 1))) 100) (by omega) (by omega) ?_)
      show V rS g (d + 67) mX10_chance 155 [some (.ref 83), some (.int (nI b)), some (.int w), some (.int v), some (.int (M 84 (108 + 7 * b + 2))), some (.int (nI (cB (fun s => nrS (M 84 (108 + 7 * b + 2)) (M 84 (108 + 7 * b + 1)) s && chP S M w n ne b s) 100))), some (.int (nI (cB (nrS (M 84 (108 + 7 * b + 2)) (M 84 (108 + 7 * b + 1))) 100))), some (.int (nI 100))] [.long (lN (Nat.gcd (cB (fun s => nrS (M 84 (108 + 7 * b + 2)) (M 84 (108 + 7 * b + 1)) s && chP S M w n ne b s) 100) (cB (nrS (M 84 (108 + 7 * b + 2)) (M 84 (108 + 7 * b + 1))) 100)))] (put M2 84 (108 + 7 * b + 2) (M 84 (108 + 7 * b + 2))) Q
      refine V.l2i dX10_chance_155 ?_
      refine V.top (x' := (nI (Nat.gcd (cB (fun s => nrS (M 84 (108 + 7 * b + 2)) (M 84 (108 + 7 * b + 1)) s && chP S M w n ne b s) 100) (cB (nrS (M 84 (108 + 7 * b + 2)) (M 84 (108 + 7 * b + 1))) 100)))) ((lN_i _)) ?_
      refine V.istore dX10_chance_156 (i := 7) (by decide) (fun _ h => by cases h; exact Or.inl rfl) rfl ?_
      refine V.iload_n dX10_chance_158 rfl (i := 3) rfl ?_
      refine V.if_ne (tgt := 170) dX10_chance_159 (by decide) (fun c159 => ?_) (fun c159 => ?_)
      · refine V.iload dX10_chance_170 rfl ?_
        refine V.iload dX10_chance_172 rfl ?_
        refine V.idiv dX10_chance_174 (nI_ne0 hg0 (by omega)) ?_
        exact V.ret dX10_chance_175 rfl (Qi (hok h b hb rfl hk _ hX) (by first | (rw [if_pos c159]; exact pk_div (by omega) hg0 (by omega)) | (rw [if_neg c159]; exact pk_div (by omega) hg0 (by omega))))
      · refine V.iload dX10_chance_162 rfl ?_
        refine V.iload dX10_chance_164 rfl ?_
        refine V.idiv dX10_chance_166 (nI_ne0 hg0 (by omega)) ?_
        refine V.goto dX10_chance_167 (tgt := 175) (by decide) ?_
        exact V.ret dX10_chance_175 rfl (Qi (hok h b hb rfl hk _ hX) (by first | (rw [if_pos c159]; exact pk_div (by omega) hg0 (by omega)) | (rw [if_neg c159]; exact pk_div (by omega) hg0 (by omega))))
    · skip
      refine V.aload_n dX10_chance_0 rfl (i := 0) rfl ?_
      refine V.iload_n dX10_chance_1 rfl (i := 1) rfl ?_
      refine V.invv (z := mX10_isBell) (As := [_]) dX10_chance_2 rfl mlRX10_170 okX10_isBell npX10_isBell rfl rfl rfl ⟨by decide, by decide⟩ (Nat.le_of_ble_eq_true rfl) rfl (Nat.le_of_ble_eq_true rfl) (c_bellR hV.1 h8 ?_)
      show V rS g (d + 67) mX10_chance 5 [some (.ref 83), some (.int (nI b)), some (.int w), some (.int v), none, none, none, none] [.int (b2i (0 ≤ nI b ∧ nI b < nI n))] M Q
      refine V.if_eq (tgt := 25) dX10_chance_5 (by decide) (fun q => absurd q ((fun z => b2i_0.mp z h.1))) (fun c5 => ?_)
      refine V.iload_n dX10_chance_8 rfl (i := 2) rfl ?_
      refine V.invs (z := mX10_isHour) (As := [_]) dX10_chance_9 rfl mlRX10_191 okX10_isHour npX10_isHour rfl (Nat.le_of_ble_eq_true rfl) rfl (Nat.le_of_ble_eq_true rfl) (c_hourR   ?_)
      show V rS g (d + 67) mX10_chance 12 [some (.ref 83), some (.int (nI b)), some (.int w), some (.int v), none, none, none, none] [.int (b2i (0 ≤ w ∧ w ≤ 23))] (M) Q
      refine V.if_eq (tgt := 25) dX10_chance_12 (by decide) (fun q => absurd q ((fun z => b2i_0.mp z h.2.1))) (fun c12 => ?_)
      refine V.iload_n dX10_chance_15 rfl (i := 3) rfl ?_
      refine V.i2l dX10_chance_16 ?_
      refine V.lconst dX10_chance_17 (v := 0) (by decide) ?_
      refine V.lconst dX10_chance_18 (v := 1) (by decide) ?_
      refine V.invs (z := mX10_in) (As := [_, _, _]) dX10_chance_19 rfl mlRX10_66 okX10_in npX10_in rfl (Nat.le_of_ble_eq_true rfl) rfl (Nat.le_of_ble_eq_true rfl) (c_in32 (v := v) (lo := (0 : Int32)) (hi := (1 : Int32)) (by first | rfl | decide) (by first | rfl | decide)   ?_)
      show V rS g (d + 67) mX10_chance 22 [some (.ref 83), some (.int (nI b)), some (.int w), some (.int v), none, none, none, none] [.int (b2i ((0 : Int32) ≤ v ∧ v ≤ (1 : Int32)))] (M) Q
      refine V.if_ne (tgt := 31) dX10_chance_22 (by decide) (fun c22 => ?_) (fun q => absurd q ((fun z => b2i_0.mp z h.2.2)))
      refine V.aload_n dX10_chance_31 rfl (i := 0) rfl ?_
      refine V.iload_n dX10_chance_32 rfl (i := 1) rfl ?_
      refine V.iconst dX10_chance_33 (v := 0) (by decide) ?_
      refine V.invv (z := mX10_of) (As := [_, _]) dX10_chance_34 rfl mlRX10_175 okX10_of npX10_of rfl rfl rfl ⟨by decide, by decide⟩ (Nat.le_of_ble_eq_true rfl) rfl (Nat.le_of_ble_eq_true rfl) (c_of  (by omega) (by decide) ?_)
      show V rS g (d + 67) mX10_chance 37 [some (.ref 83), some (.int (nI b)), some (.int w), some (.int v), none, none, none, none] [.int ((M) 84 (108 + 7 * b + 0))] ((M)) Q
      refine V.iconst dX10_chance_37 (v := 3) (by decide) ?_
      refine V.invs (z := mX10_isOf) (As := [_, _]) dX10_chance_38 rfl mlRX10_185 okX10_isOf npX10_isOf rfl (Nat.le_of_ble_eq_true rfl) rfl (Nat.le_of_ble_eq_true rfl) (c_isOfR   ?_)
      show V rS g (d + 67) mX10_chance 41 [some (.ref 83), some (.int (nI b)), some (.int w), some (.int v), none, none, none, none] [.int (b2i (isOfB ((M) 84 (108 + 7 * b + 0)) (3 : Int32) = true))] (((M))) Q
      refine V.if_ne (tgt := 50) dX10_chance_41 (by decide) (fun q => absurd ((b2i_f hk)) q) (fun c41 => ?_)
      refine V.aload_n dX10_chance_44 rfl (i := 0) rfl ?_
      refine V.iconst dX10_chance_45 (v := 5) (by decide) ?_
      refine V.invv (z := mX10_finds) (As := [_]) dX10_chance_46 rfl mlRX10_131 okX10_finds npX10_finds rfl rfl rfl ⟨by decide, by decide⟩ (Nat.le_of_ble_eq_true rfl) rfl (Nat.le_of_ble_eq_true rfl) (c_fnd5   ?_)
      show V rS g (d + 67) mX10_chance 49 [some (.ref 83), some (.int (nI b)), some (.int w), some (.int v), none, none, none, none] [.int (-1000000005 : Int32)] (put (((M))) 87 5 ((((M))) 87 5 + 1)) Q
      exact V.ret dX10_chance_49 rfl (hkind h b hb rfl (Bool.eq_false_iff.mpr hk))
  · skip
    refine V.aload_n dX10_chance_0 rfl (i := 0) rfl ?_
    refine V.iload_n dX10_chance_1 rfl (i := 1) rfl ?_
    refine V.invv (z := mX10_isBell) (As := [_]) dX10_chance_2 rfl mlRX10_170 okX10_isBell npX10_isBell rfl rfl rfl ⟨by decide, by decide⟩ (Nat.le_of_ble_eq_true rfl) rfl (Nat.le_of_ble_eq_true rfl) (c_bellR hV.1 h8 ?_)
    show V rS g (d + 67) mX10_chance 5 [some (.ref 83), some (.int a), some (.int w), some (.int v), none, none, none, none] [.int (b2i (0 ≤ a ∧ a < nI n))] M Q
    refine V.if_eq (tgt := 25) dX10_chance_5 (by decide) (fun c5 => ?_) (fun c5 => ?_)
    · refine V.aload_n dX10_chance_25 rfl (i := 0) rfl ?_
      refine V.iconst dX10_chance_26 (v := 1) (by decide) ?_
      refine V.invv (z := mX10_finds) (As := [_]) dX10_chance_27 rfl mlRX10_131 okX10_finds npX10_finds rfl rfl rfl ⟨by decide, by decide⟩ (Nat.le_of_ble_eq_true rfl) rfl (Nat.le_of_ble_eq_true rfl) (c_fnd1   ?_)
      show V rS g (d + 67) mX10_chance 30 [some (.ref 83), some (.int a), some (.int w), some (.int v), none, none, none, none] [.int (-1000000001 : Int32)] (put M 87 1 (M 87 1 + 1)) Q
      exact V.ret dX10_chance_30 rfl (hbad h)
    · refine V.iload_n dX10_chance_8 rfl (i := 2) rfl ?_
      refine V.invs (z := mX10_isHour) (As := [_]) dX10_chance_9 rfl mlRX10_191 okX10_isHour npX10_isHour rfl (Nat.le_of_ble_eq_true rfl) rfl (Nat.le_of_ble_eq_true rfl) (c_hourR   ?_)
      show V rS g (d + 67) mX10_chance 12 [some (.ref 83), some (.int a), some (.int w), some (.int v), none, none, none, none] [.int (b2i (0 ≤ w ∧ w ≤ 23))] (M) Q
      refine V.if_eq (tgt := 25) dX10_chance_12 (by decide) (fun c12 => ?_) (fun c12 => ?_)
      · refine V.aload_n dX10_chance_25 rfl (i := 0) rfl ?_
        refine V.iconst dX10_chance_26 (v := 1) (by decide) ?_
        refine V.invv (z := mX10_finds) (As := [_]) dX10_chance_27 rfl mlRX10_131 okX10_finds npX10_finds rfl rfl rfl ⟨by decide, by decide⟩ (Nat.le_of_ble_eq_true rfl) rfl (Nat.le_of_ble_eq_true rfl) (c_fnd1   ?_)
        show V rS g (d + 67) mX10_chance 30 [some (.ref 83), some (.int a), some (.int w), some (.int v), none, none, none, none] [.int (-1000000001 : Int32)] (put (M) 87 1 ((M) 87 1 + 1)) Q
        exact V.ret dX10_chance_30 rfl (hbad h)
      · refine V.iload_n dX10_chance_15 rfl (i := 3) rfl ?_
        refine V.i2l dX10_chance_16 ?_
        refine V.lconst dX10_chance_17 (v := 0) (by decide) ?_
        refine V.lconst dX10_chance_18 (v := 1) (by decide) ?_
        refine V.invs (z := mX10_in) (As := [_, _, _]) dX10_chance_19 rfl mlRX10_66 okX10_in npX10_in rfl (Nat.le_of_ble_eq_true rfl) rfl (Nat.le_of_ble_eq_true rfl) (c_in32 (v := v) (lo := (0 : Int32)) (hi := (1 : Int32)) (by first | rfl | decide) (by first | rfl | decide)   ?_)
        show V rS g (d + 67) mX10_chance 22 [some (.ref 83), some (.int a), some (.int w), some (.int v), none, none, none, none] [.int (b2i ((0 : Int32) ≤ v ∧ v ≤ (1 : Int32)))] (M) Q
        refine V.if_ne (tgt := 31) dX10_chance_22 (by decide) (fun c22 => ?_) (fun c22 => ?_)
        · exact absurd ⟨(Classical.byContradiction fun z => c5 (b2i_f z)), (Classical.byContradiction fun z => c12 (b2i_f z)), (Classical.byContradiction fun z => c22 (b2i_f z))⟩ h
        · refine V.aload_n dX10_chance_25 rfl (i := 0) rfl ?_
          refine V.iconst dX10_chance_26 (v := 1) (by decide) ?_
          refine V.invv (z := mX10_finds) (As := [_]) dX10_chance_27 rfl mlRX10_131 okX10_finds npX10_finds rfl rfl rfl ⟨by decide, by decide⟩ (Nat.le_of_ble_eq_true rfl) rfl (Nat.le_of_ble_eq_true rfl) (c_fnd1   ?_)
          show V rS g (d + 67) mX10_chance 30 [some (.ref 83), some (.int a), some (.int w), some (.int v), none, none, none, none] [.int (-1000000001 : Int32)] (put (M) 87 1 ((M) 87 1 + 1)) Q
          exact V.ret dX10_chance_30 rfl (hbad h)

