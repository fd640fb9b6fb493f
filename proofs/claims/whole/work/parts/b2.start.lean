/-! ===== the law, from its entry ===== -/
/-- which addresses a cell of the class names -/
def okL (k : Nat) : Bool := match lay k with
  | .inl o => o.2.all (fun t => decide (t < 3) || decide (t - 3 < 83))
  | .inr a => decide (a.1 ≤ 1) || decide (a.2.2 + a.2.1 ≤ 83)
theorem okL_all : ∀ k, k < 83 → okL k = true := by decide +kernel
theorem slvs_cv {ad ad' : Nat → Nat} (h1 : ∀ k, k < 83 → ad' k = ad k) (h2 : ∀ k, 200 ≤ k → ad' k = ad k) : ∀ (sk : List Nat) (i : Nat) (f : Nat → Int32), sk.all (fun t => decide (t < 3) || decide (t - 3 < 83)) = true → (slvs sk i f).map (cvv ad') = (slvs sk i f).map (cvv ad)
  | [], _, _, _ => rfl
  | t :: sk, i, f, h => by
    rw [List.all_cons, Bool.and_eq_true] at h
    rw [slvs, List.map_cons, List.map_cons, slvs_cv h1 h2 sk (i + 1) f h.2]
    congr 1
    match t, h.1 with
    | 0, _ => rfl
    | 1, _ => rfl
    | 2, _ => exact congrArg Value.ref (h2 _ (by omega))
    | k + 3, hk =>
      have : k < 83 := by
        rcases Bool.or_eq_true _ _ |>.mp hk with z | z
        · have := of_decide_eq_true z; omega
        · have := of_decide_eq_true z; omega
      exact congrArg Value.ref (h1 k this)
theorem wdl_sw {l : Launch} {D : va_G} {ad ad' : Nat → Nat} {tc : Nat → ClassId} {M : Mem} {H : Heap} (h1 : ∀ k, k < 83 → ad' k = ad k) (h2 : ∀ k, 200 ≤ k → ad' k = ad k) (hP : va_P D vwCl (wdl cS (l, D, ad, tc) M) H) : va_P D vwCl (wdl cS (l, D, ad', tc) M) H := by
  intro i x hx
  obtain ⟨hi, rfl⟩ := wdl_inv hx
  have hi : i < 83 := hi
  have hg := wdl_get (g := (l, D, ad, tc)) (M := M) (sd := cS) (a := 0 + i) ⟨Nat.le_add_right _ _, by show 0 + i < 0 + 83; omega⟩
  have hA := hP _ _ hg
  have hk := okL_all (0 + i) (by omega)
  show va_at D vwCl (ad' (0 + i), cel (l, D, ad', tc) M (0 + i)) H
  rw [h1 (0 + i) (by omega)]
  have hA : va_at D vwCl (ad (0 + i), cel (l, D, ad, tc) M (0 + i)) H := hA
  unfold okL at hk
  cases hl : lay (0 + i) with
  | inl oo =>
    obtain ⟨ci, sk⟩ := oo
    rw [cel_o hl] at hA ⊢
    rw [hl] at hk
    have e := slvs_cv h1 h2 sk 0 (M (0 + i)) hk
    show va_at D vwCl (ad (0 + i), .inr (ci, (slvs sk 0 (M (0 + i))).map (cvv ad'))) H
    rw [e]
    exact hA
  | inr a =>
    obtain ⟨t, n, b⟩ := a
    rw [hl] at hk
    by_cases ht : t ≤ 1
    · rw [cel_a hl ht] at hA ⊢
      exact hA
    · rw [cel_q hl ht] at hA ⊢
      have hb : b + n ≤ 83 := by
        rcases Bool.or_eq_true _ _ |>.mp hk with z | z
        · exact absurd (of_decide_eq_true z) ht
        · exact of_decide_eq_true z
      refine at_q (fun j hj => ?_) hA
      show some (ad (b + j)) = some (ad' (b + j))
      rw [h1 (b + j) (by omega)]
theorem wdl_Dsw {l : Launch} {D : va_G} {ad ad' : Nat → Nat} {tc : Nat → ClassId} {M : Mem} {A : Nat → Prop} (h1 : ∀ k, k < 83 → ad' k = ad k) (hD : va_D A (wdl cS (l, D, ad, tc) M)) : va_D A (wdl cS (l, D, ad', tc) M) := by
  have e : ∀ k, k < 83 → (0 + k < 83) := fun k h => by omega
  refine ⟨fun i j x z hi hj hxz => ?_, fun k x hx => ?_⟩
  · obtain ⟨a1, rfl⟩ := wdl_inv hi
    obtain ⟨a2, rfl⟩ := wdl_inv hj
    refine wdl_inj hD i j a1 a2 ?_
    have hxz : ad' (0 + i) = ad' (0 + j) := hxz
    rw [h1 _ (e i a1), h1 _ (e j a2)] at hxz
    exact hxz
  · obtain ⟨a1, rfl⟩ := wdl_inv hx
    show A (ad' (0 + k))
    rw [h1 _ (e k a1)]
    exact wdl_AA hD _ ⟨k, a1, rfl⟩
set_option maxHeartbeats 4000000 in
set_option maxRecDepth 100000 in
theorem whole_start {p : Program} {e : Env} {s : State} {m : MethodId} {below : List Frame} {meth : Method} {c : Code} (l : Launch) (hflags : l.flags = flags0) {b L : Nat} {xs : Nat → Int32} (hL : L ≤ 384) (C0 : lw_At p s m meth c b L xs) : W p l e room_1 s m #[Value.ref b] below meth c s.heap [] 0 0 (lw_Z below #[Value.ref b] s) (entryFrame m ([Value.ref b] : List Value).toArray 4) := by
  obtain ⟨g0, hg0, hC, hZ⟩ := fixed l C0
  subst hg0
  obtain ⟨hx, hb, hr, hml, hown, hts, hX, hbl, hlk, hgv⟩ := id C0
  have hA : ∀ q : Nat, s.heap.size ≤ q → (fun q : Nat => s.heap.size ≤ q) q := fun _ h => h
  have hS : va_S (fun q : Nat => s.heap.size ≤ q) s.heap s.heap [] := va_S.rf
  have hP : va_P g0.2.1 vwCl [] s.heap := fun k q h => by simp at h
  have hD : va_D (fun q : Nat => s.heap.size ≤ q) [] := ⟨fun i j p q h => by simp at h, fun k q h => by simp at h⟩
  have hl := lv_entry ([.ref b]) (n := 4) (Nat.le_of_ble_eq_true rfl)
  rw [lg_entry_eq]
  generalize (lg_sl ([.ref b]) ++ List.replicate (4 - (lg_sl ([.ref b])).length) Slot.unset).toArray = ls at hl ⊢
  have hl : lv_has ls 4 [(0, .ref b)] := hl
  refine va_new (ci := 9) (fs := [.null, .null, .null, .null, .null, .null, .null, .null, .null, .int 0]) (C := RX9) (T := TX9) (N := 10) (own := RL) hx hb hts (fun w hw => lwG_tb (inG9 w hw)) tyX9 tyX9_ok hown (hts _ (lwG_tb ckRL_7)) (hts _ (lwG_tb insRX9)) (hts _ (lwG_tb iniRX9)) hC.1 hP hD hS hA rfl rawX9 (Nat.le_of_ble_eq_true rfl) (Nat.le_of_ble_eq_true rfl) dL_0 (fun q0 H hP hD hS => ?_)
  refine lv_dup hx hb dL_3 rfl ?_
  have fr : ∀ {H : Heap} {locs : List Loc} {ws : va_W} {q : Nat} {raw : va_E}, va_S (fun q : Nat => s.heap.size ≤ q) s.heap H locs → va_D (fun q : Nat => s.heap.size ≤ q) (ws ++ [(q, raw)]) → ∀ x, va_A [(q, raw)] H.size x → s.heap.size ≤ x := fun {H locs ws q raw} hS hD x hx => by
    rcases hx with ⟨k, e1, h1⟩ | h1
    · have h2 : k < 1 := (List.getElem?_eq_some_iff.mp h1).1
      obtain rfl : k = 0 := by omega
      have h3 : (q, raw) = (x, e1) := Option.some.inj h1
      have h4 : q = x := congrArg Prod.fst h3
      rw [← h4]
      exact hD.2 ws.length (q, raw) (by rw [List.getElem?_append_right (Nat.le_refl _), Nat.sub_self]; rfl)
    · exact Nat.le_trans hS.1 h1
  have rmI : ∀ (F mc ms : Nat) (z : XM), MOK z → F ≤ 1000 → (rmN F mc ms).frames + 1 ≤ room_1.frames ∧ 8 + (z.2.2.1 + 11) + (rmN F mc ms).locals ≤ room_1.locals := fun F mc ms z hz hF => by
    have := hz.2.2.2.2
    refine ⟨?_, ?_⟩
    · show F + 1 ≤ 2048
      omega
    · show 8 + (z.2.2.1 + 11) + 60 * F ≤ 84000
      omega
  have hFr := fr (ws := []) hS hD
  have hpre : PreS s H (fun a U => a = (.ref q0 :: ([] : List Value)).toArray ∧ U.heap.size = H.size ∧ va_P g0.2.1 vwCl [(q0, .inr (9, [.null, .null, .null, .null, .null, .null, .null, .null, .null, .int 0]))] U.heap ∧ Cn g0 U ∧ Cz g0 (va_A [(q0, .inr (9, [.null, .null, .null, .null, .null, .null, .null, .null, .null, .int 0]))] H.size) U) (.ref q0 :: []) :=
    ⟨fun a U g' mk h => ⟨h.1, h.2.1, h.2.2.1, h.2.2.2.1.same rfl, Cz_ok _ U _ rfl rfl h.2.2.2.2⟩, fun U hU hW => ⟨rfl, by rw [hU], by rw [hU]; exact hP, hC.go hW, (hZ.go hS hU hW).nar hFr⟩⟩
  refine va_callv (va_runI (As := []) (rest := [.ref q0]) (own := RL) ⟨hx, hb, hml, hown, hts⟩ (k_X9 (g := g0) (q := q0) H.size) ⟨callB_of 0 hts (lwG_good miX_X9.1) rfl rfl rfl (hts _ (lwG_tb iniRX9)) (hts _ (lwG_tb mlRL_9)) ⟨miX_X9.1.2.2.1.1, miX_X9.1.2.2.1.2, npX9_init⟩ (rmI 63 82 2135 mX9_init miX_X9.1 (by decide)), miX_X9.2.2, hts _ (lwG_tb miX_X9.2.1)⟩ hpre rfl rfl hl.1 rfl (lv_room (Nat.le_of_ble_eq_true rfl)) dL_4 ⟨Nat.le_of_ble_eq_true rfl, Nat.le_of_ble_eq_true rfl⟩) hS (fun x _ h => hFr x h) hFr (fun B1 t1 H1 locs1 ht1 hvm1 hpost1 hB1 hsz1 hk1 hS1 => ?_)
  obtain ⟨ad1, M1, had0, had200, rfl, hIni⟩ := hpost1
  rw [ht1] at hB1
  obtain ⟨hP1, hD1⟩ := va_jn (ws := []) hP hD hFr hk1 hB1.1 hB1.2
  have hP1 : va_P g0.2.1 vwCl (wdl cS (g0.1, g0.2.1, ad1, g0.2.2.2) M1) H1 := hP1
  have hD1 : va_D (fun q : Nat => s.heap.size ≤ q) (wdl cS (g0.1, g0.2.1, ad1, g0.2.2.2) M1) := hD1
  have hC1 : Cn (g0.1, g0.2.1, ad1, g0.2.2.2) s := ⟨hC.1, hC.2.1, hC.2.2.1, by show vk_R RX3 22 "ldhwk" (ad1 210) s; rw [had200 210 (by omega)]; exact hC.2.2.2.1, hC.2.2.2.2⟩
  refine lv_astore_n (lv' := [(1, .ref q0), (0, .ref b)]) hx hb dL_7 rfl hl (by decide) rfl (fun ls hl => ?_)
  refine va_new (ci := 10) (fs := [.null, .null, .null, .int 0, .null, .int 0, .int 0, .int 0, .int 0, .int 0, .int 0, .null, .null, .null, .null, .int 0, .null, .null, .null, .null, .null, .null, .int 0, .int 0, .null, .null, .null, .null]) (C := RX10) (T := TX10) (N := 28) (own := RL) hx hb hts (fun w hw => lwG_tb (inG10 w hw)) tyX10 tyX10_ok hown (hts _ (lwG_tb ckRL_10)) (hts _ (lwG_tb insRX10)) (hts _ (lwG_tb iniRX10)) hC.1 hP1 hD1 hS1 hA rfl rawX10 (Nat.le_of_ble_eq_true rfl) (Nat.le_of_ble_eq_true rfl) dL_8 (fun q1 H2 hP2 hD2 hS2 => ?_)
  refine lv_dup hx hb dL_11 rfl ?_
  have hFr2 := fr hS2 hD2
  have hPc2 : va_P g0.2.1 vwCl [(q1, .inr (10, [.null, .null, .null, .int 0, .null, .int 0, .int 0, .int 0, .int 0, .int 0, .int 0, .null, .null, .null, .null, .int 0, .null, .null, .null, .null, .null, .null, .int 0, .int 0, .null, .null, .null, .null]))] H2 := fun k x hx => hP2 (83 + k) x (by rw [List.getElem?_append_right (by unfold wdl; rw [List.length_map, List.length_range]; exact Nat.le_add_right _ _)]; rw [show 83 + k - (wdl cS (g0.1, g0.2.1, ad1, g0.2.2.2) M1).length = k by unfold wdl; rw [List.length_map, List.length_range]; show 83 + k - 83 = k; omega]; exact hx)
  have hpre2 : PreS s H2 (fun a U => a = (.ref q1 :: ([] : List Value)).toArray ∧ U.heap.size = H2.size ∧ va_P g0.2.1 vwCl [(q1, .inr (10, [.null, .null, .null, .int 0, .null, .int 0, .int 0, .int 0, .int 0, .int 0, .int 0, .null, .null, .null, .null, .int 0, .null, .null, .null, .null, .null, .null, .int 0, .int 0, .null, .null, .null, .null]))] U.heap ∧ Cn (g0.1, g0.2.1, ad1, g0.2.2.2) U ∧ E0 (va_A [(q1, .inr (10, [.null, .null, .null, .int 0, .null, .int 0, .int 0, .int 0, .int 0, .int 0, .int 0, .null, .null, .null, .null, .int 0, .null, .null, .null, .null, .null, .null, .int 0, .int 0, .null, .null, .null, .null]))] H2.size) U) (.ref q1 :: []) :=
    ⟨fun a U g' mk h => ⟨h.1, h.2.1, h.2.2.1, h.2.2.2.1.same rfl, trivial⟩, fun U hU hW => ⟨rfl, by rw [hU], by rw [hU]; exact hPc2, hC1.go hW, trivial⟩⟩
  refine va_callv (va_runI (As := []) (rest := [.ref q1]) (own := RL) ⟨hx, hb, hml, hown, hts⟩ (k_X10 (g := (g0.1, g0.2.1, ad1, g0.2.2.2)) (q := q1) H2.size) ⟨callB_of 0 hts (lwG_good miX_X10.1) rfl rfl rfl (hts _ (lwG_tb iniRX10)) (hts _ (lwG_tb mlRL_12)) ⟨miX_X10.1.2.2.1.1, miX_X10.1.2.2.1.2, npX10_init⟩ (rmI 1 18 2216 mX10_init miX_X10.1 (by decide)), miX_X10.2.2, hts _ (lwG_tb miX_X10.2.1)⟩ hpre2 rfl rfl hl.1 rfl (lv_room (Nat.le_of_ble_eq_true rfl)) dL_12 ⟨Nat.le_of_ble_eq_true rfl, Nat.le_of_ble_eq_true rfl⟩) hS2 (fun x _ h => hFr2 x h) hFr2 (fun B2 t2 H3 locs3 ht2 hvm2 hpost2 hB2 hsz2 hk2 hS3 => ?_)
  obtain ⟨f2, rfl⟩ := hpost2
  rw [ht2] at hB2
  obtain ⟨hP3, hD3⟩ := va_jn hP2 hD2 hFr2 hk2 hB2.1 hB2.2
  rw [b10_w] at hP3 hD3
  refine lv_astore_n (lv' := [(2, .ref q1), (1, .ref q0), (0, .ref b)]) hx hb dL_15 rfl hl (by decide) rfl (fun ls hl => ?_)
  refine lv_iconst (v := 0) hx hb dL_16 (by decide) ?_
  refine lv_istore_n (lv' := [(3, .int 0), (2, .ref q1), (1, .ref q0), (0, .ref b)]) hx hb dL_17 rfl hl (by decide) rfl (fun ls hl => ?_)
  -- the addresses of both
  generalize had2 : ad10 (g0.1, g0.2.1, ad1, g0.2.2.2) q1 f2 = ad2 at hP3 hD3
  have s83 : ∀ k, k < 83 → ad2 k = ad1 k := fun k hk => by rw [← had2]; unfold ad10; rw [if_pos hk]
  have s200 : ∀ k, 200 ≤ k → ad2 k = ad1 k := fun k hk => by rw [← had2]; unfold ad10; rw [if_neg (by omega), if_neg (by omega), if_neg (by omega)]
  have e83 : ad2 83 = q1 := by rw [← had2]; unfold ad10; rw [if_neg (by omega), if_pos rfl]
  have e0 : ad2 0 = q0 := by rw [s83 0 (by omega)]; exact had0
  have lenC : (wdl cS (g0.1, g0.2.1, ad1, g0.2.2.2) M1).length = 83 := by unfold wdl; rw [List.length_map, List.length_range]
  have inl : ∀ (k : Nat) (x : Nat × va_E), (wdl cS (g0.1, g0.2.1, ad1, g0.2.2.2) M1)[k]? = some x → (wdl cS (g0.1, g0.2.1, ad1, g0.2.2.2) M1 ++ wdl rS (g0.1, g0.2.1, ad2, g0.2.2.2) M20)[k]? = some x := fun k x hx => by
    rw [List.getElem?_append_left (List.getElem?_eq_some_iff.mp hx).1]
    exact hx
  have inr' : ∀ (k : Nat) (x : Nat × va_E), (wdl rS (g0.1, g0.2.1, ad2, g0.2.2.2) M20)[k]? = some x → (wdl cS (g0.1, g0.2.1, ad1, g0.2.2.2) M1 ++ wdl rS (g0.1, g0.2.1, ad2, g0.2.2.2) M20)[83 + k]? = some x := fun k x hx => by
    rw [List.getElem?_append_right (by omega), lenC, Nat.add_sub_cancel_left]
    exact hx
  have pC : va_P g0.2.1 vwCl (wdl cS (g0.1, g0.2.1, ad2, g0.2.2.2) M1) H3 := wdl_sw s83 s200 (fun k x hx => hP3 k x (inl k x hx))
  have pR : va_P g0.2.1 vwCl (wdl rS (g0.1, g0.2.1, ad2, g0.2.2.2) M20) H3 := fun k x hx => hP3 (83 + k) x (inr' k x hx)
  have dC : va_D (fun q : Nat => s.heap.size ≤ q) (wdl cS (g0.1, g0.2.1, ad2, g0.2.2.2) M1) := wdl_Dsw s83 ⟨fun i j x z hi hj => hD3.1 i j x z (inl i x hi) (inl j z hj), fun k x hx => hD3.2 k x (inl k x hx)⟩
  have dR : va_D (fun q : Nat => s.heap.size ≤ q) (wdl rS (g0.1, g0.2.1, ad2, g0.2.2.2) M20) := ⟨fun i j x z hi hj hxz => by have := hD3.1 _ _ x z (inr' i x hi) (inr' j z hj) hxz; omega, fun k x hx => hD3.2 _ x (inr' k x hx)⟩
  have hZ2 : Cz (g0.1, g0.2.1, ad2, g0.2.2.2) (fun q : Nat => s.heap.size ≤ q) s := hZ.ad (fun k hk => (s200 k hk).trans (had200 k hk))
  have K : LKk (p, e, s, m, below, meth, c, b) L xs (g0.1, g0.2.1, ad2, g0.2.2.2) := by
    refine ⟨C0, hZ2.cx hC.1 (wdl_inj dC) (wdl_AA dC), hZ2.cx hC.1 (wdl_inj dR) (wdl_AA dR), wdl_AA dC, wdl_AA dR, ?_⟩
    rintro q ⟨i, hi, rfl⟩ ⟨j, hj, hq⟩
    have hi : i < 83 := hi
    have g1 := wdl_get (g := (g0.1, g0.2.1, ad1, g0.2.2.2)) (M := M1) (sd := cS) (a := 0 + i) ⟨Nat.le_add_right _ _, by show 0 + i < 0 + 83; omega⟩
    have g2 := wdl_get (g := (g0.1, g0.2.1, ad2, g0.2.2.2)) (M := M20) (sd := rS) (a := 83 + j) ⟨Nat.le_add_right _ _, Nat.add_lt_add_left hj _⟩
    have h5 : ad1 (0 + i) = ad2 (83 + j) := by rw [← s83 (0 + i) (by omega)]; exact hq
    have h6 := hD3.1 _ _ _ _ (inl _ _ g1) (inr' _ _ g2) h5
    have h7 : (0 + i) - 0 = 83 + ((83 + j) - 83) := h6
    omega
  have J := law_loop K hL (L + 1) 0 M1 M20 (by omega) (by omega) ⟨_, _, _, _, _, _, ini_rel hIni⟩
  refine W.widen (k := 600000) (n := 7302250) (Nat.le_of_ble_eq_true rfl) (Nat.le_of_ble_eq_true rfl) ?_
  refine J H3 locs3 ls pC pR hS3 ⟨hl.1, hl.2.1, fun i v hv => ?_⟩
  have hl3 := fun q hq => hl.2.2 q hq
  match i, hv with
  | 0, hv => cases hv; exact hl3 (0, .ref b) (by simp)
  | 1, hv => cases hv; show ls[1]? = some (.val (.ref (ad2 0))); rw [e0]; exact hl3 (1, .ref q0) (by simp)
  | 2, hv => cases hv; show ls[2]? = some (.val (.ref (ad2 83))); rw [e83]; exact hl3 (2, .ref q1) (by simp)
  | 3, hv => cases hv; exact hl3 (3, .int 0) (by simp)
  | i + 4, hv => simp at hv

