/-! ===== OneBreath's constructor: statics, and methods within N ===== -/
/-- what stands fixed in the heap, apart from A -/
def Cz (g : GG) : EE := fun A s =>
  (∀ (j : Nat) (q : String × String × List Int32), saT[j]? = some q → va_Z q.1 q.2.1 "[I" (.ref (g.2.2.1 (200 + j))) A s s.heap ∧ va_T .int (g.2.2.1 (200 + j)) q.2.2.length (fun i => .int (q.2.2.getD i 0)) A s s.heap) ∧
  vk_S 4 strL strB (fun i => g.2.2.1 (210 + i)) (fun i => g.2.2.1 (220 + i)) A s s.heap ∧
  (va_Z "java/lang/String" "COMPACT_STRINGS" "Z" (.int 1) A s s.heap ∧ ∃ v, (v = .null ∨ v = .ref 230) ∧ va_Z "jdk/internal/util/Preconditions" "SIOOBE_FORMATTER" "Ljava/util/function/BiFunction;" (cvv g.2.2.1 v) A s s.heap) ∧
  (∀ q ∈ srT, vk_R q.1 q.2.1 q.2.2.1 (g.2.2.1 (210 + q.2.2.2)) s) ∧
  (∀ q ∈ nwF, va_Nw (.fieldLinkNest q.1 q.2.1 q.2.2.1 q.2.2.2.1 q.2.2.2.2.1 q.2.2.2.2.2) s) ∧
  (∀ q ∈ nwM, va_Nw (.methodLinkNest q.1 q.2.1 q.2.2.1 q.2.2.2) s)
section CZ
variable {g : GG} {A B : Nat → Prop} {s U : State} {H : Heap} {locs : List Loc}
theorem Cz.nar (h : Cz g A s) (hAB : ∀ q, B q → A q) : Cz g B s := by
  obtain ⟨h3, h4, h5, h6, h7, h8⟩ := h
  exact ⟨fun j q hq => ⟨(h3 j q hq).1.narrow hAB, (h3 j q hq).2.narrow hAB⟩, h4.narrow hAB, ⟨h5.1.narrow hAB, h5.2.elim fun v hv => ⟨v, hv.1, hv.2.narrow hAB⟩⟩, h6, h7, h8⟩
theorem Cz.go (h : Cz g A s) (hS : va_S A s.heap H locs) (hU : U.heap = H) (hW : s.WarmedH U.vm) : Cz g A U := by
  obtain ⟨h3, h4, h5, h6, h7, h8⟩ := h
  have k : ∀ a : Nat, a < s.heap.size → ¬ A a → U.heap[a]? = s.heap[a]? := fun a ha hn => by rw [hU]; exact hS.2.1 a ha hn
  exact ⟨fun j q hq => ⟨((h3 j q hq).1.kept k).moved hW.alike, ((h3 j q hq).2.kept k).moved hW.alike⟩, (h4.kept k).moved hW.alike, ⟨(h5.1.kept k).moved hW.alike, h5.2.elim fun v hv => ⟨v, hv.1, (hv.2.kept k).moved hW.alike⟩⟩, fun q hq => (h6 q hq).warm hW, fun q hq => va_Nw.warmF hW (h7 q hq), fun q hq => va_Nw.warmM hW (h8 q hq)⟩
theorem Cz_ok : EOK (Cz g) := by
  intro A U U' hU hv h
  obtain ⟨h3, h4, h5, h6, h7, h8⟩ := h
  have al : U.vm.Alike U'.vm := by rw [hv]; exact Vm.Alike.refl _
  refine ⟨fun j q hq => ?_, ?_, ?_, fun q hq => (h6 q hq).same hv, fun q hq => (h7 q hq).same rfl hv.symm, fun q hq => (h8 q hq).same rfl hv.symm⟩
  · rw [hU]; exact ⟨(h3 j q hq).1.moved al, (h3 j q hq).2.moved al⟩
  · rw [hU]; exact h4.moved al
  · rw [hU]; exact ⟨h5.1.moved al, h5.2.elim fun v hv => ⟨v, hv.1, hv.2.moved al⟩⟩
theorem Cz.ad {ad : Nat → Nat} (h : Cz g A s) (ha : ∀ k, 200 ≤ k → ad k = g.2.2.1 k) : Cz (g.1, g.2.1, ad, g.2.2.2) A s := by
  obtain ⟨h3, h4, h5, h6, h7, h8⟩ := h
  refine ⟨fun j q hq => ?_, ?_, ⟨h5.1, ?_⟩, fun q hq => ?_, h7, h8⟩
  · show va_Z _ _ _ (.ref (ad (200 + j))) A s s.heap ∧ va_T .int (ad (200 + j)) _ _ A s s.heap
    rw [ha _ (by omega)]
    exact h3 j q hq
  · show vk_S 4 strL strB (fun i => ad (210 + i)) (fun i => ad (220 + i)) A s s.heap
    rw [show (fun i => ad (210 + i)) = (fun i => g.2.2.1 (210 + i)) from funext fun i => ha _ (by omega), show (fun i => ad (220 + i)) = (fun i => g.2.2.1 (220 + i)) from funext fun i => ha _ (by omega)]
    exact h4
  · obtain ⟨v, hv, hz⟩ := h5.2
    refine ⟨v, hv, ?_⟩
    rcases hv with rfl | rfl
    · exact hz
    · show va_Z _ _ _ (.ref (ad 230)) A s s.heap
      rw [ha 230 (by omega)]
      exact hz
  · show vk_R _ _ _ (ad (210 + q.2.2.2)) s
    rw [ha _ (by omega)]
    exact h6 q hq
theorem Cz.cx {sd : Nat × Nat} (h : Cz g A s) (hK : va_K g.2.1 vwCl (tysG g) s) (hi : inj sd g) (hA : ∀ q, AA sd g q → A q) : Cx sd g s := by
  obtain ⟨h3, h4, h5, h6, h7, h8⟩ := h.nar hA
  exact ⟨hK, hi, h3, h4, h5, h6, h7, h8⟩
end CZ
theorem wdl_inj {sd : Nat × Nat} {g : GG} {M : Mem} {A : Nat → Prop} (hD : va_D A (wdl sd g M)) : inj sd g := fun i j hi hj e => by
  have h1 := wdl_get (g := g) (M := M) (sd := sd) (a := sd.1 + i) ⟨by omega, by omega⟩
  have h2 := wdl_get (g := g) (M := M) (sd := sd) (a := sd.1 + j) ⟨by omega, by omega⟩
  rw [Nat.add_sub_cancel_left] at h1 h2
  exact hD.1 i j _ _ h1 h2 e
theorem wdl_AA {sd : Nat × Nat} {g : GG} {M : Mem} {A : Nat → Prop} (hD : va_D A (wdl sd g M)) : ∀ q, AA sd g q → A q := by
  rintro q ⟨k, hk, rfl⟩
  have h1 := wdl_get (g := g) (M := M) (sd := sd) (a := sd.1 + k) ⟨by omega, by omega⟩
  exact hD.2 _ _ h1
theorem wdl_DM {sd : Nat × Nat} {g : GG} {M M' : Mem} {A : Nat → Prop} (hD : va_D A (wdl sd g M)) : va_D A (wdl sd g M') := by
  refine ⟨fun i j p q hp hq hpq => ?_, fun k q hq => ?_⟩
  · obtain ⟨h1, rfl⟩ := wdl_inv hp
    obtain ⟨h2, rfl⟩ := wdl_inv hq
    exact wdl_inj hD i j h1 h2 hpq
  · obtain ⟨h1, rfl⟩ := wdl_inv hq
    exact wdl_AA hD _ ⟨k, h1, rfl⟩
section NV
variable {g : GG} {E : EE} {F mc ms : Nat} {y : XM} {A : Nat → Prop} {post : va_W → Prop} {pc : Nat} {ls : List (Option Value)} {st : List Value} {cells slots : Nat} {ws : va_W}
theorem N.cg {ws' : va_W} (hP : ∀ H : Heap, va_P g.2.1 vwCl ws H → va_P g.2.1 vwCl ws' H) (hD : va_D A ws → va_D A ws') (kk : N g E F mc ms y A post pc ls st cells slots ws') : N g E F mc ms y A post pc ls st cells slots ws := by
  intro p e s m ar be me c H lo lC h
  obtain ⟨h1, h2, h3, h4, h5, h6, h7, h8, h9, h10, h11, h12, h13, h14, h15⟩ := h
  exact kk p e s m ar be me c H lo lC ⟨h1, h2, h3, h4, h5, h6, h7, h8, h9, h10, h11, hP H h12, hD h13, h14, h15⟩
theorem N.sg {ad : Nat → Nat} (ha : ∀ k, 200 ≤ k → ad k = g.2.2.1 k) (kk : N (g.1, g.2.1, ad, g.2.2.2) (Cz (g.1, g.2.1, ad, g.2.2.2)) F mc ms y A post pc ls st cells slots ws) : N g (Cz g) F mc ms y A post pc ls st cells slots ws := by
  intro p e s m ar be me c H lo lC h
  obtain ⟨h1, h2, h3, h4, h5, h6, h7, h8, h9, h10, h11, h12, h13, h14, h15⟩ := h
  refine kk p e s m ar be me c H lo lC ⟨h1, h2, h3, h4, h5, h6, h7, ⟨h8.1, h8.2.1, h8.2.2.1, ?_, h8.2.2.2.2⟩, h9, h10, h11.ad ha, h12, h13, h14, h15⟩
  show vk_R RX3 22 "ldhwk" (ad 210) s
  rw [ha 210 (by omega)]
  exact h8.2.2.2.1
theorem N.ldcZ {own tx : String} {i j : Nat} (hd : decode y.2.1 pc = .ok (.ldc i, 2)) (ho : y.1.cls = own) (hw : (own, i, tx, j) ∈ srT) (kk : N g (Cz g) F mc ms y A post (pc + 2) ls (.ref (g.2.2.1 (210 + j)) :: st) cells slots ws) : N g (Cz g) F mc ms y A post pc ls st cells slots ws :=
  fun p e s m ar be me c H lo lC h => va_ldcS h.1 h.2.1 (ho ▸ h.2.2.2.2.1) (h.2.2.2.2.2.2.2.2.2.2.1.2.2.2.1 _ hw) hd (kk p e s m ar be me c H lo lC h)
theorem N.invV {sd : Nat × Nat} {z : XM} {own : String} {idx b n ci d : Nat} {sk : List Nat} {As : List Value} {ls0 : List (Option Value)} {T : u_T} {n0 : Nat} {M : Mem} (hd : decode y.2.1 pc = .ok (.invokevirtual idx, 3)) (ho : y.1.cls = own) (hw : Cond.methodLink own idx z.1 ∈ lwG) (hz : MV z) (hn : np z n) (hl : As.length = n) (hb : lay b = .inl (ci, sk)) (hc : vwCl[ci]? = some (z.1.cls, T, n0)) (hs : inS sd b) (hst : stS st ≤ 8) (h0 : ent z.2.2.1 (.ref b :: As) = ls0) (hlen : (entL (.ref b :: As)).length ≤ z.2.2.1) (hF : d + 1 ≤ F) (hcc : cells ≤ mc) (hss : slots ≤ ms)
    (k : V sd g d z 0 ls0 [] M (fun r M' => r = none ∧ N g (Cz g) F mc ms y A post (pc + 3) ls st cells slots (wdl sd g M'))) : N g (Cz g) F mc ms y A post pc ls ((As.map (cvv g.2.2.1)).reverse ++ .ref (g.2.2.1 b) :: st) cells slots (wdl sd g M) := by
  subst ho
  intro p e s m ar be me c H lo lC h
  obtain ⟨hx, hb0, hr0, hml, hown, hlk, hts, hC, hin, hA, hE, hP, hD, hS, hL⟩ := h
  have hg := wdl_get (g := g) (M := M) hs
  rw [cel_o hb] at hg
  have hrm : (rmG d).frames + 1 ≤ (rmN F mc ms).frames ∧ 8 + (z.2.2.1 + 11) + (rmG d).locals ≤ (rmN F mc ms).locals := by
    have := hz.1.2.2.2.2
    refine ⟨hF, ?_⟩
    show 8 + (z.2.2.1 + 11) + 60 * d ≤ 60 * F
    omega
  have run := va_runV (e := e) (below := be) (meth := me) (locs := lo) (cells := cells) (slots := slots) (g := F0 m pc lC ((As.map (cvv g.2.2.1)).reverse ++ .ref (g.2.2.1 b) :: st)) (As := As.map (cvv g.2.2.1)) (rest := st) ⟨hx, hb0, hml, hown, hts⟩ (k.met (av := .ref b :: As) hz.1 h0 hlen)
    (R := rmN F mc ms) ⟨callB_of n hts (wsG_good hz.1) rfl rfl rfl (hts _ (wsG_in hz.1.2.1)) (hts _ (wsG_in hw)) ⟨hz.1.2.2.1.1, hz.1.2.2.1.2, hn⟩ hrm, hts _ (wsG_in hz.2.1), hts _ (wsG_in hz.2.2)⟩
    (H := H) ⟨PG_blind, va_recv hC.1 hP hc hg, fun U hU hW => ⟨rfl, by rw [hU]; exact hP, (hE.go hS hU hW).cx (hC.go hW).1 (wdl_inj hD) (wdl_AA hD)⟩⟩ rfl (by rw [List.length_map]; exact hl) hL.1 rfl (lv_room hst) hd ⟨hcc, hss⟩
  intro T1 hT X
  obtain ⟨v, st₀, t, T', L, h0', X', hL', e1, e2, ⟨r, M', ho, ⟨hr, hN⟩, hP', hz', hk'⟩, stp⟩ := run T1 hT X
  subst hr
  have hv : v = none := by injection ho
  subst hv
  rw [h0'] at hz' hk'
  have hS' : va_S A s.heap T'.heap (lo ++ L) := by
    refine ⟨Nat.le_trans hS.1 (by rw [e1]; exact hz'), fun q h1 h2 => ?_, fun q hq => ?_⟩
    · rw [e1, hk' q (Nat.lt_of_lt_of_le h1 hS.1) (fun z => h2 (wdl_AA hD q z))]
      exact hS.2.1 q h1 h2
    · rcases List.mem_append.mp hq with h1 | h1
      · exact hS.2.2 q h1
      · exact wdl_AA hD _ (hL' q h1)
  obtain ⟨t2, a1, b1⟩ := hN p e s m ar be me c T'.heap (lo ++ L) lC ⟨hx, hb0, hr0, hml, hown, hlk, hts, hC, hin, hA, hE, by rw [e1]; exact hP', wdl_DM hD, hS', hL⟩ T' rfl X'
  exact ⟨t2, stp t2 a1, b1⟩
end NV


