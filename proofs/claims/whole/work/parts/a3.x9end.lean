/-! ===== OneBreath's constructor ===== -/
/-- the class's memory before its texts -/
def M00 : Mem := fun k => if k = 1 ∨ k = 2 then (fun j => if j = 6 then 3 else if j = 7 then 60 else if j = 12 then 1 else 0) else (fun _ => 0)
theorem tx0 : rdT (nx (chS 2) 9) 0 = (true, 9, dfl 0) := by decide +kernel
theorem tx1 : rdT (nx (chS 3) 5) 1 = (true, 5, dfl 1) := by decide +kernel
/-- the class's memory at its start -/
def Ini (M : Mem) : Prop := ∃ M1, eqx [3, 13, 26, 27, 80, 14, 68] (put M00 1 9 0) M1 ∧ M1 14 1 = nI (dfl 0).length ∧ (∀ i, i < (dfl 0).length → M1 68 i = (dfl 0).getD i 0) ∧ eqx [3, 13, 26, 27, 80, 15, 71] (put M1 1 9 0) M ∧ M 15 1 = nI (dfl 1).length ∧ ∀ i, i < (dfl 1).length → M 71 i = (dfl 1).getD i 0
set_option maxHeartbeats 4000000 in
set_option maxRecDepth 100000 in
theorem x9_end {g : GG} {mc ms : Nat} {A : Nat → Prop} {post : va_W → Prop} {cells slots : Nat} (hc : cells ≤ mc) (hs : slots ≤ ms) (hp : ∀ M, Ini M → post (wdl cS g M)) : N g (Cz g) 63 mc ms mX9_init A post 120 [some (.ref (g.2.2.1 0))] [] cells slots (wdl cS g M00) := by
  refine N.aload dX9_init_120 rfl (i := 0) rfl ?_
  refine N.iconst dX9_init_121 (v := 0) (by decide) ?_
  refine N.ldcZ dX9_init_122 rfl (List.mem_of_getElem? (i := 2) rfl) ?_
  refine N.invV (sd := cS) (b := 0) (As := [.int (nI 0), .ref (210 + 2)]) (st := []) (z := mX9_beginText) (ls0 := [some (.ref 0), some (.int (nI 0)), some (.ref (210 + 2)), none]) (d := 62) dX9_init_124 rfl mlRX9_71 okX9_beginText npX9_beginText rfl rfl rfl ⟨by decide, by decide⟩ (Nat.le_of_ble_eq_true rfl) rfl (Nat.le_of_ble_eq_true rfl) (by decide) hc hs ?_
  refine c_beginText (d := 0) (us := 0) (j := 2) (by decide) (by decide) rfl ⟨9, dfl 0, tx0, rfl⟩ (fun _ M1 k1 o1 e1 a1 a2 a3 => ⟨rfl, ?_⟩) (fun h => absurd h (by decide))
  have e2 := (show (true, k1, o1) = (true, 9, dfl 0) from e1.symm.trans tx0)
  obtain ⟨rfl, rfl⟩ : k1 = 9 ∧ o1 = dfl 0 := by
    injection e2 with _ e3
    injection e3 with e4 e5
    exact ⟨e4, e5⟩
  refine N.aload dX9_init_127 rfl (i := 0) rfl ?_
  refine N.iconst dX9_init_128 (v := 1) (by decide) ?_
  refine N.ldcZ dX9_init_129 rfl (List.mem_of_getElem? (i := 3) rfl) ?_
  refine N.invV (sd := cS) (b := 0) (As := [.int (nI 1), .ref (210 + 3)]) (st := []) (z := mX9_beginText) (ls0 := [some (.ref 0), some (.int (nI 1)), some (.ref (210 + 3)), none]) (d := 62) dX9_init_131 rfl mlRX9_71 okX9_beginText npX9_beginText rfl rfl rfl ⟨by decide, by decide⟩ (Nat.le_of_ble_eq_true rfl) rfl (Nat.le_of_ble_eq_true rfl) (by decide) hc hs ?_
  refine c_beginText (d := 0) (us := 1) (j := 3) (by decide) (by decide) (by rw [a1 1 (by decide)]; exact put_s) ⟨5, dfl 1, tx1, rfl⟩ (fun h => absurd h (by decide)) (fun _ M2 k2 o2 e6 b1 b2 b3 => ⟨rfl, ?_⟩)
  have e7 := (show (true, k2, o2) = (true, 5, dfl 1) from e6.symm.trans tx1)
  obtain ⟨rfl, rfl⟩ : k2 = 5 ∧ o2 = dfl 1 := by
    injection e7 with _ e3
    injection e3 with e4 e5
    exact ⟨e4, e5⟩
  exact N.ret dX9_init_134 hc hs (hp M2 ⟨M1, a1, a2, a3, b1, b2, b3⟩)

