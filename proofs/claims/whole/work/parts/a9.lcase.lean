/-! ===== the law: its calls ===== -/
abbrev lsL (k : KA) (g : GG) (i : Nat) : List (Option Value) := [some (.ref k.2.2.2.2.2.2.2), some (.ref (g.2.2.1 0)), some (.ref (g.2.2.1 83)), some (.int (nI i))]
set_option maxHeartbeats 4000000 in
set_option maxRecDepth 100000 in
theorem cs_hill {k : KA} {g : GG} {n : Nat} {xs : Nat → Int32} {i : Nat} {M1 M2 : Mem} (C : LKk k n xs g) (hn : n < 1000) (hi : i + 5 < n) (hR : RelE M1 M2) (kk : ∀ M1' M2', RelE M1' M2' → LJ k g 1575 (lsL k g i) [] M1' M2') : LJ k g 212 (lsL k g i) [] M1 M2 := by
  refine LJ.aload C dL_212 rfl (i := 1) rfl ?_
  refine LJ.arg C (i := i) (j := 1) (a := i + 1) rfl rfl dA_213 (by omega) hn rfl ?_
  refine LJ.arg C (i := i) (j := 2) (a := i + 2) rfl rfl dA_218 (by omega) hn rfl ?_
  refine LJ.c1 C (z := mX9_hill) (d := 0 + 2) (As := [.int (xs (i + 1)), .int (xs (i + 2))]) (st := []) dL_223 mlRL_13 okX9_hill rfl npX9_hill rfl rfl rfl (Nat.le_of_ble_eq_true rfl) (Nat.zero_le _) (by decide) (s_hill (d := 0) M1 M2 hR) (fun r1 M1' h1 => ?_)
  refine LJ.aload C dL_226 rfl (i := 2) rfl ?_
  refine LJ.arg C (i := i) (j := 1) (a := i + 1) rfl rfl dA_227 (by omega) hn rfl ?_
  refine LJ.arg C (i := i) (j := 2) (a := i + 2) rfl rfl dA_232 (by omega) hn rfl ?_
  refine LJ.c2 C (z := mX10_hill) (d := 0 + 2) (As := [.int (xs (i + 1)), .int (xs (i + 2))]) (st := (r1.map (cvv g.2.2.1)).toList ++ []) dL_237 mlRL_17 okX10_hill rfl npX10_hill rfl rfl rfl (Nat.le_of_ble_eq_true rfl) (by rw [List.append_nil]; exact Nat.le_trans (vcat _) (by decide)) (by decide) h1 (fun r2 M2' h2 => ?_)
  obtain ⟨x, rfl, rfl, hE⟩ := h2
  exact LJ.ic_eq C (x := x) (tgt := 1575) dL_240 (by decide) (kk _ _ hE)
set_option maxHeartbeats 4000000 in
set_option maxRecDepth 100000 in
theorem cs_set {k : KA} {g : GG} {n : Nat} {xs : Nat → Int32} {i : Nat} {M1 M2 : Mem} (C : LKk k n xs g) (hn : n < 1000) (hi : i + 5 < n) (hR : RelE M1 M2) (kk : ∀ M1' M2', RelE M1' M2' → LJ k g 1575 (lsL k g i) [] M1' M2') : LJ k g 245 (lsL k g i) [] M1 M2 := by
  refine LJ.aload C dL_245 rfl (i := 1) rfl ?_
  refine LJ.arg C (i := i) (j := 1) (a := i + 1) rfl rfl dA_246 (by omega) hn rfl ?_
  refine LJ.arg C (i := i) (j := 2) (a := i + 2) rfl rfl dA_251 (by omega) hn rfl ?_
  refine LJ.c1 C (z := mX9_set) (d := 0 + 2) (As := [.int (xs (i + 1)), .int (xs (i + 2))]) (st := []) dL_256 mlRL_18 okX9_set rfl npX9_set rfl rfl rfl (Nat.le_of_ble_eq_true rfl) (Nat.zero_le _) (by decide) (s_set (d := 0) M1 M2 hR) (fun r1 M1' h1 => ?_)
  refine LJ.aload C dL_259 rfl (i := 2) rfl ?_
  refine LJ.arg C (i := i) (j := 1) (a := i + 1) rfl rfl dA_260 (by omega) hn rfl ?_
  refine LJ.arg C (i := i) (j := 2) (a := i + 2) rfl rfl dA_265 (by omega) hn rfl ?_
  refine LJ.c2 C (z := mX10_set) (d := 0 + 2) (As := [.int (xs (i + 1)), .int (xs (i + 2))]) (st := (r1.map (cvv g.2.2.1)).toList ++ []) dL_270 mlRL_21 okX10_set rfl npX10_set rfl rfl rfl (Nat.le_of_ble_eq_true rfl) (by rw [List.append_nil]; exact Nat.le_trans (vcat _) (by decide)) (by decide) h1 (fun r2 M2' h2 => ?_)
  obtain ⟨x, rfl, rfl, hE⟩ := h2
  exact LJ.ic_eq C (x := x) (tgt := 1575) dL_273 (by decide) (kk _ _ hE)
set_option maxHeartbeats 4000000 in
set_option maxRecDepth 100000 in
theorem cs_bell {k : KA} {g : GG} {n : Nat} {xs : Nat → Int32} {i : Nat} {M1 M2 : Mem} (C : LKk k n xs g) (hn : n < 1000) (hi : i + 5 < n) (hR : RelE M1 M2) (kk : ∀ M1' M2', RelE M1' M2' → LJ k g 1575 (lsL k g i) [] M1' M2') : LJ k g 278 (lsL k g i) [] M1 M2 := by
  refine LJ.aload C dL_278 rfl (i := 1) rfl ?_
  refine LJ.arg C (i := i) (j := 1) (a := i + 1) rfl rfl dA_279 (by omega) hn rfl ?_
  refine LJ.arg C (i := i) (j := 2) (a := i + 2) rfl rfl dA_284 (by omega) hn rfl ?_
  refine LJ.arg C (i := i) (j := 3) (a := i + 3) rfl rfl dA_289 (by omega) hn rfl ?_
  refine LJ.c1 C (z := mX9_bell) (d := 0 + 2) (As := [.int (xs (i + 1)), .int (xs (i + 2)), .int (xs (i + 3))]) (st := []) dL_294 mlRL_22 okX9_bell rfl npX9_bell rfl rfl rfl (Nat.le_of_ble_eq_true rfl) (Nat.zero_le _) (by decide) (s_bell (d := 0) M1 M2 hR) (fun r1 M1' h1 => ?_)
  refine LJ.aload C dL_297 rfl (i := 2) rfl ?_
  refine LJ.arg C (i := i) (j := 1) (a := i + 1) rfl rfl dA_298 (by omega) hn rfl ?_
  refine LJ.arg C (i := i) (j := 2) (a := i + 2) rfl rfl dA_303 (by omega) hn rfl ?_
  refine LJ.arg C (i := i) (j := 3) (a := i + 3) rfl rfl dA_308 (by omega) hn rfl ?_
  refine LJ.c2 C (z := mX10_bell) (d := 0 + 2) (As := [.int (xs (i + 1)), .int (xs (i + 2)), .int (xs (i + 3))]) (st := (r1.map (cvv g.2.2.1)).toList ++ []) dL_313 mlRL_26 okX10_bell rfl npX10_bell rfl rfl rfl (Nat.le_of_ble_eq_true rfl) (by rw [List.append_nil]; exact Nat.le_trans (vcat _) (by decide)) (by decide) h1 (fun r2 M2' h2 => ?_)
  obtain ⟨x, rfl, rfl, hE⟩ := h2
  exact LJ.ic_eq C (x := x) (tgt := 1575) dL_316 (by decide) (kk _ _ hE)
set_option maxHeartbeats 4000000 in
set_option maxRecDepth 100000 in
theorem cs_ofBell {k : KA} {g : GG} {n : Nat} {xs : Nat → Int32} {i : Nat} {M1 M2 : Mem} (C : LKk k n xs g) (hn : n < 1000) (hi : i + 5 < n) (hR : RelE M1 M2) (kk : ∀ M1' M2', RelE M1' M2' → LJ k g 1575 (lsL k g i) [] M1' M2') : LJ k g 321 (lsL k g i) [] M1 M2 := by
  refine LJ.aload C dL_321 rfl (i := 1) rfl ?_
  refine LJ.arg C (i := i) (j := 1) (a := i + 1) rfl rfl dA_322 (by omega) hn rfl ?_
  refine LJ.arg C (i := i) (j := 2) (a := i + 2) rfl rfl dA_327 (by omega) hn rfl ?_
  refine LJ.c1 C (z := mX9_ofBell) (d := 0 + 2) (As := [.int (xs (i + 1)), .int (xs (i + 2))]) (st := []) dL_332 mlRL_27 okX9_ofBell rfl npX9_ofBell rfl rfl rfl (Nat.le_of_ble_eq_true rfl) (Nat.zero_le _) (by decide) (s_ofBell (d := 0) M1 M2 hR) (fun r1 M1' h1 => ?_)
  refine LJ.aload C dL_335 rfl (i := 2) rfl ?_
  refine LJ.arg C (i := i) (j := 1) (a := i + 1) rfl rfl dA_336 (by omega) hn rfl ?_
  refine LJ.arg C (i := i) (j := 2) (a := i + 2) rfl rfl dA_341 (by omega) hn rfl ?_
  refine LJ.c2 C (z := mX10_ofBell) (d := 0 + 2) (As := [.int (xs (i + 1)), .int (xs (i + 2))]) (st := (r1.map (cvv g.2.2.1)).toList ++ []) dL_346 mlRL_30 okX10_ofBell rfl npX10_ofBell rfl rfl rfl (Nat.le_of_ble_eq_true rfl) (by rw [List.append_nil]; exact Nat.le_trans (vcat _) (by decide)) (by decide) h1 (fun r2 M2' h2 => ?_)
  obtain ⟨x, rfl, rfl, hE⟩ := h2
  exact LJ.ic_eq C (x := x) (tgt := 1575) dL_349 (by decide) (kk _ _ hE)
set_option maxHeartbeats 4000000 in
set_option maxRecDepth 100000 in
theorem cs_change {k : KA} {g : GG} {n : Nat} {xs : Nat → Int32} {i : Nat} {M1 M2 : Mem} (C : LKk k n xs g) (hn : n < 1000) (hi : i + 5 < n) (hR : RelE M1 M2) (kk : ∀ M1' M2', RelE M1' M2' → LJ k g 1575 (lsL k g i) [] M1' M2') : LJ k g 354 (lsL k g i) [] M1 M2 := by
  refine LJ.aload C dL_354 rfl (i := 1) rfl ?_
  refine LJ.arg C (i := i) (j := 1) (a := i + 1) rfl rfl dA_355 (by omega) hn rfl ?_
  refine LJ.arg C (i := i) (j := 2) (a := i + 2) rfl rfl dA_360 (by omega) hn rfl ?_
  refine LJ.arg C (i := i) (j := 3) (a := i + 3) rfl rfl dA_365 (by omega) hn rfl ?_
  refine LJ.c1 C (z := mX9_change) (d := 0 + 2) (As := [.int (xs (i + 1)), .int (xs (i + 2)), .int (xs (i + 3))]) (st := []) dL_370 mlRL_31 okX9_change rfl npX9_change rfl rfl rfl (Nat.le_of_ble_eq_true rfl) (Nat.zero_le _) (by decide) (s_change (d := 0) M1 M2 hR) (fun r1 M1' h1 => ?_)
  refine LJ.aload C dL_373 rfl (i := 2) rfl ?_
  refine LJ.arg C (i := i) (j := 1) (a := i + 1) rfl rfl dA_374 (by omega) hn rfl ?_
  refine LJ.arg C (i := i) (j := 2) (a := i + 2) rfl rfl dA_379 (by omega) hn rfl ?_
  refine LJ.arg C (i := i) (j := 3) (a := i + 3) rfl rfl dA_384 (by omega) hn rfl ?_
  refine LJ.c2 C (z := mX10_change) (d := 0 + 2) (As := [.int (xs (i + 1)), .int (xs (i + 2)), .int (xs (i + 3))]) (st := (r1.map (cvv g.2.2.1)).toList ++ []) dL_389 mlRL_34 okX10_change rfl npX10_change rfl rfl rfl (Nat.le_of_ble_eq_true rfl) (by rw [List.append_nil]; exact Nat.le_trans (vcat _) (by decide)) (by decide) h1 (fun r2 M2' h2 => ?_)
  obtain ⟨x, rfl, rfl, hE⟩ := h2
  exact LJ.ic_eq C (x := x) (tgt := 1575) dL_392 (by decide) (kk _ _ hE)
set_option maxHeartbeats 4000000 in
set_option maxRecDepth 100000 in
theorem cs_as {k : KA} {g : GG} {n : Nat} {xs : Nat → Int32} {i : Nat} {M1 M2 : Mem} (C : LKk k n xs g) (hn : n < 1000) (hi : i + 5 < n) (hR : RelE M1 M2) (kk : ∀ M1' M2', RelE M1' M2' → LJ k g 1575 (lsL k g i) [] M1' M2') : LJ k g 397 (lsL k g i) [] M1 M2 := by
  refine LJ.aload C dL_397 rfl (i := 1) rfl ?_
  refine LJ.arg C (i := i) (j := 1) (a := i + 1) rfl rfl dA_398 (by omega) hn rfl ?_
  refine LJ.arg C (i := i) (j := 2) (a := i + 2) rfl rfl dA_403 (by omega) hn rfl ?_
  refine LJ.c1 C (z := mX9_as) (d := 0 + 2) (As := [.int (xs (i + 1)), .int (xs (i + 2))]) (st := []) dL_408 mlRL_35 okX9_as rfl npX9_as rfl rfl rfl (Nat.le_of_ble_eq_true rfl) (Nat.zero_le _) (by decide) (s_as (d := 0) M1 M2 hR) (fun r1 M1' h1 => ?_)
  refine LJ.aload C dL_411 rfl (i := 2) rfl ?_
  refine LJ.arg C (i := i) (j := 1) (a := i + 1) rfl rfl dA_412 (by omega) hn rfl ?_
  refine LJ.arg C (i := i) (j := 2) (a := i + 2) rfl rfl dA_417 (by omega) hn rfl ?_
  refine LJ.c2 C (z := mX10_as) (d := 0 + 2) (As := [.int (xs (i + 1)), .int (xs (i + 2))]) (st := (r1.map (cvv g.2.2.1)).toList ++ []) dL_422 mlRL_38 okX10_as rfl npX10_as rfl rfl rfl (Nat.le_of_ble_eq_true rfl) (by rw [List.append_nil]; exact Nat.le_trans (vcat _) (by decide)) (by decide) h1 (fun r2 M2' h2 => ?_)
  obtain ⟨x, rfl, rfl, hE⟩ := h2
  exact LJ.ic_eq C (x := x) (tgt := 1575) dL_425 (by decide) (kk _ _ hE)
set_option maxHeartbeats 4000000 in
set_option maxRecDepth 100000 in
theorem cs_strikes {k : KA} {g : GG} {n : Nat} {xs : Nat → Int32} {i : Nat} {M1 M2 : Mem} (C : LKk k n xs g) (hn : n < 1000) (hi : i + 5 < n) (hR : RelE M1 M2) (kk : ∀ M1' M2', RelE M1' M2' → LJ k g 1575 (lsL k g i) [] M1' M2') : LJ k g 430 (lsL k g i) [] M1 M2 := by
  refine LJ.aload C dL_430 rfl (i := 1) rfl ?_
  refine LJ.arg C (i := i) (j := 1) (a := i + 1) rfl rfl dA_431 (by omega) hn rfl ?_
  refine LJ.arg C (i := i) (j := 2) (a := i + 2) rfl rfl dA_436 (by omega) hn rfl ?_
  refine LJ.c1 C (z := mX9_strikes) (d := 0 + 2) (As := [.int (xs (i + 1)), .int (xs (i + 2))]) (st := []) dL_441 mlRL_39 okX9_strikes rfl npX9_strikes rfl rfl rfl (Nat.le_of_ble_eq_true rfl) (Nat.zero_le _) (by decide) (s_strikes (d := 0) M1 M2 hR) (fun r1 M1' h1 => ?_)
  refine LJ.aload C dL_444 rfl (i := 2) rfl ?_
  refine LJ.arg C (i := i) (j := 1) (a := i + 1) rfl rfl dA_445 (by omega) hn rfl ?_
  refine LJ.arg C (i := i) (j := 2) (a := i + 2) rfl rfl dA_450 (by omega) hn rfl ?_
  refine LJ.c2 C (z := mX10_strikes) (d := 0 + 2) (As := [.int (xs (i + 1)), .int (xs (i + 2))]) (st := (r1.map (cvv g.2.2.1)).toList ++ []) dL_455 mlRL_42 okX10_strikes rfl npX10_strikes rfl rfl rfl (Nat.le_of_ble_eq_true rfl) (by rw [List.append_nil]; exact Nat.le_trans (vcat _) (by decide)) (by decide) h1 (fun r2 M2' h2 => ?_)
  obtain ⟨x, rfl, rfl, hE⟩ := h2
  exact LJ.ic_eq C (x := x) (tgt := 1575) dL_458 (by decide) (kk _ _ hE)
set_option maxHeartbeats 4000000 in
set_option maxRecDepth 100000 in
theorem cs_ear {k : KA} {g : GG} {n : Nat} {xs : Nat → Int32} {i : Nat} {M1 M2 : Mem} (C : LKk k n xs g) (hn : n < 1000) (hi : i + 5 < n) (hR : RelE M1 M2) (kk : ∀ M1' M2', RelE M1' M2' → LJ k g 1575 (lsL k g i) [] M1' M2') : LJ k g 463 (lsL k g i) [] M1 M2 := by
  refine LJ.aload C dL_463 rfl (i := 1) rfl ?_
  refine LJ.arg C (i := i) (j := 1) (a := i + 1) rfl rfl dA_464 (by omega) hn rfl ?_
  refine LJ.c1 C (z := mX9_ear) (d := 0 + 2) (As := [.int (xs (i + 1))]) (st := []) dL_469 mlRL_43 okX9_ear rfl npX9_ear rfl rfl rfl (Nat.le_of_ble_eq_true rfl) (Nat.zero_le _) (by decide) (s_ear (d := 0) M1 M2 hR) (fun r1 M1' h1 => ?_)
  refine LJ.aload C dL_472 rfl (i := 2) rfl ?_
  refine LJ.arg C (i := i) (j := 1) (a := i + 1) rfl rfl dA_473 (by omega) hn rfl ?_
  refine LJ.c2 C (z := mX10_ear) (d := 0 + 2) (As := [.int (xs (i + 1))]) (st := (r1.map (cvv g.2.2.1)).toList ++ []) dL_478 mlRL_47 okX10_ear rfl npX10_ear rfl rfl rfl (Nat.le_of_ble_eq_true rfl) (by rw [List.append_nil]; exact Nat.le_trans (vcat _) (by decide)) (by decide) h1 (fun r2 M2' h2 => ?_)
  obtain ⟨x, rfl, rfl, hE⟩ := h2
  exact LJ.ic_eq C (x := x) (tgt := 1575) dL_481 (by decide) (kk _ _ hE)
set_option maxHeartbeats 4000000 in
set_option maxRecDepth 100000 in
theorem cs_ears {k : KA} {g : GG} {n : Nat} {xs : Nat → Int32} {i : Nat} {M1 M2 : Mem} (C : LKk k n xs g) (hn : n < 1000) (hi : i + 5 < n) (hR : RelE M1 M2) (kk : ∀ M1' M2', RelE M1' M2' → LJ k g 1575 (lsL k g i) [] M1' M2') : LJ k g 486 (lsL k g i) [] M1 M2 := by
  refine LJ.aload C dL_486 rfl (i := 1) rfl ?_
  refine LJ.arg C (i := i) (j := 1) (a := i + 1) rfl rfl dA_487 (by omega) hn rfl ?_
  refine LJ.c1 C (z := mX9_ears) (d := 0 + 2) (As := [.int (xs (i + 1))]) (st := []) dL_492 mlRL_48 okX9_ears rfl npX9_ears rfl rfl rfl (Nat.le_of_ble_eq_true rfl) (Nat.zero_le _) (by decide) (s_ears (d := 0) M1 M2 hR) (fun r1 M1' h1 => ?_)
  refine LJ.aload C dL_495 rfl (i := 2) rfl ?_
  refine LJ.arg C (i := i) (j := 1) (a := i + 1) rfl rfl dA_496 (by omega) hn rfl ?_
  refine LJ.c2 C (z := mX10_ears) (d := 0 + 2) (As := [.int (xs (i + 1))]) (st := (r1.map (cvv g.2.2.1)).toList ++ []) dL_501 mlRL_51 okX10_ears rfl npX10_ears rfl rfl rfl (Nat.le_of_ble_eq_true rfl) (by rw [List.append_nil]; exact Nat.le_trans (vcat _) (by decide)) (by decide) h1 (fun r2 M2' h2 => ?_)
  obtain ⟨x, rfl, rfl, hE⟩ := h2
  exact LJ.ic_eq C (x := x) (tgt := 1575) dL_504 (by decide) (kk _ _ hE)
set_option maxHeartbeats 4000000 in
set_option maxRecDepth 100000 in
theorem cs_way {k : KA} {g : GG} {n : Nat} {xs : Nat → Int32} {i : Nat} {M1 M2 : Mem} (C : LKk k n xs g) (hn : n < 1000) (hi : i + 5 < n) (hR : RelE M1 M2) (kk : ∀ M1' M2', RelE M1' M2' → LJ k g 1575 (lsL k g i) [] M1' M2') : LJ k g 509 (lsL k g i) [] M1 M2 := by
  refine LJ.aload C dL_509 rfl (i := 1) rfl ?_
  refine LJ.arg C (i := i) (j := 1) (a := i + 1) rfl rfl dA_510 (by omega) hn rfl ?_
  refine LJ.arg C (i := i) (j := 2) (a := i + 2) rfl rfl dA_515 (by omega) hn rfl ?_
  refine LJ.arg C (i := i) (j := 3) (a := i + 3) rfl rfl dA_520 (by omega) hn rfl ?_
  refine LJ.c1 C (z := mX9_way) (d := 0 + 5) (As := [.int (xs (i + 1)), .int (xs (i + 2)), .int (xs (i + 3))]) (st := []) dL_525 mlRL_52 okX9_way rfl npX9_way rfl rfl rfl (Nat.le_of_ble_eq_true rfl) (Nat.zero_le _) (by decide) (s_way (d := 0) M1 M2 hR) (fun r1 M1' h1 => ?_)
  refine LJ.aload C dL_528 rfl (i := 2) rfl ?_
  refine LJ.arg C (i := i) (j := 1) (a := i + 1) rfl rfl dA_529 (by omega) hn rfl ?_
  refine LJ.arg C (i := i) (j := 2) (a := i + 2) rfl rfl dA_534 (by omega) hn rfl ?_
  refine LJ.arg C (i := i) (j := 3) (a := i + 3) rfl rfl dA_539 (by omega) hn rfl ?_
  refine LJ.c2 C (z := mX10_way) (d := 0 + 63) (As := [.int (xs (i + 1)), .int (xs (i + 2)), .int (xs (i + 3))]) (st := (r1.map (cvv g.2.2.1)).toList ++ []) dL_544 mlRL_55 okX10_way rfl npX10_way rfl rfl rfl (Nat.le_of_ble_eq_true rfl) (by rw [List.append_nil]; exact Nat.le_trans (vcat _) (by decide)) (by decide) h1 (fun r2 M2' h2 => ?_)
  obtain ⟨x, rfl, rfl, hE⟩ := h2
  exact LJ.ic_eq C (x := x) (tgt := 1575) dL_547 (by decide) (kk _ _ hE)
set_option maxHeartbeats 4000000 in
set_option maxRecDepth 100000 in
theorem cs_heard {k : KA} {g : GG} {n : Nat} {xs : Nat → Int32} {i : Nat} {M1 M2 : Mem} (C : LKk k n xs g) (hn : n < 1000) (hi : i + 5 < n) (hR : RelE M1 M2) (kk : ∀ M1' M2', RelE M1' M2' → LJ k g 1575 (lsL k g i) [] M1' M2') : LJ k g 552 (lsL k g i) [] M1 M2 := by
  refine LJ.aload C dL_552 rfl (i := 1) rfl ?_
  refine LJ.arg C (i := i) (j := 1) (a := i + 1) rfl rfl dA_553 (by omega) hn rfl ?_
  refine LJ.arg C (i := i) (j := 2) (a := i + 2) rfl rfl dA_558 (by omega) hn rfl ?_
  refine LJ.c1 C (z := mX9_heard) (d := 0 + 5) (As := [.int (xs (i + 1)), .int (xs (i + 2))]) (st := []) dL_563 mlRL_56 okX9_heard rfl npX9_heard rfl rfl rfl (Nat.le_of_ble_eq_true rfl) (Nat.zero_le _) (by decide) (s_heard (d := 0) M1 M2 hR) (fun r1 M1' h1 => ?_)
  refine LJ.aload C dL_566 rfl (i := 2) rfl ?_
  refine LJ.arg C (i := i) (j := 1) (a := i + 1) rfl rfl dA_567 (by omega) hn rfl ?_
  refine LJ.arg C (i := i) (j := 2) (a := i + 2) rfl rfl dA_572 (by omega) hn rfl ?_
  refine LJ.c2 C (z := mX10_heard) (d := 0 + 64) (As := [.int (xs (i + 1)), .int (xs (i + 2))]) (st := (r1.map (cvv g.2.2.1)).toList ++ []) dL_577 mlRL_59 okX10_heard rfl npX10_heard rfl rfl rfl (Nat.le_of_ble_eq_true rfl) (by rw [List.append_nil]; exact Nat.le_trans (vcat _) (by decide)) (by decide) h1 (fun r2 M2' h2 => ?_)
  obtain ⟨x, rfl, rfl, hE⟩ := h2
  exact LJ.ic_eq C (x := x) (tgt := 1575) dL_580 (by decide) (kk _ _ hE)
set_option maxHeartbeats 4000000 in
set_option maxRecDepth 100000 in
theorem cs_feed {k : KA} {g : GG} {n : Nat} {xs : Nat → Int32} {i : Nat} {M1 M2 : Mem} (C : LKk k n xs g) (hn : n < 1000) (hi : i + 5 < n) (hR : RelE M1 M2) (kk : ∀ M1' M2', RelE M1' M2' → LJ k g 1575 (lsL k g i) [] M1' M2') : LJ k g 585 (lsL k g i) [] M1 M2 := by
  refine LJ.aload C dL_585 rfl (i := 1) rfl ?_
  refine LJ.arg C (i := i) (j := 1) (a := i + 1) rfl rfl dA_586 (by omega) hn rfl ?_
  refine LJ.i2l C dL_591 ?_
  refine LJ.bipush C (v := 32) dL_592 (by decide) ?_
  refine LJ.lshl C dL_594 ?_
  refine LJ.arg C (i := i) (j := 2) (a := i + 2) rfl rfl dA_595 (by omega) hn rfl ?_
  refine LJ.i2l C dL_600 ?_
  refine LJ.ldc2 C dL_601 clRL_60 ?_
  refine LJ.land C dL_604 ?_
  refine LJ.lor C dL_605 ?_
  refine LJ.arg C (i := i) (j := 3) (a := i + 3) rfl rfl dA_606 (by omega) hn rfl ?_
  refine LJ.c1 C (z := mX9_feed) (d := 0 + 2) (As := [.long (((xs (i + 1)).toInt64 <<< ((32 : Int32).toInt64 &&& 63)) ||| ((xs (i + 2)).toInt64 &&& 4294967295)), .int (xs (i + 3))]) (st := []) dL_611 mlRL_62 okX9_feed rfl npX9_feed rfl rfl rfl (Nat.le_of_ble_eq_true rfl) (Nat.zero_le _) (by decide) (s_feed (d := 0) M1 M2 hR) (fun r1 M1' h1 => ?_)
  refine LJ.aload C dL_614 rfl (i := 2) rfl ?_
  refine LJ.arg C (i := i) (j := 1) (a := i + 1) rfl rfl dA_615 (by omega) hn rfl ?_
  refine LJ.i2l C dL_620 ?_
  refine LJ.bipush C (v := 32) dL_621 (by decide) ?_
  refine LJ.lshl C dL_623 ?_
  refine LJ.arg C (i := i) (j := 2) (a := i + 2) rfl rfl dA_624 (by omega) hn rfl ?_
  refine LJ.i2l C dL_629 ?_
  refine LJ.ldc2 C dL_630 clRL_60 ?_
  refine LJ.land C dL_633 ?_
  refine LJ.lor C dL_634 ?_
  refine LJ.arg C (i := i) (j := 3) (a := i + 3) rfl rfl dA_635 (by omega) hn rfl ?_
  refine LJ.c2 C (z := mX10_feed) (d := 0 + 2) (As := [.long (((xs (i + 1)).toInt64 <<< ((32 : Int32).toInt64 &&& 63)) ||| ((xs (i + 2)).toInt64 &&& 4294967295)), .int (xs (i + 3))]) (st := (r1.map (cvv g.2.2.1)).toList ++ []) dL_640 mlRL_66 okX10_feed rfl npX10_feed rfl rfl rfl (Nat.le_of_ble_eq_true rfl) (by rw [List.append_nil]; exact Nat.le_trans (vcat _) (by decide)) (by decide) h1 (fun r2 M2' h2 => ?_)
  obtain ⟨x, rfl, rfl, hE⟩ := h2
  exact LJ.ic_eq C (x := x) (tgt := 1575) dL_643 (by decide) (kk _ _ hE)
set_option maxHeartbeats 4000000 in
set_option maxRecDepth 100000 in
theorem cs_text {k : KA} {g : GG} {n : Nat} {xs : Nat → Int32} {i : Nat} {M1 M2 : Mem} (C : LKk k n xs g) (hn : n < 1000) (hi : i + 5 < n) (hR : RelE M1 M2) (kk : ∀ M1' M2', RelE M1' M2' → LJ k g 1575 (lsL k g i) [] M1' M2') : LJ k g 648 (lsL k g i) [] M1 M2 := by
  refine LJ.aload C dL_648 rfl (i := 1) rfl ?_
  refine LJ.arg C (i := i) (j := 1) (a := i + 1) rfl rfl dA_649 (by omega) hn rfl ?_
  refine LJ.c1 C (z := mX9_text) (d := 0 + 62) (As := [.int (xs (i + 1))]) (st := []) dL_654 mlRL_67 okX9_text rfl npX9_text rfl rfl rfl (Nat.le_of_ble_eq_true rfl) (Nat.zero_le _) (by decide) (s_text (d := 0) M1 M2 hR) (fun r1 M1' h1 => ?_)
  refine LJ.aload C dL_657 rfl (i := 2) rfl ?_
  refine LJ.arg C (i := i) (j := 1) (a := i + 1) rfl rfl dA_658 (by omega) hn rfl ?_
  refine LJ.c2 C (z := mX10_text) (d := 0 + 61) (As := [.int (xs (i + 1))]) (st := (r1.map (cvv g.2.2.1)).toList ++ []) dL_663 mlRL_70 okX10_text rfl npX10_text rfl rfl rfl (Nat.le_of_ble_eq_true rfl) (by rw [List.append_nil]; exact Nat.le_trans (vcat _) (by decide)) (by decide) h1 (fun r2 M2' h2 => ?_)
  obtain ⟨x, rfl, rfl, hE⟩ := h2
  exact LJ.ic_eq C (x := x) (tgt := 1575) dL_666 (by decide) (kk _ _ hE)
set_option maxHeartbeats 4000000 in
set_option maxRecDepth 100000 in
theorem cs_law {k : KA} {g : GG} {n : Nat} {xs : Nat → Int32} {i : Nat} {M1 M2 : Mem} (C : LKk k n xs g) (hn : n < 1000) (hi : i + 5 < n) (hR : RelE M1 M2) (kk : ∀ M1' M2', RelE M1' M2' → LJ k g 1575 (lsL k g i) [] M1' M2') : LJ k g 671 (lsL k g i) [] M1 M2 := by
  refine LJ.aload C dL_671 rfl (i := 1) rfl ?_
  refine LJ.arg C (i := i) (j := 1) (a := i + 1) rfl rfl dA_672 (by omega) hn rfl ?_
  refine LJ.arg C (i := i) (j := 2) (a := i + 2) rfl rfl dA_677 (by omega) hn rfl ?_
  refine LJ.arg C (i := i) (j := 3) (a := i + 3) rfl rfl dA_682 (by omega) hn rfl ?_
  refine LJ.arg C (i := i) (j := 4) (a := i + 4) rfl rfl dA_687 (by omega) hn rfl ?_
  refine LJ.arg C (i := i) (j := 5) (a := i + 5) rfl rfl dA_692 (by omega) hn rfl ?_
  refine LJ.c1 C (z := mX9_law) (d := 0 + 3) (As := [.int (xs (i + 1)), .int (xs (i + 2)), .int (xs (i + 3)), .int (xs (i + 4)), .int (xs (i + 5))]) (st := []) dL_697 mlRL_71 okX9_law rfl npX9_law rfl rfl rfl (Nat.le_of_ble_eq_true rfl) (Nat.zero_le _) (by decide) (s_law (d := 0) M1 M2 hR) (fun r1 M1' h1 => ?_)
  refine LJ.aload C dL_700 rfl (i := 2) rfl ?_
  refine LJ.arg C (i := i) (j := 1) (a := i + 1) rfl rfl dA_701 (by omega) hn rfl ?_
  refine LJ.arg C (i := i) (j := 2) (a := i + 2) rfl rfl dA_706 (by omega) hn rfl ?_
  refine LJ.arg C (i := i) (j := 3) (a := i + 3) rfl rfl dA_711 (by omega) hn rfl ?_
  refine LJ.arg C (i := i) (j := 4) (a := i + 4) rfl rfl dA_716 (by omega) hn rfl ?_
  refine LJ.arg C (i := i) (j := 5) (a := i + 5) rfl rfl dA_721 (by omega) hn rfl ?_
  refine LJ.c2 C (z := mX10_law) (d := 0 + 62) (As := [.int (xs (i + 1)), .int (xs (i + 2)), .int (xs (i + 3)), .int (xs (i + 4)), .int (xs (i + 5))]) (st := (r1.map (cvv g.2.2.1)).toList ++ []) dL_726 mlRL_75 okX10_law rfl npX10_law rfl rfl rfl (Nat.le_of_ble_eq_true rfl) (by rw [List.append_nil]; exact Nat.le_trans (vcat _) (by decide)) (by decide) h1 (fun r2 M2' h2 => ?_)
  obtain ⟨x, rfl, rfl, hE⟩ := h2
  exact LJ.ic_eq C (x := x) (tgt := 1575) dL_729 (by decide) (kk _ _ hE)
set_option maxHeartbeats 4000000 in
set_option maxRecDepth 100000 in
theorem cs_clashes {k : KA} {g : GG} {n : Nat} {xs : Nat → Int32} {i : Nat} {M1 M2 : Mem} (C : LKk k n xs g) (hn : n < 1000) (hi : i + 5 < n) (hR : RelE M1 M2) (kk : ∀ M1' M2', RelE M1' M2' → LJ k g 1575 (lsL k g i) [] M1' M2') : LJ k g 734 (lsL k g i) [] M1 M2 := by
  refine LJ.aload C dL_734 rfl (i := 1) rfl ?_
  refine LJ.arg C (i := i) (j := 1) (a := i + 1) rfl rfl dA_735 (by omega) hn rfl ?_
  refine LJ.arg C (i := i) (j := 2) (a := i + 2) rfl rfl dA_740 (by omega) hn rfl ?_
  refine LJ.c1 C (z := mX9_clashes) (d := 0 + 5) (As := [.int (xs (i + 1)), .int (xs (i + 2))]) (st := []) dL_745 mlRL_76 okX9_clashes rfl npX9_clashes rfl rfl rfl (Nat.le_of_ble_eq_true rfl) (Nat.zero_le _) (by decide) (s_clashes (d := 0) M1 M2 hR) (fun r1 M1' h1 => ?_)
  refine LJ.aload C dL_748 rfl (i := 2) rfl ?_
  refine LJ.arg C (i := i) (j := 1) (a := i + 1) rfl rfl dA_749 (by omega) hn rfl ?_
  refine LJ.arg C (i := i) (j := 2) (a := i + 2) rfl rfl dA_754 (by omega) hn rfl ?_
  refine LJ.c2 C (z := mX10_clashes) (d := 0 + 67) (As := [.int (xs (i + 1)), .int (xs (i + 2))]) (st := (r1.map (cvv g.2.2.1)).toList ++ []) dL_759 mlRL_79 okX10_clashes rfl npX10_clashes rfl rfl rfl (Nat.le_of_ble_eq_true rfl) (by rw [List.append_nil]; exact Nat.le_trans (vcat _) (by decide)) (by decide) h1 (fun r2 M2' h2 => ?_)
  obtain ⟨x, rfl, rfl, hE⟩ := h2
  exact LJ.ic_eq C (x := x) (tgt := 1575) dL_762 (by decide) (kk _ _ hE)
set_option maxHeartbeats 4000000 in
set_option maxRecDepth 100000 in
theorem cs_clash {k : KA} {g : GG} {n : Nat} {xs : Nat → Int32} {i : Nat} {M1 M2 : Mem} (C : LKk k n xs g) (hn : n < 1000) (hi : i + 5 < n) (hR : RelE M1 M2) (kk : ∀ M1' M2', RelE M1' M2' → LJ k g 1575 (lsL k g i) [] M1' M2') : LJ k g 767 (lsL k g i) [] M1 M2 := by
  refine LJ.aload C dL_767 rfl (i := 1) rfl ?_
  refine LJ.arg C (i := i) (j := 1) (a := i + 1) rfl rfl dA_768 (by omega) hn rfl ?_
  refine LJ.arg C (i := i) (j := 2) (a := i + 2) rfl rfl dA_773 (by omega) hn rfl ?_
  refine LJ.c1 C (z := mX9_clash) (d := 0 + 5) (As := [.int (xs (i + 1)), .int (xs (i + 2))]) (st := []) dL_778 mlRL_80 okX9_clash rfl npX9_clash rfl rfl rfl (Nat.le_of_ble_eq_true rfl) (Nat.zero_le _) (by decide) (s_clash (d := 0) M1 M2 hR) (fun r1 M1' h1 => ?_)
  refine LJ.aload C dL_781 rfl (i := 2) rfl ?_
  refine LJ.arg C (i := i) (j := 1) (a := i + 1) rfl rfl dA_782 (by omega) hn rfl ?_
  refine LJ.arg C (i := i) (j := 2) (a := i + 2) rfl rfl dA_787 (by omega) hn rfl ?_
  refine LJ.c2 C (z := mX10_clash) (d := 0 + 67) (As := [.int (xs (i + 1)), .int (xs (i + 2))]) (st := (r1.map (cvv g.2.2.1)).toList ++ []) dL_792 mlRL_83 okX10_clash rfl npX10_clash rfl rfl rfl (Nat.le_of_ble_eq_true rfl) (by rw [List.append_nil]; exact Nat.le_trans (vcat _) (by decide)) (by decide) h1 (fun r2 M2' h2 => ?_)
  obtain ⟨x, rfl, rfl, hE⟩ := h2
  exact LJ.ic_eq C (x := x) (tgt := 1575) dL_795 (by decide) (kk _ _ hE)
set_option maxHeartbeats 4000000 in
set_option maxRecDepth 100000 in
theorem cs_quiet {k : KA} {g : GG} {n : Nat} {xs : Nat → Int32} {i : Nat} {M1 M2 : Mem} (C : LKk k n xs g) (hn : n < 1000) (hi : i + 5 < n) (hR : RelE M1 M2) (kk : ∀ M1' M2', RelE M1' M2' → LJ k g 1575 (lsL k g i) [] M1' M2') : LJ k g 800 (lsL k g i) [] M1 M2 := by
  refine LJ.aload C dL_800 rfl (i := 1) rfl ?_
  refine LJ.arg C (i := i) (j := 1) (a := i + 1) rfl rfl dA_801 (by omega) hn rfl ?_
  refine LJ.c1 C (z := mX9_quiet) (d := 0 + 5) (As := [.int (xs (i + 1))]) (st := []) dL_806 mlRL_84 okX9_quiet rfl npX9_quiet rfl rfl rfl (Nat.le_of_ble_eq_true rfl) (Nat.zero_le _) (by decide) (s_quiet (d := 0) M1 M2 hR) (fun r1 M1' h1 => ?_)
  refine LJ.aload C dL_809 rfl (i := 2) rfl ?_
  refine LJ.arg C (i := i) (j := 1) (a := i + 1) rfl rfl dA_810 (by omega) hn rfl ?_
  refine LJ.c2 C (z := mX10_quiet) (d := 0 + 67) (As := [.int (xs (i + 1))]) (st := (r1.map (cvv g.2.2.1)).toList ++ []) dL_815 mlRL_87 okX10_quiet rfl npX10_quiet rfl rfl rfl (Nat.le_of_ble_eq_true rfl) (by rw [List.append_nil]; exact Nat.le_trans (vcat _) (by decide)) (by decide) h1 (fun r2 M2' h2 => ?_)
  obtain ⟨x, rfl, rfl, hE⟩ := h2
  exact LJ.ic_eq C (x := x) (tgt := 1575) dL_818 (by decide) (kk _ _ hE)
set_option maxHeartbeats 4000000 in
set_option maxRecDepth 100000 in
theorem cs_apart {k : KA} {g : GG} {n : Nat} {xs : Nat → Int32} {i : Nat} {M1 M2 : Mem} (C : LKk k n xs g) (hn : n < 1000) (hi : i + 5 < n) (hR : RelE M1 M2) (kk : ∀ M1' M2', RelE M1' M2' → LJ k g 1575 (lsL k g i) [] M1' M2') : LJ k g 823 (lsL k g i) [] M1 M2 := by
  refine LJ.aload C dL_823 rfl (i := 1) rfl ?_
  refine LJ.arg C (i := i) (j := 1) (a := i + 1) rfl rfl dA_824 (by omega) hn rfl ?_
  refine LJ.arg C (i := i) (j := 2) (a := i + 2) rfl rfl dA_829 (by omega) hn rfl ?_
  refine LJ.arg C (i := i) (j := 3) (a := i + 3) rfl rfl dA_834 (by omega) hn rfl ?_
  refine LJ.c1 C (z := mX9_apart) (d := 0 + 5) (As := [.int (xs (i + 1)), .int (xs (i + 2)), .int (xs (i + 3))]) (st := []) dL_839 mlRL_88 okX9_apart rfl npX9_apart rfl rfl rfl (Nat.le_of_ble_eq_true rfl) (Nat.zero_le _) (by decide) (s_apart (d := 0) M1 M2 hR) (fun r1 M1' h1 => ?_)
  refine LJ.aload C dL_842 rfl (i := 2) rfl ?_
  refine LJ.arg C (i := i) (j := 1) (a := i + 1) rfl rfl dA_843 (by omega) hn rfl ?_
  refine LJ.arg C (i := i) (j := 2) (a := i + 2) rfl rfl dA_848 (by omega) hn rfl ?_
  refine LJ.arg C (i := i) (j := 3) (a := i + 3) rfl rfl dA_853 (by omega) hn rfl ?_
  refine LJ.c2 C (z := mX10_apart) (d := 0 + 67) (As := [.int (xs (i + 1)), .int (xs (i + 2)), .int (xs (i + 3))]) (st := (r1.map (cvv g.2.2.1)).toList ++ []) dL_858 mlRL_91 okX10_apart rfl npX10_apart rfl rfl rfl (Nat.le_of_ble_eq_true rfl) (by rw [List.append_nil]; exact Nat.le_trans (vcat _) (by decide)) (by decide) h1 (fun r2 M2' h2 => ?_)
  obtain ⟨x, rfl, rfl, hE⟩ := h2
  exact LJ.ic_eq C (x := x) (tgt := 1575) dL_861 (by decide) (kk _ _ hE)
set_option maxHeartbeats 4000000 in
set_option maxRecDepth 100000 in
theorem cs_slate {k : KA} {g : GG} {n : Nat} {xs : Nat → Int32} {i : Nat} {M1 M2 : Mem} (C : LKk k n xs g) (hn : n < 1000) (hi : i + 5 < n) (hR : RelE M1 M2) (kk : ∀ M1' M2', RelE M1' M2' → LJ k g 1575 (lsL k g i) [] M1' M2') : LJ k g 866 (lsL k g i) [] M1 M2 := by
  refine LJ.aload C dL_866 rfl (i := 1) rfl ?_
  refine LJ.arg C (i := i) (j := 1) (a := i + 1) rfl rfl dA_867 (by omega) hn rfl ?_
  refine LJ.arg C (i := i) (j := 2) (a := i + 2) rfl rfl dA_872 (by omega) hn rfl ?_
  refine LJ.arg C (i := i) (j := 3) (a := i + 3) rfl rfl dA_877 (by omega) hn rfl ?_
  refine LJ.c1 C (z := mX9_slate) (d := 0 + 6) (As := [.int (xs (i + 1)), .int (xs (i + 2)), .int (xs (i + 3))]) (st := []) dL_882 mlRL_92 okX9_slate rfl npX9_slate rfl rfl rfl (Nat.le_of_ble_eq_true rfl) (Nat.zero_le _) (by decide) (s_slate (d := 0) M1 M2 hR) (fun r1 M1' h1 => ?_)
  refine LJ.aload C dL_885 rfl (i := 2) rfl ?_
  refine LJ.arg C (i := i) (j := 1) (a := i + 1) rfl rfl dA_886 (by omega) hn rfl ?_
  refine LJ.arg C (i := i) (j := 2) (a := i + 2) rfl rfl dA_891 (by omega) hn rfl ?_
  refine LJ.arg C (i := i) (j := 3) (a := i + 3) rfl rfl dA_896 (by omega) hn rfl ?_
  refine LJ.c2 C (z := mX10_slate) (d := 0 + 67) (As := [.int (xs (i + 1)), .int (xs (i + 2)), .int (xs (i + 3))]) (st := (r1.map (cvv g.2.2.1)).toList ++ []) dL_901 mlRL_95 okX10_slate rfl npX10_slate rfl rfl rfl (Nat.le_of_ble_eq_true rfl) (by rw [List.append_nil]; exact Nat.le_trans (vcat _) (by decide)) (by decide) h1 (fun r2 M2' h2 => ?_)
  obtain ⟨x, rfl, rfl, hE⟩ := h2
  exact LJ.ic_eq C (x := x) (tgt := 1575) dL_904 (by decide) (kk _ _ hE)
set_option maxHeartbeats 4000000 in
set_option maxRecDepth 100000 in
theorem cs_least {k : KA} {g : GG} {n : Nat} {xs : Nat → Int32} {i : Nat} {M1 M2 : Mem} (C : LKk k n xs g) (hn : n < 1000) (hi : i + 5 < n) (hR : RelE M1 M2) (kk : ∀ M1' M2', RelE M1' M2' → LJ k g 1575 (lsL k g i) [] M1' M2') : LJ k g 909 (lsL k g i) [] M1 M2 := by
  refine LJ.aload C dL_909 rfl (i := 1) rfl ?_
  refine LJ.arg C (i := i) (j := 1) (a := i + 1) rfl rfl dA_910 (by omega) hn rfl ?_
  refine LJ.c1 C (z := mX9_least) (d := 0 + 6) (As := [.int (xs (i + 1))]) (st := []) dL_915 mlRL_96 okX9_least rfl npX9_least rfl rfl rfl (Nat.le_of_ble_eq_true rfl) (Nat.zero_le _) (by decide) (s_least (d := 0) M1 M2 hR) (fun r1 M1' h1 => ?_)
  refine LJ.aload C dL_918 rfl (i := 2) rfl ?_
  refine LJ.arg C (i := i) (j := 1) (a := i + 1) rfl rfl dA_919 (by omega) hn rfl ?_
  refine LJ.c2 C (z := mX10_least) (d := 0 + 67) (As := [.int (xs (i + 1))]) (st := (r1.map (cvv g.2.2.1)).toList ++ []) dL_924 mlRL_99 okX10_least rfl npX10_least rfl rfl rfl (Nat.le_of_ble_eq_true rfl) (by rw [List.append_nil]; exact Nat.le_trans (vcat _) (by decide)) (by decide) h1 (fun r2 M2' h2 => ?_)
  obtain ⟨x, rfl, rfl, hE⟩ := h2
  exact LJ.ic_eq C (x := x) (tgt := 1575) dL_927 (by decide) (kk _ _ hE)
set_option maxHeartbeats 4000000 in
set_option maxRecDepth 100000 in
theorem cs_hang {k : KA} {g : GG} {n : Nat} {xs : Nat → Int32} {i : Nat} {M1 M2 : Mem} (C : LKk k n xs g) (hn : n < 1000) (hi : i + 5 < n) (hR : RelE M1 M2) (kk : ∀ M1' M2', RelE M1' M2' → LJ k g 1575 (lsL k g i) [] M1' M2') : LJ k g 932 (lsL k g i) [] M1 M2 := by
  refine LJ.aload C dL_932 rfl (i := 1) rfl ?_
  refine LJ.arg C (i := i) (j := 1) (a := i + 1) rfl rfl dA_933 (by omega) hn rfl ?_
  refine LJ.c1 C (z := mX9_hang) (d := 0 + 6) (As := [.int (xs (i + 1))]) (st := []) dL_938 mlRL_100 okX9_hang rfl npX9_hang rfl rfl rfl (Nat.le_of_ble_eq_true rfl) (Nat.zero_le _) (by decide) (s_hang (d := 0) M1 M2 hR) (fun r1 M1' h1 => ?_)
  refine LJ.aload C dL_941 rfl (i := 2) rfl ?_
  refine LJ.arg C (i := i) (j := 1) (a := i + 1) rfl rfl dA_942 (by omega) hn rfl ?_
  refine LJ.c2 C (z := mX10_hang) (d := 0 + 67) (As := [.int (xs (i + 1))]) (st := (r1.map (cvv g.2.2.1)).toList ++ []) dL_947 mlRL_103 okX10_hang rfl npX10_hang rfl rfl rfl (Nat.le_of_ble_eq_true rfl) (by rw [List.append_nil]; exact Nat.le_trans (vcat _) (by decide)) (by decide) h1 (fun r2 M2' h2 => ?_)
  obtain ⟨x, rfl, rfl, hE⟩ := h2
  exact LJ.ic_eq C (x := x) (tgt := 1575) dL_950 (by decide) (kk _ _ hE)
set_option maxHeartbeats 4000000 in
set_option maxRecDepth 100000 in
theorem cs_silence {k : KA} {g : GG} {n : Nat} {xs : Nat → Int32} {i : Nat} {M1 M2 : Mem} (C : LKk k n xs g) (hn : n < 1000) (hi : i + 5 < n) (hR : RelE M1 M2) (kk : ∀ M1' M2', RelE M1' M2' → LJ k g 1575 (lsL k g i) [] M1' M2') : LJ k g 955 (lsL k g i) [] M1 M2 := by
  refine LJ.aload C dL_955 rfl (i := 1) rfl ?_
  refine LJ.arg C (i := i) (j := 1) (a := i + 1) rfl rfl dA_956 (by omega) hn rfl ?_
  refine LJ.arg C (i := i) (j := 2) (a := i + 2) rfl rfl dA_961 (by omega) hn rfl ?_
  refine LJ.c1 C (z := mX9_silence) (d := 0 + 5) (As := [.int (xs (i + 1)), .int (xs (i + 2))]) (st := []) dL_966 mlRL_104 okX9_silence rfl npX9_silence rfl rfl rfl (Nat.le_of_ble_eq_true rfl) (Nat.zero_le _) (by decide) (s_silence (d := 0) M1 M2 hR) (fun r1 M1' h1 => ?_)
  refine LJ.aload C dL_969 rfl (i := 2) rfl ?_
  refine LJ.arg C (i := i) (j := 1) (a := i + 1) rfl rfl dA_970 (by omega) hn rfl ?_
  refine LJ.arg C (i := i) (j := 2) (a := i + 2) rfl rfl dA_975 (by omega) hn rfl ?_
  refine LJ.c2 C (z := mX10_silence) (d := 0 + 67) (As := [.int (xs (i + 1)), .int (xs (i + 2))]) (st := (r1.map (cvv g.2.2.1)).toList ++ []) dL_980 mlRL_107 okX10_silence rfl npX10_silence rfl rfl rfl (Nat.le_of_ble_eq_true rfl) (by rw [List.append_nil]; exact Nat.le_trans (vcat _) (by decide)) (by decide) h1 (fun r2 M2' h2 => ?_)
  obtain ⟨x, rfl, rfl, hE⟩ := h2
  exact LJ.ic_eq C (x := x) (tgt := 1575) dL_983 (by decide) (kk _ _ hE)
set_option maxHeartbeats 4000000 in
set_option maxRecDepth 100000 in
theorem cs_winds {k : KA} {g : GG} {n : Nat} {xs : Nat → Int32} {i : Nat} {M1 M2 : Mem} (C : LKk k n xs g) (hn : n < 1000) (hi : i + 5 < n) (hR : RelE M1 M2) (kk : ∀ M1' M2', RelE M1' M2' → LJ k g 1575 (lsL k g i) [] M1' M2') : LJ k g 988 (lsL k g i) [] M1 M2 := by
  refine LJ.aload C dL_988 rfl (i := 1) rfl ?_
  refine LJ.arg C (i := i) (j := 1) (a := i + 1) rfl rfl dA_989 (by omega) hn rfl ?_
  refine LJ.c1 C (z := mX9_winds) (d := 0 + 5) (As := [.int (xs (i + 1))]) (st := []) dL_994 mlRL_108 okX9_winds rfl npX9_winds rfl rfl rfl (Nat.le_of_ble_eq_true rfl) (Nat.zero_le _) (by decide) (s_winds (d := 0) M1 M2 hR) (fun r1 M1' h1 => ?_)
  refine LJ.aload C dL_997 rfl (i := 2) rfl ?_
  refine LJ.arg C (i := i) (j := 1) (a := i + 1) rfl rfl dA_998 (by omega) hn rfl ?_
  refine LJ.c2 C (z := mX10_winds) (d := 0 + 67) (As := [.int (xs (i + 1))]) (st := (r1.map (cvv g.2.2.1)).toList ++ []) dL_1003 mlRL_111 okX10_winds rfl npX10_winds rfl rfl rfl (Nat.le_of_ble_eq_true rfl) (by rw [List.append_nil]; exact Nat.le_trans (vcat _) (by decide)) (by decide) h1 (fun r2 M2' h2 => ?_)
  obtain ⟨x, rfl, rfl, hE⟩ := h2
  exact LJ.ic_eq C (x := x) (tgt := 1575) dL_1006 (by decide) (kk _ _ hE)
set_option maxHeartbeats 4000000 in
set_option maxRecDepth 100000 in
theorem cs_holds {k : KA} {g : GG} {n : Nat} {xs : Nat → Int32} {i : Nat} {M1 M2 : Mem} (C : LKk k n xs g) (hn : n < 1000) (hi : i + 5 < n) (hR : RelE M1 M2) (kk : ∀ M1' M2', RelE M1' M2' → LJ k g 1575 (lsL k g i) [] M1' M2') : LJ k g 1011 (lsL k g i) [] M1 M2 := by
  refine LJ.aload C dL_1011 rfl (i := 1) rfl ?_
  refine LJ.arg C (i := i) (j := 1) (a := i + 1) rfl rfl dA_1012 (by omega) hn rfl ?_
  refine LJ.arg C (i := i) (j := 2) (a := i + 2) rfl rfl dA_1017 (by omega) hn rfl ?_
  refine LJ.arg C (i := i) (j := 3) (a := i + 3) rfl rfl dA_1022 (by omega) hn rfl ?_
  refine LJ.c1 C (z := mX9_holds) (d := 0 + 6) (As := [.int (xs (i + 1)), .int (xs (i + 2)), .int (xs (i + 3))]) (st := []) dL_1027 mlRL_112 okX9_holds rfl npX9_holds rfl rfl rfl (Nat.le_of_ble_eq_true rfl) (Nat.zero_le _) (by decide) (s_holds (d := 0) M1 M2 hR) (fun r1 M1' h1 => ?_)
  refine LJ.aload C dL_1030 rfl (i := 2) rfl ?_
  refine LJ.arg C (i := i) (j := 1) (a := i + 1) rfl rfl dA_1031 (by omega) hn rfl ?_
  refine LJ.arg C (i := i) (j := 2) (a := i + 2) rfl rfl dA_1036 (by omega) hn rfl ?_
  refine LJ.arg C (i := i) (j := 3) (a := i + 3) rfl rfl dA_1041 (by omega) hn rfl ?_
  refine LJ.c2 C (z := mX10_holds) (d := 0 + 67) (As := [.int (xs (i + 1)), .int (xs (i + 2)), .int (xs (i + 3))]) (st := (r1.map (cvv g.2.2.1)).toList ++ []) dL_1046 mlRL_115 okX10_holds rfl npX10_holds rfl rfl rfl (Nat.le_of_ble_eq_true rfl) (by rw [List.append_nil]; exact Nat.le_trans (vcat _) (by decide)) (by decide) h1 (fun r2 M2' h2 => ?_)
  obtain ⟨x, rfl, rfl, hE⟩ := h2
  exact LJ.ic_eq C (x := x) (tgt := 1575) dL_1049 (by decide) (kk _ _ hE)
set_option maxHeartbeats 4000000 in
set_option maxRecDepth 100000 in
theorem cs_chance {k : KA} {g : GG} {n : Nat} {xs : Nat → Int32} {i : Nat} {M1 M2 : Mem} (C : LKk k n xs g) (hn : n < 1000) (hi : i + 5 < n) (hR : RelE M1 M2) (kk : ∀ M1' M2', RelE M1' M2' → LJ k g 1575 (lsL k g i) [] M1' M2') : LJ k g 1054 (lsL k g i) [] M1 M2 := by
  refine LJ.aload C dL_1054 rfl (i := 1) rfl ?_
  refine LJ.arg C (i := i) (j := 1) (a := i + 1) rfl rfl dA_1055 (by omega) hn rfl ?_
  refine LJ.arg C (i := i) (j := 2) (a := i + 2) rfl rfl dA_1060 (by omega) hn rfl ?_
  refine LJ.arg C (i := i) (j := 3) (a := i + 3) rfl rfl dA_1065 (by omega) hn rfl ?_
  refine LJ.c1 C (z := mX9_chance) (d := 0 + 5) (As := [.int (xs (i + 1)), .int (xs (i + 2)), .int (xs (i + 3))]) (st := []) dL_1070 mlRL_116 okX9_chance rfl npX9_chance rfl rfl rfl (Nat.le_of_ble_eq_true rfl) (Nat.zero_le _) (by decide) (s_chance (d := 0) M1 M2 hR) (fun r1 M1' h1 => ?_)
  refine LJ.aload C dL_1073 rfl (i := 2) rfl ?_
  refine LJ.arg C (i := i) (j := 1) (a := i + 1) rfl rfl dA_1074 (by omega) hn rfl ?_
  refine LJ.arg C (i := i) (j := 2) (a := i + 2) rfl rfl dA_1079 (by omega) hn rfl ?_
  refine LJ.arg C (i := i) (j := 3) (a := i + 3) rfl rfl dA_1084 (by omega) hn rfl ?_
  refine LJ.c2 C (z := mX10_chance) (d := 0 + 67) (As := [.int (xs (i + 1)), .int (xs (i + 2)), .int (xs (i + 3))]) (st := (r1.map (cvv g.2.2.1)).toList ++ []) dL_1089 mlRL_119 okX10_chance rfl npX10_chance rfl rfl rfl (Nat.le_of_ble_eq_true rfl) (by rw [List.append_nil]; exact Nat.le_trans (vcat _) (by decide)) (by decide) h1 (fun r2 M2' h2 => ?_)
  obtain ⟨x, rfl, rfl, hE⟩ := h2
  exact LJ.ic_eq C (x := x) (tgt := 1575) dL_1092 (by decide) (kk _ _ hE)
set_option maxHeartbeats 4000000 in
set_option maxRecDepth 100000 in
theorem cs_hangs {k : KA} {g : GG} {n : Nat} {xs : Nat → Int32} {i : Nat} {M1 M2 : Mem} (C : LKk k n xs g) (hn : n < 1000) (hi : i + 5 < n) (hR : RelE M1 M2) (kk : ∀ M1' M2', RelE M1' M2' → LJ k g 1575 (lsL k g i) [] M1' M2') : LJ k g 1097 (lsL k g i) [] M1 M2 := by
  refine LJ.aload C dL_1097 rfl (i := 1) rfl ?_
  refine LJ.arg C (i := i) (j := 1) (a := i + 1) rfl rfl dA_1098 (by omega) hn rfl ?_
  refine LJ.arg C (i := i) (j := 2) (a := i + 2) rfl rfl dA_1103 (by omega) hn rfl ?_
  refine LJ.c1 C (z := mX9_hangs) (d := 0 + 5) (As := [.int (xs (i + 1)), .int (xs (i + 2))]) (st := []) dL_1108 mlRL_120 okX9_hangs rfl npX9_hangs rfl rfl rfl (Nat.le_of_ble_eq_true rfl) (Nat.zero_le _) (by decide) (s_hangs (d := 0) M1 M2 hR) (fun r1 M1' h1 => ?_)
  refine LJ.aload C dL_1111 rfl (i := 2) rfl ?_
  refine LJ.arg C (i := i) (j := 1) (a := i + 1) rfl rfl dA_1112 (by omega) hn rfl ?_
  refine LJ.arg C (i := i) (j := 2) (a := i + 2) rfl rfl dA_1117 (by omega) hn rfl ?_
  refine LJ.c2 C (z := mX10_hangs) (d := 0 + 67) (As := [.int (xs (i + 1)), .int (xs (i + 2))]) (st := (r1.map (cvv g.2.2.1)).toList ++ []) dL_1122 mlRL_123 okX10_hangs rfl npX10_hangs rfl rfl rfl (Nat.le_of_ble_eq_true rfl) (by rw [List.append_nil]; exact Nat.le_trans (vcat _) (by decide)) (by decide) h1 (fun r2 M2' h2 => ?_)
  obtain ⟨x, rfl, rfl, hE⟩ := h2
  exact LJ.ic_eq C (x := x) (tgt := 1575) dL_1125 (by decide) (kk _ _ hE)
set_option maxHeartbeats 4000000 in
set_option maxRecDepth 100000 in
theorem cs_place {k : KA} {g : GG} {n : Nat} {xs : Nat → Int32} {i : Nat} {M1 M2 : Mem} (C : LKk k n xs g) (hn : n < 1000) (hi : i + 5 < n) (hR : RelE M1 M2) (kk : ∀ M1' M2', RelE M1' M2' → LJ k g 1575 (lsL k g i) [] M1' M2') : LJ k g 1130 (lsL k g i) [] M1 M2 := by
  refine LJ.aload C dL_1130 rfl (i := 1) rfl ?_
  refine LJ.arg C (i := i) (j := 1) (a := i + 1) rfl rfl dA_1131 (by omega) hn rfl ?_
  refine LJ.arg C (i := i) (j := 2) (a := i + 2) rfl rfl dA_1136 (by omega) hn rfl ?_
  refine LJ.c1 C (z := mX9_place) (d := 0 + 5) (As := [.int (xs (i + 1)), .int (xs (i + 2))]) (st := []) dL_1141 mlRL_124 okX9_place rfl npX9_place rfl rfl rfl (Nat.le_of_ble_eq_true rfl) (Nat.zero_le _) (by decide) (s_place (d := 0) M1 M2 hR) (fun r1 M1' h1 => ?_)
  refine LJ.aload C dL_1144 rfl (i := 2) rfl ?_
  refine LJ.arg C (i := i) (j := 1) (a := i + 1) rfl rfl dA_1145 (by omega) hn rfl ?_
  refine LJ.arg C (i := i) (j := 2) (a := i + 2) rfl rfl dA_1150 (by omega) hn rfl ?_
  refine LJ.c2 C (z := mX10_place) (d := 0 + 67) (As := [.int (xs (i + 1)), .int (xs (i + 2))]) (st := (r1.map (cvv g.2.2.1)).toList ++ []) dL_1155 mlRL_127 okX10_place rfl npX10_place rfl rfl rfl (Nat.le_of_ble_eq_true rfl) (by rw [List.append_nil]; exact Nat.le_trans (vcat _) (by decide)) (by decide) h1 (fun r2 M2' h2 => ?_)
  obtain ⟨x, rfl, rfl, hE⟩ := h2
  exact LJ.ic_eq C (x := x) (tgt := 1575) dL_1158 (by decide) (kk _ _ hE)
set_option maxHeartbeats 4000000 in
set_option maxRecDepth 100000 in
theorem cs_days {k : KA} {g : GG} {n : Nat} {xs : Nat → Int32} {i : Nat} {M1 M2 : Mem} (C : LKk k n xs g) (hn : n < 1000) (hi : i + 5 < n) (hR : RelE M1 M2) (kk : ∀ M1' M2', RelE M1' M2' → LJ k g 1575 (lsL k g i) [] M1' M2') : LJ k g 1163 (lsL k g i) [] M1 M2 := by
  refine LJ.aload C dL_1163 rfl (i := 1) rfl ?_
  refine LJ.arg C (i := i) (j := 1) (a := i + 1) rfl rfl dA_1164 (by omega) hn rfl ?_
  refine LJ.c1 C (z := mX9_days) (d := 0 + 4) (As := [.int (xs (i + 1))]) (st := []) dL_1169 mlRL_128 okX9_days rfl npX9_days rfl rfl rfl (Nat.le_of_ble_eq_true rfl) (Nat.zero_le _) (by decide) (s_days (d := 0) M1 M2 hR) (fun r1 M1' h1 => ?_)
  refine LJ.aload C dL_1172 rfl (i := 2) rfl ?_
  refine LJ.arg C (i := i) (j := 1) (a := i + 1) rfl rfl dA_1173 (by omega) hn rfl ?_
  refine LJ.c2 C (z := mX10_days) (d := 0 + 63) (As := [.int (xs (i + 1))]) (st := (r1.map (cvv g.2.2.1)).toList ++ []) dL_1178 mlRL_131 okX10_days rfl npX10_days rfl rfl rfl (Nat.le_of_ble_eq_true rfl) (by rw [List.append_nil]; exact Nat.le_trans (vcat _) (by decide)) (by decide) h1 (fun r2 M2' h2 => ?_)
  obtain ⟨x, rfl, rfl, hE⟩ := h2
  exact LJ.ic_eq C (x := x) (tgt := 1575) dL_1181 (by decide) (kk _ _ hE)
set_option maxHeartbeats 4000000 in
set_option maxRecDepth 100000 in
theorem cs_then {k : KA} {g : GG} {n : Nat} {xs : Nat → Int32} {i : Nat} {M1 M2 : Mem} (C : LKk k n xs g) (hn : n < 1000) (hi : i + 5 < n) (hR : RelE M1 M2) (kk : ∀ M1' M2', RelE M1' M2' → LJ k g 1575 (lsL k g i) [] M1' M2') : LJ k g 1186 (lsL k g i) [] M1 M2 := by
  refine LJ.aload C dL_1186 rfl (i := 1) rfl ?_
  refine LJ.arg C (i := i) (j := 1) (a := i + 1) rfl rfl dA_1187 (by omega) hn rfl ?_
  refine LJ.arg C (i := i) (j := 2) (a := i + 2) rfl rfl dA_1192 (by omega) hn rfl ?_
  refine LJ.c1 C (z := mX9_then) (d := 0 + 5) (As := [.int (xs (i + 1)), .int (xs (i + 2))]) (st := []) dL_1197 mlRL_132 okX9_then rfl npX9_then rfl rfl rfl (Nat.le_of_ble_eq_true rfl) (Nat.zero_le _) (by decide) (s_then (d := 0) M1 M2 hR) (fun r1 M1' h1 => ?_)
  refine LJ.aload C dL_1200 rfl (i := 2) rfl ?_
  refine LJ.arg C (i := i) (j := 1) (a := i + 1) rfl rfl dA_1201 (by omega) hn rfl ?_
  refine LJ.arg C (i := i) (j := 2) (a := i + 2) rfl rfl dA_1206 (by omega) hn rfl ?_
  refine LJ.c2 C (z := mX10_then) (d := 0 + 63) (As := [.int (xs (i + 1)), .int (xs (i + 2))]) (st := (r1.map (cvv g.2.2.1)).toList ++ []) dL_1211 mlRL_135 okX10_then rfl npX10_then rfl rfl rfl (Nat.le_of_ble_eq_true rfl) (by rw [List.append_nil]; exact Nat.le_trans (vcat _) (by decide)) (by decide) h1 (fun r2 M2' h2 => ?_)
  obtain ⟨x, rfl, rfl, hE⟩ := h2
  exact LJ.ic_eq C (x := x) (tgt := 1575) dL_1214 (by decide) (kk _ _ hE)
set_option maxHeartbeats 4000000 in
set_option maxRecDepth 100000 in
theorem cs_seed {k : KA} {g : GG} {n : Nat} {xs : Nat → Int32} {i : Nat} {M1 M2 : Mem} (C : LKk k n xs g) (hn : n < 1000) (hi : i + 5 < n) (hR : RelE M1 M2) (kk : ∀ M1' M2', RelE M1' M2' → LJ k g 1575 (lsL k g i) [] M1' M2') : LJ k g 1219 (lsL k g i) [] M1 M2 := by
  refine LJ.aload C dL_1219 rfl (i := 1) rfl ?_
  refine LJ.arg C (i := i) (j := 1) (a := i + 1) rfl rfl dA_1220 (by omega) hn rfl ?_
  refine LJ.c1 C (z := mX9_seed) (d := 0 + 0) (As := [.int (xs (i + 1))]) (st := []) dL_1225 mlRL_136 okX9_seed rfl npX9_seed rfl rfl rfl (Nat.le_of_ble_eq_true rfl) (Nat.zero_le _) (by decide) (s_seed (d := 0) M1 M2 hR) (fun r1 M1' h1 => ?_)
  refine LJ.aload C dL_1228 rfl (i := 2) rfl ?_
  refine LJ.arg C (i := i) (j := 1) (a := i + 1) rfl rfl dA_1229 (by omega) hn rfl ?_
  refine LJ.c2 C (z := mX10_seed) (d := 0 + 2) (As := [.int (xs (i + 1))]) (st := (r1.map (cvv g.2.2.1)).toList ++ []) dL_1234 mlRL_139 okX10_seed rfl npX10_seed rfl rfl rfl (Nat.le_of_ble_eq_true rfl) (by rw [List.append_nil]; exact Nat.le_trans (vcat _) (by decide)) (by decide) h1 (fun r2 M2' h2 => ?_)
  obtain ⟨x, rfl, rfl, hE⟩ := h2
  exact LJ.ic_eq C (x := x) (tgt := 1575) dL_1237 (by decide) (kk _ _ hE)
set_option maxHeartbeats 4000000 in
set_option maxRecDepth 100000 in
theorem cs_voice {k : KA} {g : GG} {n : Nat} {xs : Nat → Int32} {i : Nat} {M1 M2 : Mem} (C : LKk k n xs g) (hn : n < 1000) (hi : i + 5 < n) (hR : RelE M1 M2) (kk : ∀ M1' M2', RelE M1' M2' → LJ k g 1575 (lsL k g i) [] M1' M2') : LJ k g 1242 (lsL k g i) [] M1 M2 := by
  refine LJ.aload C dL_1242 rfl (i := 1) rfl ?_
  refine LJ.arg C (i := i) (j := 1) (a := i + 1) rfl rfl dA_1243 (by omega) hn rfl ?_
  refine LJ.arg C (i := i) (j := 2) (a := i + 2) rfl rfl dA_1248 (by omega) hn rfl ?_
  refine LJ.arg C (i := i) (j := 3) (a := i + 3) rfl rfl dA_1253 (by omega) hn rfl ?_
  refine LJ.c1 C (z := mX9_voice) (d := 0 + 27) (As := [.int (xs (i + 1)), .int (xs (i + 2)), .int (xs (i + 3))]) (st := []) dL_1258 mlRL_140 okX9_voice rfl npX9_voice rfl rfl rfl (Nat.le_of_ble_eq_true rfl) (Nat.zero_le _) (by decide) (s_voice (d := 0) M1 M2 hR) (fun r1 M1' h1 => ?_)
  refine LJ.aload C dL_1261 rfl (i := 2) rfl ?_
  refine LJ.arg C (i := i) (j := 1) (a := i + 1) rfl rfl dA_1262 (by omega) hn rfl ?_
  refine LJ.arg C (i := i) (j := 2) (a := i + 2) rfl rfl dA_1267 (by omega) hn rfl ?_
  refine LJ.arg C (i := i) (j := 3) (a := i + 3) rfl rfl dA_1272 (by omega) hn rfl ?_
  refine LJ.c2 C (z := mX10_voice) (d := 0 + 60) (As := [.int (xs (i + 1)), .int (xs (i + 2)), .int (xs (i + 3))]) (st := (r1.map (cvv g.2.2.1)).toList ++ []) dL_1277 mlRL_143 okX10_voice rfl npX10_voice rfl rfl rfl (Nat.le_of_ble_eq_true rfl) (by rw [List.append_nil]; exact Nat.le_trans (vcat _) (by decide)) (by decide) h1 (fun r2 M2' h2 => ?_)
  obtain ⟨x, rfl, rfl, hE⟩ := h2
  exact LJ.ic_eq C (x := x) (tgt := 1575) dL_1280 (by decide) (kk _ _ hE)
set_option maxHeartbeats 4000000 in
set_option maxRecDepth 100000 in
theorem cs_trace {k : KA} {g : GG} {n : Nat} {xs : Nat → Int32} {i : Nat} {M1 M2 : Mem} (C : LKk k n xs g) (hn : n < 1000) (hi : i + 5 < n) (hR : RelE M1 M2) (kk : ∀ M1' M2', RelE M1' M2' → LJ k g 1575 (lsL k g i) [] M1' M2') : LJ k g 1285 (lsL k g i) [] M1 M2 := by
  refine LJ.aload C dL_1285 rfl (i := 1) rfl ?_
  refine LJ.arg C (i := i) (j := 1) (a := i + 1) rfl rfl dA_1286 (by omega) hn rfl ?_
  refine LJ.c1 C (z := mX9_trace) (d := 0 + 2) (As := [.int (xs (i + 1))]) (st := []) dL_1291 mlRL_144 okX9_trace rfl npX9_trace rfl rfl rfl (Nat.le_of_ble_eq_true rfl) (Nat.zero_le _) (by decide) (s_trace (d := 0) M1 M2 hR) (fun r1 M1' h1 => ?_)
  refine LJ.aload C dL_1294 rfl (i := 2) rfl ?_
  refine LJ.arg C (i := i) (j := 1) (a := i + 1) rfl rfl dA_1295 (by omega) hn rfl ?_
  refine LJ.c2 C (z := mX10_trace) (d := 0 + 1) (As := [.int (xs (i + 1))]) (st := (r1.map (cvv g.2.2.1)).toList ++ []) dL_1300 mlRL_147 okX10_trace rfl npX10_trace rfl rfl rfl (Nat.le_of_ble_eq_true rfl) (by rw [List.append_nil]; exact Nat.le_trans (vcat _) (by decide)) (by decide) h1 (fun r2 M2' h2 => ?_)
  obtain ⟨x, rfl, rfl, hE⟩ := h2
  exact LJ.ic_eq C (x := x) (tgt := 1575) dL_1303 (by decide) (kk _ _ hE)
set_option maxHeartbeats 4000000 in
set_option maxRecDepth 100000 in
theorem cs_sheet {k : KA} {g : GG} {n : Nat} {xs : Nat → Int32} {i : Nat} {M1 M2 : Mem} (C : LKk k n xs g) (hn : n < 1000) (hi : i + 5 < n) (hR : RelE M1 M2) (kk : ∀ M1' M2', RelE M1' M2' → LJ k g 1575 (lsL k g i) [] M1' M2') : LJ k g 1308 (lsL k g i) [] M1 M2 := by
  refine LJ.aload C dL_1308 rfl (i := 1) rfl ?_
  refine LJ.arg C (i := i) (j := 1) (a := i + 1) rfl rfl dA_1309 (by omega) hn rfl ?_
  refine LJ.arg C (i := i) (j := 2) (a := i + 2) rfl rfl dA_1314 (by omega) hn rfl ?_
  refine LJ.arg C (i := i) (j := 3) (a := i + 3) rfl rfl dA_1319 (by omega) hn rfl ?_
  refine LJ.c1 C (z := mX9_sheet) (d := 0 + 2) (As := [.int (xs (i + 1)), .int (xs (i + 2)), .int (xs (i + 3))]) (st := []) dL_1324 mlRL_148 okX9_sheet rfl npX9_sheet rfl rfl rfl (Nat.le_of_ble_eq_true rfl) (Nat.zero_le _) (by decide) (s_sheet (d := 0) M1 M2 hR) (fun r1 M1' h1 => ?_)
  refine LJ.aload C dL_1327 rfl (i := 2) rfl ?_
  refine LJ.arg C (i := i) (j := 1) (a := i + 1) rfl rfl dA_1328 (by omega) hn rfl ?_
  refine LJ.arg C (i := i) (j := 2) (a := i + 2) rfl rfl dA_1333 (by omega) hn rfl ?_
  refine LJ.arg C (i := i) (j := 3) (a := i + 3) rfl rfl dA_1338 (by omega) hn rfl ?_
  refine LJ.c2 C (z := mX10_sheet) (d := 0 + 2) (As := [.int (xs (i + 1)), .int (xs (i + 2)), .int (xs (i + 3))]) (st := (r1.map (cvv g.2.2.1)).toList ++ []) dL_1343 mlRL_151 okX10_sheet rfl npX10_sheet rfl rfl rfl (Nat.le_of_ble_eq_true rfl) (by rw [List.append_nil]; exact Nat.le_trans (vcat _) (by decide)) (by decide) h1 (fun r2 M2' h2 => ?_)
  obtain ⟨x, rfl, rfl, hE⟩ := h2
  exact LJ.ic_eq C (x := x) (tgt := 1575) dL_1346 (by decide) (kk _ _ hE)
set_option maxHeartbeats 4000000 in
set_option maxRecDepth 100000 in
theorem cs_put {k : KA} {g : GG} {n : Nat} {xs : Nat → Int32} {i : Nat} {M1 M2 : Mem} (C : LKk k n xs g) (hn : n < 1000) (hi : i + 5 < n) (hR : RelE M1 M2) (kk : ∀ M1' M2', RelE M1' M2' → LJ k g 1575 (lsL k g i) [] M1' M2') : LJ k g 1351 (lsL k g i) [] M1 M2 := by
  refine LJ.aload C dL_1351 rfl (i := 1) rfl ?_
  refine LJ.arg C (i := i) (j := 1) (a := i + 1) rfl rfl dA_1352 (by omega) hn rfl ?_
  refine LJ.arg C (i := i) (j := 2) (a := i + 2) rfl rfl dA_1357 (by omega) hn rfl ?_
  refine LJ.arg C (i := i) (j := 3) (a := i + 3) rfl rfl dA_1362 (by omega) hn rfl ?_
  refine LJ.c1 C (z := mX9_put) (d := 0 + 2) (As := [.int (xs (i + 1)), .int (xs (i + 2)), .int (xs (i + 3))]) (st := []) dL_1367 mlRL_152 okX9_put rfl npX9_put rfl rfl rfl (Nat.le_of_ble_eq_true rfl) (Nat.zero_le _) (by decide) (s_put (d := 0) M1 M2 hR) (fun r1 M1' h1 => ?_)
  refine LJ.aload C dL_1370 rfl (i := 2) rfl ?_
  refine LJ.arg C (i := i) (j := 1) (a := i + 1) rfl rfl dA_1371 (by omega) hn rfl ?_
  refine LJ.arg C (i := i) (j := 2) (a := i + 2) rfl rfl dA_1376 (by omega) hn rfl ?_
  refine LJ.arg C (i := i) (j := 3) (a := i + 3) rfl rfl dA_1381 (by omega) hn rfl ?_
  refine LJ.c2 C (z := mX10_put) (d := 0 + 2) (As := [.int (xs (i + 1)), .int (xs (i + 2)), .int (xs (i + 3))]) (st := (r1.map (cvv g.2.2.1)).toList ++ []) dL_1386 mlRL_155 okX10_put rfl npX10_put rfl rfl rfl (Nat.le_of_ble_eq_true rfl) (by rw [List.append_nil]; exact Nat.le_trans (vcat _) (by decide)) (by decide) h1 (fun r2 M2' h2 => ?_)
  obtain ⟨x, rfl, rfl, hE⟩ := h2
  exact LJ.ic_eq C (x := x) (tgt := 1575) dL_1389 (by decide) (kk _ _ hE)
set_option maxHeartbeats 4000000 in
set_option maxRecDepth 100000 in
theorem cs_move {k : KA} {g : GG} {n : Nat} {xs : Nat → Int32} {i : Nat} {M1 M2 : Mem} (C : LKk k n xs g) (hn : n < 1000) (hi : i + 5 < n) (hR : RelE M1 M2) (kk : ∀ M1' M2', RelE M1' M2' → LJ k g 1575 (lsL k g i) [] M1' M2') : LJ k g 1394 (lsL k g i) [] M1 M2 := by
  refine LJ.aload C dL_1394 rfl (i := 1) rfl ?_
  refine LJ.arg C (i := i) (j := 1) (a := i + 1) rfl rfl dA_1395 (by omega) hn rfl ?_
  refine LJ.arg C (i := i) (j := 2) (a := i + 2) rfl rfl dA_1400 (by omega) hn rfl ?_
  refine LJ.arg C (i := i) (j := 3) (a := i + 3) rfl rfl dA_1405 (by omega) hn rfl ?_
  refine LJ.arg C (i := i) (j := 4) (a := i + 4) rfl rfl dA_1410 (by omega) hn rfl ?_
  refine LJ.arg C (i := i) (j := 5) (a := i + 5) rfl rfl dA_1415 (by omega) hn rfl ?_
  refine LJ.c1 C (z := mX9_move) (d := 0 + 2) (As := [.int (xs (i + 1)), .int (xs (i + 2)), .int (xs (i + 3)), .int (xs (i + 4)), .int (xs (i + 5))]) (st := []) dL_1420 mlRL_156 okX9_move rfl npX9_move rfl rfl rfl (Nat.le_of_ble_eq_true rfl) (Nat.zero_le _) (by decide) (s_move (d := 0) M1 M2 hR) (fun r1 M1' h1 => ?_)
  refine LJ.aload C dL_1423 rfl (i := 2) rfl ?_
  refine LJ.arg C (i := i) (j := 1) (a := i + 1) rfl rfl dA_1424 (by omega) hn rfl ?_
  refine LJ.arg C (i := i) (j := 2) (a := i + 2) rfl rfl dA_1429 (by omega) hn rfl ?_
  refine LJ.arg C (i := i) (j := 3) (a := i + 3) rfl rfl dA_1434 (by omega) hn rfl ?_
  refine LJ.arg C (i := i) (j := 4) (a := i + 4) rfl rfl dA_1439 (by omega) hn rfl ?_
  refine LJ.arg C (i := i) (j := 5) (a := i + 5) rfl rfl dA_1444 (by omega) hn rfl ?_
  refine LJ.c2 C (z := mX10_move) (d := 0 + 2) (As := [.int (xs (i + 1)), .int (xs (i + 2)), .int (xs (i + 3)), .int (xs (i + 4)), .int (xs (i + 5))]) (st := (r1.map (cvv g.2.2.1)).toList ++ []) dL_1449 mlRL_159 okX10_move rfl npX10_move rfl rfl rfl (Nat.le_of_ble_eq_true rfl) (by rw [List.append_nil]; exact Nat.le_trans (vcat _) (by decide)) (by decide) h1 (fun r2 M2' h2 => ?_)
  obtain ⟨x, rfl, rfl, hE⟩ := h2
  exact LJ.ic_eq C (x := x) (tgt := 1575) dL_1452 (by decide) (kk _ _ hE)
set_option maxHeartbeats 4000000 in
set_option maxRecDepth 100000 in
theorem cs_image {k : KA} {g : GG} {n : Nat} {xs : Nat → Int32} {i : Nat} {M1 M2 : Mem} (C : LKk k n xs g) (hn : n < 1000) (hi : i + 5 < n) (hR : RelE M1 M2) (kk : ∀ M1' M2', RelE M1' M2' → LJ k g 1575 (lsL k g i) [] M1' M2') : LJ k g 1457 (lsL k g i) [] M1 M2 := by
  refine LJ.aload C dL_1457 rfl (i := 1) rfl ?_
  refine LJ.c1 C (z := mX9_image) (d := 0 + 3) (As := []) (st := []) dL_1458 mlRL_160 okX9_image rfl npX9_image rfl rfl rfl (Nat.le_of_ble_eq_true rfl) (Nat.zero_le _) (by decide) (s_image (d := 0) M1 M2 hR) (fun r1 M1' h1 => ?_)
  refine LJ.aload C dL_1461 rfl (i := 2) rfl ?_
  refine LJ.c2 C (z := mX10_image) (d := 0 + 1) (As := []) (st := (r1.map (cvv g.2.2.1)).toList ++ []) dL_1462 mlRL_164 okX10_image rfl npX10_image rfl rfl rfl (Nat.le_of_ble_eq_true rfl) (by rw [List.append_nil]; exact Nat.le_trans (vcat _) (by decide)) (by decide) h1 (fun r2 M2' h2 => ?_)
  obtain ⟨x, rfl, rfl, hE⟩ := h2
  exact LJ.ic_eq C (x := x) (tgt := 1575) dL_1465 (by decide) (kk _ _ hE)
set_option maxHeartbeats 4000000 in
set_option maxRecDepth 100000 in
theorem cs_restore {k : KA} {g : GG} {n : Nat} {xs : Nat → Int32} {i : Nat} {M1 M2 : Mem} (C : LKk k n xs g) (hn : n < 1000) (hi : i + 5 < n) (hR : RelE M1 M2) (kk : ∀ M1' M2', RelE M1' M2' → LJ k g 1575 (lsL k g i) [] M1' M2') : LJ k g 1470 (lsL k g i) [] M1 M2 := by
  refine LJ.aload C dL_1470 rfl (i := 1) rfl ?_
  refine LJ.c1 C (z := mX9_restore) (d := 0 + 3) (As := []) (st := []) dL_1471 mlRL_165 okX9_restore rfl npX9_restore rfl rfl rfl (Nat.le_of_ble_eq_true rfl) (Nat.zero_le _) (by decide) (s_restore (d := 0) M1 M2 hR) (fun r1 M1' h1 => ?_)
  refine LJ.aload C dL_1474 rfl (i := 2) rfl ?_
  refine LJ.c2 C (z := mX10_restore) (d := 0 + 1) (As := []) (st := (r1.map (cvv g.2.2.1)).toList ++ []) dL_1475 mlRL_168 okX10_restore rfl npX10_restore rfl rfl rfl (Nat.le_of_ble_eq_true rfl) (by rw [List.append_nil]; exact Nat.le_trans (vcat _) (by decide)) (by decide) h1 (fun r2 M2' h2 => ?_)
  obtain ⟨x, rfl, rfl, hE⟩ := h2
  exact LJ.ic_eq C (x := x) (tgt := 1575) dL_1478 (by decide) (kk _ _ hE)
set_option maxHeartbeats 4000000 in
set_option maxRecDepth 100000 in
theorem cs_tell {k : KA} {g : GG} {n : Nat} {xs : Nat → Int32} {i : Nat} {M1 M2 : Mem} (C : LKk k n xs g) (hn : n < 1000) (hi : i + 5 < n) (hR : RelE M1 M2) (kk : ∀ M1' M2', RelE M1' M2' → LJ k g 1575 (lsL k g i) [] M1' M2') : LJ k g 1483 (lsL k g i) [] M1 M2 := by
  refine LJ.aload C dL_1483 rfl (i := 1) rfl ?_
  refine LJ.arg C (i := i) (j := 1) (a := i + 1) rfl rfl dA_1484 (by omega) hn rfl ?_
  refine LJ.c1 C (z := mX9_tell) (d := 0 + 2) (As := [.int (xs (i + 1))]) (st := []) dL_1489 mlRL_169 okX9_tell rfl npX9_tell rfl rfl rfl (Nat.le_of_ble_eq_true rfl) (Nat.zero_le _) (by decide) (s_tell (d := 0) M1 M2 hR) (fun r1 M1' h1 => ?_)
  refine LJ.aload C dL_1492 rfl (i := 2) rfl ?_
  refine LJ.arg C (i := i) (j := 1) (a := i + 1) rfl rfl dA_1493 (by omega) hn rfl ?_
  refine LJ.c2 C (z := mX10_tell) (d := 0 + 2) (As := [.int (xs (i + 1))]) (st := (r1.map (cvv g.2.2.1)).toList ++ []) dL_1498 mlRL_172 okX10_tell rfl npX10_tell rfl rfl rfl (Nat.le_of_ble_eq_true rfl) (by rw [List.append_nil]; exact Nat.le_trans (vcat _) (by decide)) (by decide) h1 (fun r2 M2' h2 => ?_)
  obtain ⟨x, rfl, rfl, hE⟩ := h2
  exact LJ.ic_eq C (x := x) (tgt := 1575) dL_1501 (by decide) (kk _ _ hE)
set_option maxHeartbeats 4000000 in
set_option maxRecDepth 100000 in
theorem cs_check {k : KA} {g : GG} {n : Nat} {xs : Nat → Int32} {i : Nat} {M1 M2 : Mem} (C : LKk k n xs g) (hn : n < 1000) (hi : i + 5 < n) (hR : RelE M1 M2) (kk : ∀ M1' M2', RelE M1' M2' → LJ k g 1575 (lsL k g i) [] M1' M2') : LJ k g 1506 (lsL k g i) [] M1 M2 := by
  refine LJ.aload C dL_1506 rfl (i := 1) rfl ?_
  refine LJ.arg C (i := i) (j := 1) (a := i + 1) rfl rfl dA_1507 (by omega) hn rfl ?_
  refine LJ.c1 C (z := mX9_check) (d := 0 + 5) (As := [.int (xs (i + 1))]) (st := []) dL_1512 mlRL_173 okX9_check rfl npX9_check rfl rfl rfl (Nat.le_of_ble_eq_true rfl) (Nat.zero_le _) (by decide) (s_check (d := 0) M1 M2 hR) (fun r1 M1' h1 => ?_)
  refine LJ.aload C dL_1515 rfl (i := 2) rfl ?_
  refine LJ.arg C (i := i) (j := 1) (a := i + 1) rfl rfl dA_1516 (by omega) hn rfl ?_
  refine LJ.c2 C (z := mX10_check) (d := 0 + 66) (As := [.int (xs (i + 1))]) (st := (r1.map (cvv g.2.2.1)).toList ++ []) dL_1521 mlRL_176 okX10_check rfl npX10_check rfl rfl rfl (Nat.le_of_ble_eq_true rfl) (by rw [List.append_nil]; exact Nat.le_trans (vcat _) (by decide)) (by decide) h1 (fun r2 M2' h2 => ?_)
  obtain ⟨x, rfl, rfl, hE⟩ := h2
  exact LJ.ic_eq C (x := x) (tgt := 1575) dL_1524 (by decide) (kk _ _ hE)
set_option maxHeartbeats 4000000 in
set_option maxRecDepth 100000 in
theorem cs_count {k : KA} {g : GG} {n : Nat} {xs : Nat → Int32} {i : Nat} {M1 M2 : Mem} (C : LKk k n xs g) (hn : n < 1000) (hi : i + 5 < n) (hR : RelE M1 M2) (kk : ∀ M1' M2', RelE M1' M2' → LJ k g 1575 (lsL k g i) [] M1' M2') : LJ k g 1529 (lsL k g i) [] M1 M2 := by
  refine LJ.aload C dL_1529 rfl (i := 1) rfl ?_
  refine LJ.arg C (i := i) (j := 1) (a := i + 1) rfl rfl dA_1530 (by omega) hn rfl ?_
  refine LJ.c1 C (z := mX9_count) (d := 0 + 2) (As := [.int (xs (i + 1))]) (st := []) dL_1535 mlRL_177 okX9_count rfl npX9_count rfl rfl rfl (Nat.le_of_ble_eq_true rfl) (Nat.zero_le _) (by decide) (s_count (d := 0) M1 M2 hR) (fun r1 M1' h1 => ?_)
  refine LJ.aload C dL_1538 rfl (i := 2) rfl ?_
  refine LJ.arg C (i := i) (j := 1) (a := i + 1) rfl rfl dA_1539 (by omega) hn rfl ?_
  refine LJ.c2 C (z := mX10_count) (d := 0 + 2) (As := [.int (xs (i + 1))]) (st := (r1.map (cvv g.2.2.1)).toList ++ []) dL_1544 mlRL_180 okX10_count rfl npX10_count rfl rfl rfl (Nat.le_of_ble_eq_true rfl) (by rw [List.append_nil]; exact Nat.le_trans (vcat _) (by decide)) (by decide) h1 (fun r2 M2' h2 => ?_)
  obtain ⟨x, rfl, rfl, hE⟩ := h2
  exact LJ.ic_eq C (x := x) (tgt := 1575) dL_1547 (by decide) (kk _ _ hE)
set_option maxHeartbeats 4000000 in
set_option maxRecDepth 100000 in
theorem cs_told {k : KA} {g : GG} {n : Nat} {xs : Nat → Int32} {i : Nat} {M1 M2 : Mem} (C : LKk k n xs g) (hn : n < 1000) (hi : i + 5 < n) (hR : RelE M1 M2) (kk : ∀ M1' M2', RelE M1' M2' → LJ k g 1575 (lsL k g i) [] M1' M2') : LJ k g 1552 (lsL k g i) [] M1 M2 := by
  refine LJ.aload C dL_1552 rfl (i := 1) rfl ?_
  refine LJ.arg C (i := i) (j := 1) (a := i + 1) rfl rfl dA_1553 (by omega) hn rfl ?_
  refine LJ.c1 C (z := mX9_told) (d := 0 + 2) (As := [.int (xs (i + 1))]) (st := []) dL_1558 mlRL_181 okX9_told rfl npX9_told rfl rfl rfl (Nat.le_of_ble_eq_true rfl) (Nat.zero_le _) (by decide) (s_told (d := 0) M1 M2 hR) (fun r1 M1' h1 => ?_)
  refine LJ.aload C dL_1561 rfl (i := 2) rfl ?_
  refine LJ.arg C (i := i) (j := 1) (a := i + 1) rfl rfl dA_1562 (by omega) hn rfl ?_
  refine LJ.c2 C (z := mX10_told) (d := 0 + 2) (As := [.int (xs (i + 1))]) (st := (r1.map (cvv g.2.2.1)).toList ++ []) dL_1567 mlRL_184 okX10_told rfl npX10_told rfl rfl rfl (Nat.le_of_ble_eq_true rfl) (by rw [List.append_nil]; exact Nat.le_trans (vcat _) (by decide)) (by decide) h1 (fun r2 M2' h2 => ?_)
  obtain ⟨x, rfl, rfl, hE⟩ := h2
  exact LJ.ic_eq C (x := x) (tgt := 1575) dL_1570 (by decide) (kk _ _ hE)

