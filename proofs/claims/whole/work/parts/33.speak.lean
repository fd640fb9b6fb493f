/-! ===== Voices: a bell speaks ===== -/
set_option maxHeartbeats 4000000 in
set_option maxRecDepth 100000 in
theorem l_run {g : GG} {d k f : Nat} {n m : Int32} (hr : RunAt k n m f g d) (hk : k < 7) : RunAt k n m (f + 1) g (d + 2) := by
  intro M Q b x dep t hb hv hd ht hS hQ
  have ht0 : t + (vN k (vL k f) b).length + 1 ≤ 40 := ht
  have hd1 : dep + 1 + f ≤ 31 := by omega
  have ht1 : t + 1 + (vN k (vL k f) b).length ≤ 40 := by omega
  have ht40 : t < 40 := by omega
  have hS1 : vS (put (put M 60 t (nI b)) 7 1 (nI (t + 1))) (t + 1) k n m := hS.wr [b]
  refine V.iload_n dX8_run_0 rfl (i := 3) rfl ?_
  refine V.bipush dX8_run_1 (v := 30) (by decide) ?_
  refine V.ic_le (tgt := 8) dX8_run_3 (by decide) (fun c3 => ?_) (fun q => absurd ((nI_le (a := dep) (b := 30) (by omega) (by omega))) q)
  refine V.aload_n dX8_run_8 rfl (i := 0) rfl ?_
  refine V.getI dX8_run_9 rfl flRX8_15 rfl ⟨by decide, by decide⟩ ?_
  refine V.top (x' := (nI t)) (hS.1) ?_
  refine V.bipush dX8_run_12 (v := 40) (by decide) ?_
  refine V.ic_ge (tgt := 37) dX8_run_14 (by decide) (fun q => absurd q ((nI_ge (a := t) (b := 40) (by omega) (by omega)))) (fun c14 => ?_)
  refine V.aload_n dX8_run_17 rfl (i := 0) rfl ?_
  refine V.getR dX8_run_18 rfl flRX8_11 rfl ⟨by decide, by decide⟩ ?_
  refine V.aload_n dX8_run_21 rfl (i := 0) rfl ?_
  refine V.getI dX8_run_22 rfl flRX8_15 rfl ⟨by decide, by decide⟩ ?_
  refine V.top (x' := (nI t)) (hS.1) ?_
  refine V.iload_n dX8_run_25 rfl (i := 1) rfl ?_
  refine V.iastN dX8_run_26 rfl ⟨by decide, by decide⟩ (by first | assumption | decide | omega) (by decide) ?_
  refine V.aload_n dX8_run_27 rfl (i := 0) rfl ?_
  refine V.dup dX8_run_28 rfl ?_
  refine V.getI dX8_run_29 rfl flRX8_15 rfl ⟨by decide, by decide⟩ ?_
  refine V.top (x' := (nI t)) ((by rw [put_cell (by decide)]; exact hS.1)) ?_
  refine V.iconst dX8_run_32 (v := 1) (by decide) ?_
  refine V.iadd dX8_run_33 ?_
  refine V.top (x' := (nI (t + 1))) (nI_add t 1) ?_
  refine V.putI dX8_run_34 rfl fpRX8_15 rfl ⟨by decide, by decide⟩ ?_
  refine V.iload_n dX8_run_37 rfl (i := 1) rfl ?_
  by_cases s38_10 : nI b = (10 : Int32)
  · refine V.lookup (tgt := 136) dX8_run_38 (by decide) (by rw [s38_10] <;> rfl) (by decide) ?_
    obtain rfl : b = 10 := (nI_eq (b := 10) (by omega) (by omega)).mp s38_10; exact l_r10 hr hk hd1 hS1 hQ
  by_cases s38_11 : nI b = (11 : Int32)
  · refine V.lookup (tgt := 143) dX8_run_38 (by decide) (by rw [s38_11] <;> rfl) (by decide) ?_
    obtain rfl : b = 11 := (nI_eq (b := 11) (by omega) (by omega)).mp s38_11; exact l_r11 hr hk hv hd1 ht1 hS1 hQ
  by_cases s38_12 : nI b = (12 : Int32)
  · refine V.lookup (tgt := 153) dX8_run_38 (by decide) (by rw [s38_12] <;> rfl) (by decide) ?_
    obtain rfl : b = 12 := (nI_eq (b := 12) (by omega) (by omega)).mp s38_12; exact l_r12 hr hk hd1 hS1 hQ
  by_cases s38_13 : nI b = (13 : Int32)
  · refine V.lookup (tgt := 160) dX8_run_38 (by decide) (by rw [s38_13] <;> rfl) (by decide) ?_
    obtain rfl : b = 13 := (nI_eq (b := 13) (by omega) (by omega)).mp s38_13; have hv2 : (vok k f (bdN k 1) && vok k f (bdN k 2)) = true := hv; rw [Bool.and_eq_true] at hv2; exact l_r13 hr hk hv2.1 hv2.2 hd1 ht1 hS1 hQ
  by_cases s38_20 : nI b = (20 : Int32)
  · refine V.lookup (tgt := 176) dX8_run_38 (by decide) (by rw [s38_20] <;> rfl) (by decide) ?_
    obtain rfl : b = 20 := (nI_eq (b := 20) (by omega) (by omega)).mp s38_20; have hv2 : (vok k f (bdN 0 1) && vok k f (bdN k 2)) = true := hv; rw [Bool.and_eq_true] at hv2; exact l_r20 hr hk hv2.1 hv2.2 hd1 ht1 hS1 hQ
  by_cases s38_30 : nI b = (30 : Int32)
  · refine V.lookup (tgt := 193) dX8_run_38 (by decide) (by rw [s38_30] <;> rfl) (by decide) ?_
    obtain rfl : b = 30 := (nI_eq (b := 30) (by omega) (by omega)).mp s38_30; exact l_r30 hr hk hv hd1 ht1 hS1 hQ
  by_cases s38_40 : nI b = (40 : Int32)
  · refine V.lookup (tgt := 204) dX8_run_38 (by decide) (by rw [s38_40] <;> rfl) (by decide) ?_
    obtain rfl : b = 40 := (nI_eq (b := 40) (by omega) (by omega)).mp s38_40; exact l_r40 hr hk hv hd1 ht1 hS1 hQ
  by_cases s38_50 : nI b = (50 : Int32)
  · refine V.lookup (tgt := 214) dX8_run_38 (by decide) (by rw [s38_50] <;> rfl) (by decide) ?_
    obtain rfl : b = 50 := (nI_eq (b := 50) (by omega) (by omega)).mp s38_50; exact l_r50 hr hk hv hd1 ht1 hS1 hQ
  by_cases s38_60 : nI b = (60 : Int32)
  · refine V.lookup (tgt := 225) dX8_run_38 (by decide) (by rw [s38_60] <;> rfl) (by decide) ?_
    obtain rfl : b = 60 := (nI_eq (b := 60) (by omega) (by omega)).mp s38_60; have hv2 : (vok k f (bdN 1 3) && vok k f (bdN k 0)) = true := hv; rw [Bool.and_eq_true] at hv2; exact l_r60 hr hk hv2.1 hv2.2 hd1 ht1 hS1 hQ
  by_cases s38_70 : nI b = (70 : Int32)
  · refine V.lookup (tgt := 242) dX8_run_38 (by decide) (by rw [s38_70] <;> rfl) (by decide) ?_
    obtain rfl : b = 70 := (nI_eq (b := 70) (by omega) (by omega)).mp s38_70; exact l_r70 hr hk hv hd1 ht1 hS1 hQ
  by_cases s38_71 : nI b = (71 : Int32)
  · refine V.lookup (tgt := 257) dX8_run_38 (by decide) (by rw [s38_71] <;> rfl) (by decide) ?_
    obtain rfl : b = 71 := (nI_eq (b := 71) (by omega) (by omega)).mp s38_71; have hv2 : (vok k f (bdN k 1) && vok k f (bdN 3 3)) = true := hv; rw [Bool.and_eq_true] at hv2; exact l_r71 hr hk hv2.1 hv2.2 hd1 ht1 hS1 hQ
  · refine V.lookup (off := 237) (tgt := 275) dX8_run_38 (by decide) (by show Op.lookupswitch.offset [(10, 98), (11, 105), (12, 115), (13, 122), (20, 138), (30, 155), (40, 166), (50, 176), (60, 187), (70, 204), (71, 219)] _ _ = _; rw [lv_osw s38_10 (by decide), lv_osw s38_11 (by decide), lv_osw s38_12 (by decide), lv_osw s38_13 (by decide), lv_osw s38_20 (by decide), lv_osw s38_30 (by decide), lv_osw s38_40 (by decide), lv_osw s38_50 (by decide), lv_osw s38_60 (by decide), lv_osw s38_70 (by decide), lv_osw s38_71 (by decide)]; first | done | rfl) (by decide) ?_
    refine V.iconst dX8_run_275 (v := 0) (by decide) ?_
    exact V.ret dX8_run_276 rfl (Qim hQ (by show (0 : Int32) = vW k n m (vR k n m f) b x; unfold vW; rw [if_neg (fun z => s38_10 (by rw [z]; rfl) : ¬ b = 10), if_neg (fun z => s38_11 (by rw [z]; rfl) : ¬ b = 11), if_neg (fun z => s38_12 (by rw [z]; rfl) : ¬ b = 12), if_neg (fun z => s38_13 (by rw [z]; rfl) : ¬ b = 13), if_neg (fun z => s38_20 (by rw [z]; rfl) : ¬ b = 20), if_neg (fun z => s38_30 (by rw [z]; rfl) : ¬ b = 30), if_neg (fun z => s38_40 (by rw [z]; rfl) : ¬ b = 40), if_neg (fun z => s38_50 (by rw [z]; rfl) : ¬ b = 50), if_neg (fun z => s38_60 (by rw [z]; rfl) : ¬ b = 60), if_neg (fun z => s38_70 (by rw [z]; rfl) : ¬ b = 70), if_neg (fun z => s38_71 (by rw [z]; rfl) : ¬ b = 71)]) (by show _ = wr M t (b :: vN k (vL k f) b); rw [show vN k (vL k f) b = [] from by unfold vN; rw [if_neg (fun z => s38_10 (by rw [z]; rfl) : ¬ b = 10), if_neg (fun z => s38_11 (by rw [z]; rfl) : ¬ b = 11), if_neg (fun z => s38_12 (by rw [z]; rfl) : ¬ b = 12), if_neg (fun z => s38_13 (by rw [z]; rfl) : ¬ b = 13), if_neg (fun z => s38_20 (by rw [z]; rfl) : ¬ b = 20), if_neg (fun z => s38_30 (by rw [z]; rfl) : ¬ b = 30), if_neg (fun z => s38_40 (by rw [z]; rfl) : ¬ b = 40), if_neg (fun z => s38_50 (by rw [z]; rfl) : ¬ b = 50), if_neg (fun z => s38_60 (by rw [z]; rfl) : ¬ b = 60), if_neg (fun z => s38_70 (by rw [z]; rfl) : ¬ b = 70), if_neg (fun z => s38_71 (by rw [z]; rfl) : ¬ b = 71)]]; rfl))
theorem c_run {g : GG} {d k : Nat} {n m : Int32} (hk : k < 7) : ∀ f, RunAt k n m f g (d + 2 * f)
  | 0 => fun _ _ _ _ _ _ _ hv => absurd hv Bool.false_ne_true
  | f + 1 => l_run (c_run hk f) hk
theorem vok_12 : ∀ k, k < 7 → ∀ a, a < 4 → vok k 12 (bdN k a) = true ∧ (vL k 12 (bdN k a)).length ≤ 40 := by decide +kernel
set_option maxHeartbeats 4000000 in
set_option maxRecDepth 100000 in
theorem c_speak {g : GG} {d : Nat} {M : Mem} {Q : Option Value → Mem → Prop} {b k a : Nat} {n x : Int32} (hb : b < 8) (hk : k < 7) (ha : a < 4) (hK : M (30 + b) 0 = nI k) (hQ : Q (some (.int (vR k n (M (30 + b) 1) 12 (bdN k a) x))) (wr (put (put (put (put M 7 1 0) 7 2 (nI k)) 7 3 n) 7 4 (M (30 + b) 1)) 0 (vL k 12 (bdN k a)))) : V cS g (d + 26) mX8_speak 0 [some (.ref 7), some (.ref (30 + b)), some (.int n), some (.int (nI a)), some (.int x)] [] M Q := by
  have hn7 : 30 + b ≠ 7 := by omega
  have hr : RunAt k n (M (30 + b) 1) 12 g (d + 24) := c_run hk 12
  have hS : vS (put (put (put (put M 7 1 0) 7 2 (nI k)) 7 3 n) 7 4 (M (30 + b) 1)) 0 k n (M (30 + b) 1) := ⟨by simp [put]; rfl, by simp [put], by simp [put], by simp [put]⟩
  refine V.aload_n dX8_speak_0 rfl (i := 0) rfl ?_
  refine V.iconst dX8_speak_1 (v := 0) (by decide) ?_
  refine V.putI dX8_speak_2 rfl fpRX8_15 rfl ⟨by decide, by decide⟩ ?_
  refine V.aload_n dX8_speak_5 rfl (i := 0) rfl ?_
  refine V.aload_n dX8_speak_6 rfl (i := 1) rfl ?_
  refine V.getI dX8_speak_7 rfl flRX8_19 (fkB30 (by first | assumption | decide | omega) (by decide)) (inB30 (by first | assumption | decide | omega)) ?_
  refine V.top (x' := (nI k)) ((by rw [put_cell hn7]; exact hK)) ?_
  refine V.putI dX8_speak_10 rfl fpRX8_24 rfl ⟨by decide, by decide⟩ ?_
  refine V.aload_n dX8_speak_13 rfl (i := 0) rfl ?_
  refine V.iload_n dX8_speak_14 rfl (i := 2) rfl ?_
  refine V.putI dX8_speak_15 rfl fpRX8_25 rfl ⟨by decide, by decide⟩ ?_
  refine V.aload_n dX8_speak_18 rfl (i := 0) rfl ?_
  refine V.aload_n dX8_speak_19 rfl (i := 1) rfl ?_
  refine V.getI dX8_speak_20 rfl flRX8_28 (fkB30 (by first | assumption | decide | omega) (by decide)) (inB30 (by first | assumption | decide | omega)) ?_
  refine V.top (x' := (M (30 + b) 1)) ((by rw [put_cell hn7, put_cell hn7, put_cell hn7])) ?_
  refine V.putI dX8_speak_23 rfl fpRX8_31 rfl ⟨by decide, by decide⟩ ?_
  refine V.aload_n dX8_speak_26 rfl (i := 0) rfl ?_
  refine V.iload_n dX8_speak_27 rfl (i := 3) rfl ?_
  refine V.iload dX8_speak_28 rfl ?_
  refine V.iconst dX8_speak_30 (v := 0) (by decide) ?_
  refine V.invv (z := mX8_own) (As := [_, _, _]) dX8_speak_31 rfl mlRX8_32 okX8_own npX8_own rfl rfl rfl ⟨by decide, by decide⟩ (Nat.le_of_ble_eq_true rfl) rfl (Nat.le_of_ble_eq_true rfl) (c_own (d := d + 24) hr hk ha (vok_12 k hk a ha).1 (dep := 0) (t := 0) (by omega) (by have := (vok_12 k hk a ha).2; omega) hS ?_)
  show V cS g (d + 26) mX8_speak 34 [some (.ref 7), some (.ref (30 + b)), some (.int n), some (.int (nI a)), some (.int x)] [.int (vR k n (M (30 + b) 1) 12 (bdN k a) x)] (wr (put (put (put (put M 7 1 0) 7 2 (nI k)) 7 3 n) 7 4 (M (30 + b) 1)) 0 (vL k 12 (bdN k a))) Q
  exact V.ret dX8_speak_34 rfl (hQ)

