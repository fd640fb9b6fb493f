/-! ===== the law: its loop ===== -/
theorem dL_0 : decode code 0 = .ok (.new 7, 3) := by decide +kernel
theorem dL_3 : decode code 3 = .ok (.dup, 1) := by decide +kernel
theorem dL_4 : decode code 4 = .ok (.invokespecial 9, 3) := by decide +kernel
theorem dL_7 : decode code 7 = .ok (.astore_n 1, 1) := by decide +kernel
theorem dL_8 : decode code 8 = .ok (.new 10, 3) := by decide +kernel
theorem dL_11 : decode code 11 = .ok (.dup, 1) := by decide +kernel
theorem dL_12 : decode code 12 = .ok (.invokespecial 12, 3) := by decide +kernel
theorem dL_15 : decode code 15 = .ok (.astore_n 2, 1) := by decide +kernel
theorem dL_16 : decode code 16 = .ok (.iconst 0, 1) := by decide +kernel
theorem dL_17 : decode code 17 = .ok (.istore_n 3, 1) := by decide +kernel
set_option maxHeartbeats 4000000 in
set_option maxRecDepth 100000 in
theorem law_loop {k : KA} {g : GG} {n : Nat} {xs : Nat → Int32} (C : LKk k n xs g) (hn : n ≤ 384) : ∀ (f i : Nat) (M1 M2 : Mem), n - i < f → i ≤ n → RelE M1 M2 → LJ k g 18 (lsL k g i) [] M1 M2 := by
  intro f
  induction f with
  | zero => intro i M1 M2 hf; omega
  | succ f ih =>
    intro i M1 M2 hf hi hR
    refine LJ.iload C dL_18 rfl (i := 3) rfl ?_
    refine LJ.aload C dL_19 rfl (i := 0) rfl ?_
    refine LJ.slen C dL_20 ?_
    refine LJ.bipush C (v := 6) dL_21 (by decide) ?_
    refine LJ.isub C dL_23 ?_
    refine LJ.ic_gt C (tgt := 1581) dL_24 (by decide) (fun _ => ?_) (fun c => ?_)
    · refine LJ.iconst C (v := 1) dL_1581 (by decide) ?_
      exact LJ.ret C dL_1582
    · have h6 : i + 6 ≤ n := by
        refine Classical.byContradiction fun z => c (Int32.lt_iff_toInt_lt.mpr ?_)
        rw [show (6 : Int32) = nI 6 from rfl, pk_sub_toInt (by omega) (by omega), nI_toInt (by omega)]
        omega
      refine LJ.aload C dL_27 rfl (i := 0) rfl ?_
      refine LJ.iload C dL_28 rfl (i := 3) rfl ?_
      refine LJ.sld C (j := i) (by omega) (by omega) dL_29 ?_
      refine LJ.bipush C (v := 63) dL_30 (by decide) ?_
      refine LJ.iand C dL_32 ?_
      have back : ∀ M1' M2', RelE M1' M2' → LJ k g 1575 (lsL k g i) [] M1' M2' := fun M1' M2' hE => by
        refine LJ.iinc C (ls' := lsL k g (i + 6)) (v := nI (i + 6)) dL_1575 rfl (nI_add i 6) (by decide) (by intro w h; cases h; exact Or.inl rfl) rfl ?_
        exact LJ.goto C (tgt := 18) dL_1578 (by decide) (ih (i + 6) M1' M2' (by omega) (by omega) hE)
      obtain ⟨j, hj, ej⟩ := pk_andE (xs i) (m := 63) 6 (by decide)
      rw [ej]
      rcases (show j = 0 ∨ j = 1 ∨ j = 2 ∨ j = 3 ∨ j = 4 ∨ j = 5 ∨ j = 6 ∨ j = 7 ∨ j = 8 ∨ j = 9 ∨ j = 10 ∨ j = 11 ∨ j = 12 ∨ j = 13 ∨ j = 14 ∨ j = 15 ∨ j = 16 ∨ j = 17 ∨ j = 18 ∨ j = 19 ∨ j = 20 ∨ j = 21 ∨ j = 22 ∨ j = 23 ∨ j = 24 ∨ j = 25 ∨ j = 26 ∨ j = 27 ∨ j = 28 ∨ j = 29 ∨ j = 30 ∨ j = 31 ∨ j = 32 ∨ j = 33 ∨ j = 34 ∨ j = 35 ∨ j = 36 ∨ j = 37 ∨ j = 38 ∨ j = 39 ∨ j = 40 ∨ 41 ≤ j by omega) with rfl | rfl | rfl | rfl | rfl | rfl | rfl | rfl | rfl | rfl | rfl | rfl | rfl | rfl | rfl | rfl | rfl | rfl | rfl | rfl | rfl | rfl | rfl | rfl | rfl | rfl | rfl | rfl | rfl | rfl | rfl | rfl | rfl | rfl | rfl | rfl | rfl | rfl | rfl | rfl | rfl | h41
      · exact LJ.tabIn C (tgt := 212) dL_33 (by decide) (by decide) (off := 179) (by decide) (by decide) (cs_hill C (by omega) (by omega) hR back)
      · exact LJ.tabIn C (tgt := 245) dL_33 (by decide) (by decide) (off := 212) (by decide) (by decide) (cs_set C (by omega) (by omega) hR back)
      · exact LJ.tabIn C (tgt := 278) dL_33 (by decide) (by decide) (off := 245) (by decide) (by decide) (cs_bell C (by omega) (by omega) hR back)
      · exact LJ.tabIn C (tgt := 321) dL_33 (by decide) (by decide) (off := 288) (by decide) (by decide) (cs_ofBell C (by omega) (by omega) hR back)
      · exact LJ.tabIn C (tgt := 354) dL_33 (by decide) (by decide) (off := 321) (by decide) (by decide) (cs_change C (by omega) (by omega) hR back)
      · exact LJ.tabIn C (tgt := 397) dL_33 (by decide) (by decide) (off := 364) (by decide) (by decide) (cs_as C (by omega) (by omega) hR back)
      · exact LJ.tabIn C (tgt := 430) dL_33 (by decide) (by decide) (off := 397) (by decide) (by decide) (cs_strikes C (by omega) (by omega) hR back)
      · exact LJ.tabIn C (tgt := 463) dL_33 (by decide) (by decide) (off := 430) (by decide) (by decide) (cs_ear C (by omega) (by omega) hR back)
      · exact LJ.tabIn C (tgt := 486) dL_33 (by decide) (by decide) (off := 453) (by decide) (by decide) (cs_ears C (by omega) (by omega) hR back)
      · exact LJ.tabIn C (tgt := 509) dL_33 (by decide) (by decide) (off := 476) (by decide) (by decide) (cs_way C (by omega) (by omega) hR back)
      · exact LJ.tabIn C (tgt := 552) dL_33 (by decide) (by decide) (off := 519) (by decide) (by decide) (cs_heard C (by omega) (by omega) hR back)
      · exact LJ.tabIn C (tgt := 585) dL_33 (by decide) (by decide) (off := 552) (by decide) (by decide) (cs_feed C (by omega) (by omega) hR back)
      · exact LJ.tabIn C (tgt := 648) dL_33 (by decide) (by decide) (off := 615) (by decide) (by decide) (cs_text C (by omega) (by omega) hR back)
      · exact LJ.tabIn C (tgt := 671) dL_33 (by decide) (by decide) (off := 638) (by decide) (by decide) (cs_law C (by omega) (by omega) hR back)
      · exact LJ.tabIn C (tgt := 734) dL_33 (by decide) (by decide) (off := 701) (by decide) (by decide) (cs_clashes C (by omega) (by omega) hR back)
      · exact LJ.tabIn C (tgt := 767) dL_33 (by decide) (by decide) (off := 734) (by decide) (by decide) (cs_clash C (by omega) (by omega) hR back)
      · exact LJ.tabIn C (tgt := 800) dL_33 (by decide) (by decide) (off := 767) (by decide) (by decide) (cs_quiet C (by omega) (by omega) hR back)
      · exact LJ.tabIn C (tgt := 823) dL_33 (by decide) (by decide) (off := 790) (by decide) (by decide) (cs_apart C (by omega) (by omega) hR back)
      · exact LJ.tabIn C (tgt := 866) dL_33 (by decide) (by decide) (off := 833) (by decide) (by decide) (cs_slate C (by omega) (by omega) hR back)
      · exact LJ.tabIn C (tgt := 909) dL_33 (by decide) (by decide) (off := 876) (by decide) (by decide) (cs_least C (by omega) (by omega) hR back)
      · exact LJ.tabIn C (tgt := 932) dL_33 (by decide) (by decide) (off := 899) (by decide) (by decide) (cs_hang C (by omega) (by omega) hR back)
      · exact LJ.tabIn C (tgt := 955) dL_33 (by decide) (by decide) (off := 922) (by decide) (by decide) (cs_silence C (by omega) (by omega) hR back)
      · exact LJ.tabIn C (tgt := 988) dL_33 (by decide) (by decide) (off := 955) (by decide) (by decide) (cs_winds C (by omega) (by omega) hR back)
      · exact LJ.tabIn C (tgt := 1011) dL_33 (by decide) (by decide) (off := 978) (by decide) (by decide) (cs_holds C (by omega) (by omega) hR back)
      · exact LJ.tabIn C (tgt := 1054) dL_33 (by decide) (by decide) (off := 1021) (by decide) (by decide) (cs_chance C (by omega) (by omega) hR back)
      · exact LJ.tabIn C (tgt := 1097) dL_33 (by decide) (by decide) (off := 1064) (by decide) (by decide) (cs_hangs C (by omega) (by omega) hR back)
      · exact LJ.tabIn C (tgt := 1130) dL_33 (by decide) (by decide) (off := 1097) (by decide) (by decide) (cs_place C (by omega) (by omega) hR back)
      · exact LJ.tabIn C (tgt := 1163) dL_33 (by decide) (by decide) (off := 1130) (by decide) (by decide) (cs_days C (by omega) (by omega) hR back)
      · exact LJ.tabIn C (tgt := 1186) dL_33 (by decide) (by decide) (off := 1153) (by decide) (by decide) (cs_then C (by omega) (by omega) hR back)
      · exact LJ.tabIn C (tgt := 1219) dL_33 (by decide) (by decide) (off := 1186) (by decide) (by decide) (cs_seed C (by omega) (by omega) hR back)
      · exact LJ.tabIn C (tgt := 1242) dL_33 (by decide) (by decide) (off := 1209) (by decide) (by decide) (cs_voice C (by omega) (by omega) hR back)
      · exact LJ.tabIn C (tgt := 1285) dL_33 (by decide) (by decide) (off := 1252) (by decide) (by decide) (cs_trace C (by omega) (by omega) hR back)
      · exact LJ.tabIn C (tgt := 1308) dL_33 (by decide) (by decide) (off := 1275) (by decide) (by decide) (cs_sheet C (by omega) (by omega) hR back)
      · exact LJ.tabIn C (tgt := 1351) dL_33 (by decide) (by decide) (off := 1318) (by decide) (by decide) (cs_put C (by omega) (by omega) hR back)
      · exact LJ.tabIn C (tgt := 1394) dL_33 (by decide) (by decide) (off := 1361) (by decide) (by decide) (cs_move C (by omega) (by omega) hR back)
      · exact LJ.tabIn C (tgt := 1457) dL_33 (by decide) (by decide) (off := 1424) (by decide) (by decide) (cs_image C (by omega) (by omega) hR back)
      · exact LJ.tabIn C (tgt := 1470) dL_33 (by decide) (by decide) (off := 1437) (by decide) (by decide) (cs_restore C (by omega) (by omega) hR back)
      · exact LJ.tabIn C (tgt := 1483) dL_33 (by decide) (by decide) (off := 1450) (by decide) (by decide) (cs_tell C (by omega) (by omega) hR back)
      · exact LJ.tabIn C (tgt := 1506) dL_33 (by decide) (by decide) (off := 1473) (by decide) (by decide) (cs_check C (by omega) (by omega) hR back)
      · exact LJ.tabIn C (tgt := 1529) dL_33 (by decide) (by decide) (off := 1496) (by decide) (by decide) (cs_count C (by omega) (by omega) hR back)
      · exact LJ.tabIn C (tgt := 1552) dL_33 (by decide) (by decide) (off := 1519) (by decide) (by decide) (cs_told C (by omega) (by omega) hR back)
      · refine LJ.tabOut C (tgt := 1575) dL_33 (Or.inr ?_) (by decide) (back M1 M2 hR)
        rw [nI_toInt (by omega)]
        omega

