/-! ===== Bell ===== -/
def strk (k m s h : Int32) : Bool := decide (s = 0) && (if k = 1 then decide (6 ≤ h) && decide (h ≤ 22) else if k = 2 then decide (h = 8) || (decide (h = 12) || decide (h = 16)) else if k = 4 then (decide (6 ≤ h) && decide (h ≤ 22)) || decide (h = 0) else if k = 5 then (decide (6 ≤ h) && decide (h ≤ 22)) && decide (h = m) else if k = 6 then !decide (h = m) else true)
theorem Qi {Q : Option Value → Mem → Prop} {x y : Int32} {M : Mem} (h : Q (some (.int y)) M) (e : x = y) : Q (some (.int x)) M := e ▸ h
theorem Qm {Q : Option Value → Mem → Prop} {r : Option Value} {M M' : Mem} (h : Q r M') (e : M = M') : Q r M := e ▸ h
theorem Qim {Q : Option Value → Mem → Prop} {x y : Int32} {M M' : Mem} (h : Q (some (.int y)) M') (e : x = y) (e2 : M = M') : Q (some (.int x)) M := e ▸ e2 ▸ h
theorem Int32.nlt' {a b : Int32} (h : ¬ a < b) : b ≤ a := Int32.not_lt.mp h
set_option maxHeartbeats 4000000 in
set_option maxRecDepth 100000 in
theorem c_ringsAt {g : GG} {d : Nat} {M : Mem} {Q : Option Value → Mem → Prop} {b : Nat} {hour : Int32} (hb : b < 8) (hQ : Q (some (.int (b2i (strk (M (30 + b) 0) (M (30 + b) 1) (M (30 + b) 6) hour = true)))) M) : V cS g d mX0_ringsAt 0 [some (.ref (30 + b)), some (.int hour), none] [] M Q := by
  refine V.aload_n dX0_ringsAt_0 rfl (i := 0) rfl ?_
  refine V.getI dX0_ringsAt_1 rfl flRX0_37 (fkB30 (by first | assumption | decide | omega) (by decide)) (inB30 (by first | assumption | decide | omega)) ?_
  refine V.if_eq (tgt := 9) dX0_ringsAt_4 (by decide) (fun c4 => ?_) (fun c4 => ?_)
  · refine V.iload_n dX0_ringsAt_9 rfl (i := 1) rfl ?_
    refine V.bipush dX0_ringsAt_10 (v := 6) (by decide) ?_
    suffices kJ12 : V cS g d mX0_ringsAt 26 [some (.ref (30 + b)), some (.int hour), none] [.int (if hour < (6 : Int32) then (0 : Int32) else (if (22 : Int32) < hour then (0 : Int32) else (1 : Int32)))] M Q by
      refine V.ic_lt (tgt := 25) dX0_ringsAt_12 (by decide) (fun c12 => ?_) (fun c12 => ?_)
      · refine V.iconst dX0_ringsAt_25 (v := 0) (by decide) ?_
        rw [if_pos c12] at kJ12; exact kJ12
      · refine V.iload_n dX0_ringsAt_15 rfl (i := 1) rfl ?_
        refine V.bipush dX0_ringsAt_16 (v := 22) (by decide) ?_
        refine V.ic_gt (tgt := 25) dX0_ringsAt_18 (by decide) (fun c18 => ?_) (fun c18 => ?_)
        · refine V.iconst dX0_ringsAt_25 (v := 0) (by decide) ?_
          rw [if_neg c12, if_pos c18] at kJ12; exact kJ12
        · refine V.iconst dX0_ringsAt_21 (v := 1) (by decide) ?_
          refine V.goto dX0_ringsAt_22 (tgt := 26) (by decide) ?_
          rw [if_neg c12, if_neg c18] at kJ12; exact kJ12
    refine V.istore_n dX0_ringsAt_26 rfl (i := 2) (by decide) (fun _ h => by cases h; exact Or.inl rfl) rfl ?_
    refine V.aload_n dX0_ringsAt_27 rfl (i := 0) rfl ?_
    refine V.getI dX0_ringsAt_28 rfl flRX0_18 (fkB30 (by first | assumption | decide | omega) (by decide)) (inB30 (by first | assumption | decide | omega)) ?_
    by_cases s31_1 : (M (30 + b) 0) = (1 : Int32)
    · refine V.tabIn (tgt := 68) dX0_ringsAt_31 (by rw [s31_1]; decide) (by rw [s31_1]; decide) (by rw [s31_1]; rfl) (by decide) ?_
      refine V.iload_n dX0_ringsAt_68 rfl (i := 2) rfl ?_
      exact V.zret dX0_ringsAt_69 rfl (by first | exact Or.inl rfl | exact Or.inr rfl | assumption | exact b2i_zo _ | (repeat' split) <;> first | exact Or.inl rfl | exact Or.inr rfl | assumption | exact b2i_zo _) (Qi hQ (by unfold b2i strk; (repeat' split) <;> (try simp_all [Int32.not_le, Int32.not_lt]) <;> (try (simp only [Int32.lt_iff_toInt_lt, Int32.le_iff_toInt_le, ← Int32.toInt_inj, Int32.reduceToInt] at *; omega))))
    by_cases s31_2 : (M (30 + b) 0) = (2 : Int32)
    · refine V.tabIn (tgt := 70) dX0_ringsAt_31 (by rw [s31_2]; decide) (by rw [s31_2]; decide) (by rw [s31_2]; rfl) (by decide) ?_
      refine V.iload_n dX0_ringsAt_70 rfl (i := 1) rfl ?_
      refine V.bipush dX0_ringsAt_71 (v := 8) (by decide) ?_
      suffices kJ73 : V cS g d mX0_ringsAt 93 [some (.ref (30 + b)), some (.int hour), some (.int (if hour < (6 : Int32) then (0 : Int32) else (if (22 : Int32) < hour then (0 : Int32) else (1 : Int32))))] [.int (if hour = (8 : Int32) then (1 : Int32) else (if hour = (12 : Int32) then (1 : Int32) else (if hour = (16 : Int32) then (1 : Int32) else (0 : Int32))))] M Q by
        refine V.ic_eq (tgt := 88) dX0_ringsAt_73 (by decide) (fun c73 => ?_) (fun c73 => ?_)
        · refine V.iconst dX0_ringsAt_88 (v := 1) (by decide) ?_
          refine V.goto dX0_ringsAt_89 (tgt := 93) (by decide) ?_
          rw [if_pos c73] at kJ73; exact kJ73
        · refine V.iload_n dX0_ringsAt_76 rfl (i := 1) rfl ?_
          refine V.bipush dX0_ringsAt_77 (v := 12) (by decide) ?_
          refine V.ic_eq (tgt := 88) dX0_ringsAt_79 (by decide) (fun c79 => ?_) (fun c79 => ?_)
          · refine V.iconst dX0_ringsAt_88 (v := 1) (by decide) ?_
            refine V.goto dX0_ringsAt_89 (tgt := 93) (by decide) ?_
            rw [if_neg c73, if_pos c79] at kJ73; exact kJ73
          · refine V.iload_n dX0_ringsAt_82 rfl (i := 1) rfl ?_
            refine V.bipush dX0_ringsAt_83 (v := 16) (by decide) ?_
            refine V.ic_ne (tgt := 92) dX0_ringsAt_85 (by decide) (fun c85 => ?_) (fun c85 => ?_)
            · refine V.iconst dX0_ringsAt_92 (v := 0) (by decide) ?_
              rw [if_neg c73, if_neg c79, if_neg c85] at kJ73; exact kJ73
            · refine V.iconst dX0_ringsAt_88 (v := 1) (by decide) ?_
              refine V.goto dX0_ringsAt_89 (tgt := 93) (by decide) ?_
              rw [if_neg c73, if_neg c79, if_pos c85] at kJ73; exact kJ73
      exact V.zret dX0_ringsAt_93 rfl (by first | exact Or.inl rfl | exact Or.inr rfl | assumption | exact b2i_zo _ | (repeat' split) <;> first | exact Or.inl rfl | exact Or.inr rfl | assumption | exact b2i_zo _) (Qi hQ (by unfold b2i strk; (repeat' split) <;> (try simp_all [Int32.not_le, Int32.not_lt]) <;> (try (simp only [Int32.lt_iff_toInt_lt, Int32.le_iff_toInt_le, ← Int32.toInt_inj, Int32.reduceToInt] at *; omega))))
    by_cases s31_3 : (M (30 + b) 0) = (3 : Int32)
    · refine V.tabIn (tgt := 140) dX0_ringsAt_31 (by rw [s31_3]; decide) (by rw [s31_3]; decide) (by rw [s31_3]; rfl) (by decide) ?_
      refine V.iconst dX0_ringsAt_140 (v := 1) (by decide) ?_
      exact V.zret dX0_ringsAt_141 rfl (by first | exact Or.inl rfl | exact Or.inr rfl | assumption | exact b2i_zo _ | (repeat' split) <;> first | exact Or.inl rfl | exact Or.inr rfl | assumption | exact b2i_zo _) (Qi hQ (by unfold b2i strk; (repeat' split) <;> (try simp_all [Int32.not_le, Int32.not_lt]) <;> (try (simp only [Int32.lt_iff_toInt_lt, Int32.le_iff_toInt_le, ← Int32.toInt_inj, Int32.reduceToInt] at *; omega))))
    by_cases s31_4 : (M (30 + b) 0) = (4 : Int32)
    · refine V.tabIn (tgt := 94) dX0_ringsAt_31 (by rw [s31_4]; decide) (by rw [s31_4]; decide) (by rw [s31_4]; rfl) (by decide) ?_
      refine V.iload_n dX0_ringsAt_94 rfl (i := 2) rfl ?_
      suffices kJ95 : V cS g d mX0_ringsAt 107 [some (.ref (30 + b)), some (.int hour), some (.int (if hour < (6 : Int32) then (0 : Int32) else (if (22 : Int32) < hour then (0 : Int32) else (1 : Int32))))] [.int (if (if hour < (6 : Int32) then (0 : Int32) else (if (22 : Int32) < hour then (0 : Int32) else (1 : Int32))) = (0 : Int32) then (if hour = (0 : Int32) then (1 : Int32) else (0 : Int32)) else (1 : Int32))] M Q by
        refine V.if_ne (tgt := 102) dX0_ringsAt_95 (by decide) (fun c95 => ?_) (fun c95 => ?_)
        · refine V.iconst dX0_ringsAt_102 (v := 1) (by decide) ?_
          refine V.goto dX0_ringsAt_103 (tgt := 107) (by decide) ?_
          rw [if_neg c95] at kJ95; exact kJ95
        · refine V.iload_n dX0_ringsAt_98 rfl (i := 1) rfl ?_
          refine V.if_ne (tgt := 106) dX0_ringsAt_99 (by decide) (fun c99 => ?_) (fun c99 => ?_)
          · refine V.iconst dX0_ringsAt_106 (v := 0) (by decide) ?_
            rw [if_pos c95, if_neg c99] at kJ95; exact kJ95
          · refine V.iconst dX0_ringsAt_102 (v := 1) (by decide) ?_
            refine V.goto dX0_ringsAt_103 (tgt := 107) (by decide) ?_
            rw [if_pos c95, if_pos c99] at kJ95; exact kJ95
      exact V.zret dX0_ringsAt_107 rfl (by first | exact Or.inl rfl | exact Or.inr rfl | assumption | exact b2i_zo _ | (repeat' split) <;> first | exact Or.inl rfl | exact Or.inr rfl | assumption | exact b2i_zo _) (Qi hQ (by unfold b2i strk; (repeat' split) <;> (try simp_all [Int32.not_le, Int32.not_lt]) <;> (try (simp only [Int32.lt_iff_toInt_lt, Int32.le_iff_toInt_le, ← Int32.toInt_inj, Int32.reduceToInt] at *; omega))))
    by_cases s31_5 : (M (30 + b) 0) = (5 : Int32)
    · refine V.tabIn (tgt := 108) dX0_ringsAt_31 (by rw [s31_5]; decide) (by rw [s31_5]; decide) (by rw [s31_5]; rfl) (by decide) ?_
      refine V.iload_n dX0_ringsAt_108 rfl (i := 2) rfl ?_
      suffices kJ109 : V cS g d mX0_ringsAt 125 [some (.ref (30 + b)), some (.int hour), some (.int (if hour < (6 : Int32) then (0 : Int32) else (if (22 : Int32) < hour then (0 : Int32) else (1 : Int32))))] [.int (if (if hour < (6 : Int32) then (0 : Int32) else (if (22 : Int32) < hour then (0 : Int32) else (1 : Int32))) = (0 : Int32) then (0 : Int32) else (if hour = (M (30 + b) 1) then (1 : Int32) else (0 : Int32)))] M Q by
        refine V.if_eq (tgt := 124) dX0_ringsAt_109 (by decide) (fun c109 => ?_) (fun c109 => ?_)
        · refine V.iconst dX0_ringsAt_124 (v := 0) (by decide) ?_
          rw [if_pos c109] at kJ109; exact kJ109
        · refine V.iload_n dX0_ringsAt_112 rfl (i := 1) rfl ?_
          refine V.aload_n dX0_ringsAt_113 rfl (i := 0) rfl ?_
          refine V.getI dX0_ringsAt_114 rfl flRX0_22 (fkB30 (by first | assumption | decide | omega) (by decide)) (inB30 (by first | assumption | decide | omega)) ?_
          refine V.ic_ne (tgt := 124) dX0_ringsAt_117 (by decide) (fun c117 => ?_) (fun c117 => ?_)
          · refine V.iconst dX0_ringsAt_124 (v := 0) (by decide) ?_
            rw [if_neg c109, if_neg c117] at kJ109; exact kJ109
          · refine V.iconst dX0_ringsAt_120 (v := 1) (by decide) ?_
            refine V.goto dX0_ringsAt_121 (tgt := 125) (by decide) ?_
            rw [if_neg c109, if_pos c117] at kJ109; exact kJ109
      exact V.zret dX0_ringsAt_125 rfl (by first | exact Or.inl rfl | exact Or.inr rfl | assumption | exact b2i_zo _ | (repeat' split) <;> first | exact Or.inl rfl | exact Or.inr rfl | assumption | exact b2i_zo _) (Qi hQ (by unfold b2i strk; (repeat' split) <;> (try simp_all [Int32.not_le, Int32.not_lt]) <;> (try (simp only [Int32.lt_iff_toInt_lt, Int32.le_iff_toInt_le, ← Int32.toInt_inj, Int32.reduceToInt] at *; omega))))
    by_cases s31_6 : (M (30 + b) 0) = (6 : Int32)
    · refine V.tabIn (tgt := 126) dX0_ringsAt_31 (by rw [s31_6]; decide) (by rw [s31_6]; decide) (by rw [s31_6]; rfl) (by decide) ?_
      refine V.iload_n dX0_ringsAt_126 rfl (i := 1) rfl ?_
      refine V.aload_n dX0_ringsAt_127 rfl (i := 0) rfl ?_
      refine V.getI dX0_ringsAt_128 rfl flRX0_22 (fkB30 (by first | assumption | decide | omega) (by decide)) (inB30 (by first | assumption | decide | omega)) ?_
      suffices kJ131 : V cS g d mX0_ringsAt 139 [some (.ref (30 + b)), some (.int hour), some (.int (if hour < (6 : Int32) then (0 : Int32) else (if (22 : Int32) < hour then (0 : Int32) else (1 : Int32))))] [.int (if hour = (M (30 + b) 1) then (0 : Int32) else (1 : Int32))] M Q by
        refine V.ic_eq (tgt := 138) dX0_ringsAt_131 (by decide) (fun c131 => ?_) (fun c131 => ?_)
        · refine V.iconst dX0_ringsAt_138 (v := 0) (by decide) ?_
          rw [if_pos c131] at kJ131; exact kJ131
        · refine V.iconst dX0_ringsAt_134 (v := 1) (by decide) ?_
          refine V.goto dX0_ringsAt_135 (tgt := 139) (by decide) ?_
          rw [if_neg c131] at kJ131; exact kJ131
      exact V.zret dX0_ringsAt_139 rfl (by first | exact Or.inl rfl | exact Or.inr rfl | assumption | exact b2i_zo _ | (repeat' split) <;> first | exact Or.inl rfl | exact Or.inr rfl | assumption | exact b2i_zo _) (Qi hQ (by unfold b2i strk; (repeat' split) <;> (try simp_all [Int32.not_le, Int32.not_lt]) <;> (try (simp only [Int32.lt_iff_toInt_lt, Int32.le_iff_toInt_le, ← Int32.toInt_inj, Int32.reduceToInt] at *; omega))))
    · refine V.tabOut (tgt := 140) dX0_ringsAt_31 (by have z0 := lv_neT (a := 1) s31_1 (by decide); have z1 := lv_neT (a := 2) s31_2 (by decide); have z2 := lv_neT (a := 3) s31_3 (by decide); have z3 := lv_neT (a := 4) s31_4 (by decide); have z4 := lv_neT (a := 5) s31_5 (by decide); have z5 := lv_neT (a := 6) s31_6 (by decide); omega) (by decide) ?_
      refine V.iconst dX0_ringsAt_140 (v := 1) (by decide) ?_
      exact V.zret dX0_ringsAt_141 rfl (by first | exact Or.inl rfl | exact Or.inr rfl | assumption | exact b2i_zo _ | (repeat' split) <;> first | exact Or.inl rfl | exact Or.inr rfl | assumption | exact b2i_zo _) (Qi hQ (by unfold b2i strk; (repeat' split) <;> (try simp_all [Int32.not_le, Int32.not_lt]) <;> (try (simp only [Int32.lt_iff_toInt_lt, Int32.le_iff_toInt_le, ← Int32.toInt_inj, Int32.reduceToInt] at *; omega))))
  · refine V.iconst dX0_ringsAt_7 (v := 0) (by decide) ?_
    exact V.zret dX0_ringsAt_8 rfl (by first | exact Or.inl rfl | exact Or.inr rfl | assumption | exact b2i_zo _ | (repeat' split) <;> first | exact Or.inl rfl | exact Or.inr rfl | assumption | exact b2i_zo _) (Qi hQ (by unfold b2i strk; (repeat' split) <;> (try simp_all [Int32.not_le, Int32.not_lt]) <;> (try (simp only [Int32.lt_iff_toInt_lt, Int32.le_iff_toInt_le, ← Int32.toInt_inj, Int32.reduceToInt] at *; omega))))


