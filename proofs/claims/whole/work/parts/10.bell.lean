/-! ===== Bell, and what is said of ints alone ===== -/
def strk (k m s h : Int32) : Bool := decide (s = 0) && (if k = 1 then decide (6 ≤ h) && decide (h ≤ 22) else if k = 2 then decide (h = 8) || (decide (h = 12) || decide (h = 16)) else if k = 4 then (decide (6 ≤ h) && decide (h ≤ 22)) || decide (h = 0) else if k = 5 then (decide (6 ≤ h) && decide (h ≤ 22)) && decide (h = m) else if k = 6 then !decide (h = m) else true)
theorem Qi {Q : Option Value → Mem → Prop} {x y : Int32} {M : Mem} (h : Q (some (.int y)) M) (e : x = y) : Q (some (.int x)) M := e ▸ h
theorem Qm {Q : Option Value → Mem → Prop} {r : Option Value} {M M' : Mem} (h : Q r M') (e : M = M') : Q r M := e ▸ h
theorem Qim {Q : Option Value → Mem → Prop} {x y : Int32} {M M' : Mem} (h : Q (some (.int y)) M') (e : x = y) (e2 : M = M') : Q (some (.int x)) M := e ▸ e2 ▸ h
def mayB (what v : Int32) : Bool := if what = 2 ∨ what = 3 ∨ what = 5 then decide (0 ≤ v) && decide (v ≤ 99) else if what = 4 then decide (-900 ≤ v) && decide (v ≤ 900) else if what = 6 then decide (0 ≤ v) && decide (v ≤ 1) else false
/-- of a kind, or of one under it -/
def isOfB (own k : Int32) : Bool := decide (k = 0) || (decide (k = own) || ((decide (k = 1) && (decide (own = 4) || decide (own = 5))) || (decide (k = 3) && decide (own = 6))))
def wayF (f t w : Int32) : Int32 := (if 0 < (3 * (if 0 ≤ f - t then f - t else 0 - (f - t)) + (if t ≤ f then w * (if 0 ≤ f - t then f - t else 0 - (f - t)) / 5 else -(w * (if 0 ≤ f - t then f - t else 0 - (f - t)) / 5))) then (3 * (if 0 ≤ f - t then f - t else 0 - (f - t)) + (if t ≤ f then w * (if 0 ≤ f - t then f - t else 0 - (f - t)) / 5 else -(w * (if 0 ≤ f - t then f - t else 0 - (f - t)) / 5))) else 0)
def heldF (v lo hi : Int32) : Int32 := if lo < (if v < hi then v else hi) then (if v < hi then v else hi) else lo

set_option maxHeartbeats 4000000 in
set_option maxRecDepth 100000 in
theorem c_ringsAt {g : GG} {d : Nat} {M : Mem} {Q : Option Value → Mem → Prop} {b : Nat} {hour : Int32} (hb : b < 8) (hQ : Q (some (.int (b2i (strk (M (30 + b) 0) (M (30 + b) 1) (M (30 + b) 6) hour = true)))) (M)) : V cS g d mX0_ringsAt 0 [some (.ref (30 + b)), some (.int hour), none] [] M Q := by
  refine V.aload_n dX0_ringsAt_0 rfl (i := 0) rfl ?_
  refine V.getI dX0_ringsAt_1 rfl flRX0_37 (fkB30 (by first | assumption | decide | omega) (by decide)) (inB30 (by first | assumption | decide | omega)) ?_
  refine V.if_eq (tgt := 9) dX0_ringsAt_4 (by decide) (fun c4 => ?_) (fun c4 => ?_)
  · refine V.iload_n dX0_ringsAt_9 rfl (i := 1) rfl ?_
    refine V.bipush dX0_ringsAt_10 (v := 6) (by decide) ?_
    suffices kJ12 : V cS g d mX0_ringsAt 26 [some (.ref (30 + b)), some (.int hour), none] [.int (if hour < (6 : Int32) then (0 : Int32) else (if (22 : Int32) < hour then (0 : Int32) else (1 : Int32)))] M Q by
      refine V.ic_lt (tgt := 25) dX0_ringsAt_12 (by decide) (fun c12 => ?_) (fun c12 => ?_)
      · refine V.iconst dX0_ringsAt_25 (v := 0) (by decide) ?_
        rw [if_pos c12] at kJ12; exact kJ12
      · refine V.iload_n dX0_ringsAt_15 rfl (i := 1) rfl ?_
        refine V.bipush dX0_ringsAt_16 (v := 22) (by decide) ?_
        refine V.ic_gt (tgt := 25) dX0_ringsAt_18 (by decide) (fun c18 => ?_) (fun c18 => ?_)
        · refine V.iconst dX0_ringsAt_25 (v := 0) (by decide) ?_
          rw [if_neg c12, if_pos c18] at kJ12; exact kJ12
        · refine V.iconst dX0_ringsAt_21 (v := 1) (by decide) ?_
          refine V.goto dX0_ringsAt_22 (tgt := 26) (by decide) ?_
          rw [if_neg c12, if_neg c18] at kJ12; exact kJ12
    refine V.istore_n dX0_ringsAt_26 rfl (i := 2) (by decide) (fun _ h => by cases h; exact Or.inl rfl) rfl ?_
    refine V.aload_n dX0_ringsAt_27 rfl (i := 0) rfl ?_
    refine V.getI dX0_ringsAt_28 rfl flRX0_18 (fkB30 (by first | assumption | decide | omega) (by decide)) (inB30 (by first | assumption | decide | omega)) ?_
    by_cases s31_1 : (M (30 + b) 0) = (1 : Int32)
    · refine V.tabIn (tgt := 68) dX0_ringsAt_31 (by rw [s31_1]; decide) (by rw [s31_1]; decide) (by rw [s31_1]; rfl) (by decide) ?_
      refine V.iload_n dX0_ringsAt_68 rfl (i := 2) rfl ?_
      exact V.zret dX0_ringsAt_69 rfl (by first | exact Or.inl rfl | exact Or.inr rfl | assumption | exact b2i_zo _ | (repeat' split) <;> first | exact Or.inl rfl | exact Or.inr rfl | assumption | exact b2i_zo _) (Qi hQ (by unfold b2i strk; (repeat' split) <;> (try simp_all [Int32.not_le, Int32.not_lt]) <;> (try (simp only [Int32.lt_iff_toInt_lt, Int32.le_iff_toInt_le, ← Int32.toInt_inj, Int32.reduceToInt] at *; omega))))
    by_cases s31_2 : (M (30 + b) 0) = (2 : Int32)
    · refine V.tabIn (tgt := 70) dX0_ringsAt_31 (by rw [s31_2]; decide) (by rw [s31_2]; decide) (by rw [s31_2]; rfl) (by decide) ?_
      refine V.iload_n dX0_ringsAt_70 rfl (i := 1) rfl ?_
      refine V.bipush dX0_ringsAt_71 (v := 8) (by decide) ?_
      suffices kJ73 : V cS g d mX0_ringsAt 93 [some (.ref (30 + b)), some (.int hour), some (.int (if hour < (6 : Int32) then (0 : Int32) else (if (22 : Int32) < hour then (0 : Int32) else (1 : Int32))))] [.int (if hour = (8 : Int32) then (1 : Int32) else (if hour = (12 : Int32) then (1 : Int32) else (if hour = (16 : Int32) then (1 : Int32) else (0 : Int32))))] M Q by
        refine V.ic_eq (tgt := 88) dX0_ringsAt_73 (by decide) (fun c73 => ?_) (fun c73 => ?_)
        · refine V.iconst dX0_ringsAt_88 (v := 1) (by decide) ?_
          refine V.goto dX0_ringsAt_89 (tgt := 93) (by decide) ?_
          rw [if_pos c73] at kJ73; exact kJ73
        · refine V.iload_n dX0_ringsAt_76 rfl (i := 1) rfl ?_
          refine V.bipush dX0_ringsAt_77 (v := 12) (by decide) ?_
          refine V.ic_eq (tgt := 88) dX0_ringsAt_79 (by decide) (fun c79 => ?_) (fun c79 => ?_)
          · refine V.iconst dX0_ringsAt_88 (v := 1) (by decide) ?_
            refine V.goto dX0_ringsAt_89 (tgt := 93) (by decide) ?_
            rw [if_neg c73, if_pos c79] at kJ73; exact kJ73
          · refine V.iload_n dX0_ringsAt_82 rfl (i := 1) rfl ?_
            refine V.bipush dX0_ringsAt_83 (v := 16) (by decide) ?_
            refine V.ic_ne (tgt := 92) dX0_ringsAt_85 (by decide) (fun c85 => ?_) (fun c85 => ?_)
            · refine V.iconst dX0_ringsAt_92 (v := 0) (by decide) ?_
              rw [if_neg c73, if_neg c79, if_neg c85] at kJ73; exact kJ73
            · refine V.iconst dX0_ringsAt_88 (v := 1) (by decide) ?_
              refine V.goto dX0_ringsAt_89 (tgt := 93) (by decide) ?_
              rw [if_neg c73, if_neg c79, if_pos c85] at kJ73; exact kJ73
      exact V.zret dX0_ringsAt_93 rfl (by first | exact Or.inl rfl | exact Or.inr rfl | assumption | exact b2i_zo _ | (repeat' split) <;> first | exact Or.inl rfl | exact Or.inr rfl | assumption | exact b2i_zo _) (Qi hQ (by unfold b2i strk; (repeat' split) <;> (try simp_all [Int32.not_le, Int32.not_lt]) <;> (try (simp only [Int32.lt_iff_toInt_lt, Int32.le_iff_toInt_le, ← Int32.toInt_inj, Int32.reduceToInt] at *; omega))))
    by_cases s31_3 : (M (30 + b) 0) = (3 : Int32)
    · refine V.tabIn (tgt := 140) dX0_ringsAt_31 (by rw [s31_3]; decide) (by rw [s31_3]; decide) (by rw [s31_3]; rfl) (by decide) ?_
      refine V.iconst dX0_ringsAt_140 (v := 1) (by decide) ?_
      exact V.zret dX0_ringsAt_141 rfl (by first | exact Or.inl rfl | exact Or.inr rfl | assumption | exact b2i_zo _ | (repeat' split) <;> first | exact Or.inl rfl | exact Or.inr rfl | assumption | exact b2i_zo _) (Qi hQ (by unfold b2i strk; (repeat' split) <;> (try simp_all [Int32.not_le, Int32.not_lt]) <;> (try (simp only [Int32.lt_iff_toInt_lt, Int32.le_iff_toInt_le, ← Int32.toInt_inj, Int32.reduceToInt] at *; omega))))
    by_cases s31_4 : (M (30 + b) 0) = (4 : Int32)
    · refine V.tabIn (tgt := 94) dX0_ringsAt_31 (by rw [s31_4]; decide) (by rw [s31_4]; decide) (by rw [s31_4]; rfl) (by decide) ?_
      refine V.iload_n dX0_ringsAt_94 rfl (i := 2) rfl ?_
      suffices kJ95 : V cS g d mX0_ringsAt 107 [some (.ref (30 + b)), some (.int hour), some (.int (if hour < (6 : Int32) then (0 : Int32) else (if (22 : Int32) < hour then (0 : Int32) else (1 : Int32))))] [.int (if (if hour < (6 : Int32) then (0 : Int32) else (if (22 : Int32) < hour then (0 : Int32) else (1 : Int32))) = (0 : Int32) then (if hour = (0 : Int32) then (1 : Int32) else (0 : Int32)) else (1 : Int32))] M Q by
        refine V.if_ne (tgt := 102) dX0_ringsAt_95 (by decide) (fun c95 => ?_) (fun c95 => ?_)
        · refine V.iconst dX0_ringsAt_102 (v := 1) (by decide) ?_
          refine V.goto dX0_ringsAt_103 (tgt := 107) (by decide) ?_
          rw [if_neg c95] at kJ95; exact kJ95
        · refine V.iload_n dX0_ringsAt_98 rfl (i := 1) rfl ?_
          refine V.if_ne (tgt := 106) dX0_ringsAt_99 (by decide) (fun c99 => ?_) (fun c99 => ?_)
          · refine V.iconst dX0_ringsAt_106 (v := 0) (by decide) ?_
            rw [if_pos c95, if_neg c99] at kJ95; exact kJ95
          · refine V.iconst dX0_ringsAt_102 (v := 1) (by decide) ?_
            refine V.goto dX0_ringsAt_103 (tgt := 107) (by decide) ?_
            rw [if_pos c95, if_pos c99] at kJ95; exact kJ95
      exact V.zret dX0_ringsAt_107 rfl (by first | exact Or.inl rfl | exact Or.inr rfl | assumption | exact b2i_zo _ | (repeat' split) <;> first | exact Or.inl rfl | exact Or.inr rfl | assumption | exact b2i_zo _) (Qi hQ (by unfold b2i strk; (repeat' split) <;> (try simp_all [Int32.not_le, Int32.not_lt]) <;> (try (simp only [Int32.lt_iff_toInt_lt, Int32.le_iff_toInt_le, ← Int32.toInt_inj, Int32.reduceToInt] at *; omega))))
    by_cases s31_5 : (M (30 + b) 0) = (5 : Int32)
    · refine V.tabIn (tgt := 108) dX0_ringsAt_31 (by rw [s31_5]; decide) (by rw [s31_5]; decide) (by rw [s31_5]; rfl) (by decide) ?_
      refine V.iload_n dX0_ringsAt_108 rfl (i := 2) rfl ?_
      suffices kJ109 : V cS g d mX0_ringsAt 125 [some (.ref (30 + b)), some (.int hour), some (.int (if hour < (6 : Int32) then (0 : Int32) else (if (22 : Int32) < hour then (0 : Int32) else (1 : Int32))))] [.int (if (if hour < (6 : Int32) then (0 : Int32) else (if (22 : Int32) < hour then (0 : Int32) else (1 : Int32))) = (0 : Int32) then (0 : Int32) else (if hour = (M (30 + b) 1) then (1 : Int32) else (0 : Int32)))] M Q by
        refine V.if_eq (tgt := 124) dX0_ringsAt_109 (by decide) (fun c109 => ?_) (fun c109 => ?_)
        · refine V.iconst dX0_ringsAt_124 (v := 0) (by decide) ?_
          rw [if_pos c109] at kJ109; exact kJ109
        · refine V.iload_n dX0_ringsAt_112 rfl (i := 1) rfl ?_
          refine V.aload_n dX0_ringsAt_113 rfl (i := 0) rfl ?_
          refine V.getI dX0_ringsAt_114 rfl flRX0_22 (fkB30 (by first | assumption | decide | omega) (by decide)) (inB30 (by first | assumption | decide | omega)) ?_
          refine V.ic_ne (tgt := 124) dX0_ringsAt_117 (by decide) (fun c117 => ?_) (fun c117 => ?_)
          · refine V.iconst dX0_ringsAt_124 (v := 0) (by decide) ?_
            rw [if_neg c109, if_neg c117] at kJ109; exact kJ109
          · refine V.iconst dX0_ringsAt_120 (v := 1) (by decide) ?_
            refine V.goto dX0_ringsAt_121 (tgt := 125) (by decide) ?_
            rw [if_neg c109, if_pos c117] at kJ109; exact kJ109
      exact V.zret dX0_ringsAt_125 rfl (by first | exact Or.inl rfl | exact Or.inr rfl | assumption | exact b2i_zo _ | (repeat' split) <;> first | exact Or.inl rfl | exact Or.inr rfl | assumption | exact b2i_zo _) (Qi hQ (by unfold b2i strk; (repeat' split) <;> (try simp_all [Int32.not_le, Int32.not_lt]) <;> (try (simp only [Int32.lt_iff_toInt_lt, Int32.le_iff_toInt_le, ← Int32.toInt_inj, Int32.reduceToInt] at *; omega))))
    by_cases s31_6 : (M (30 + b) 0) = (6 : Int32)
    · refine V.tabIn (tgt := 126) dX0_ringsAt_31 (by rw [s31_6]; decide) (by rw [s31_6]; decide) (by rw [s31_6]; rfl) (by decide) ?_
      refine V.iload_n dX0_ringsAt_126 rfl (i := 1) rfl ?_
      refine V.aload_n dX0_ringsAt_127 rfl (i := 0) rfl ?_
      refine V.getI dX0_ringsAt_128 rfl flRX0_22 (fkB30 (by first | assumption | decide | omega) (by decide)) (inB30 (by first | assumption | decide | omega)) ?_
      suffices kJ131 : V cS g d mX0_ringsAt 139 [some (.ref (30 + b)), some (.int hour), some (.int (if hour < (6 : Int32) then (0 : Int32) else (if (22 : Int32) < hour then (0 : Int32) else (1 : Int32))))] [.int (if hour = (M (30 + b) 1) then (0 : Int32) else (1 : Int32))] M Q by
        refine V.ic_eq (tgt := 138) dX0_ringsAt_131 (by decide) (fun c131 => ?_) (fun c131 => ?_)
        · refine V.iconst dX0_ringsAt_138 (v := 0) (by decide) ?_
          rw [if_pos c131] at kJ131; exact kJ131
        · refine V.iconst dX0_ringsAt_134 (v := 1) (by decide) ?_
          refine V.goto dX0_ringsAt_135 (tgt := 139) (by decide) ?_
          rw [if_neg c131] at kJ131; exact kJ131
      exact V.zret dX0_ringsAt_139 rfl (by first | exact Or.inl rfl | exact Or.inr rfl | assumption | exact b2i_zo _ | (repeat' split) <;> first | exact Or.inl rfl | exact Or.inr rfl | assumption | exact b2i_zo _) (Qi hQ (by unfold b2i strk; (repeat' split) <;> (try simp_all [Int32.not_le, Int32.not_lt]) <;> (try (simp only [Int32.lt_iff_toInt_lt, Int32.le_iff_toInt_le, ← Int32.toInt_inj, Int32.reduceToInt] at *; omega))))
    · refine V.tabOut (tgt := 140) dX0_ringsAt_31 (by have z0 := lv_neT (a := 1) s31_1 (by decide); have z1 := lv_neT (a := 2) s31_2 (by decide); have z2 := lv_neT (a := 3) s31_3 (by decide); have z3 := lv_neT (a := 4) s31_4 (by decide); have z4 := lv_neT (a := 5) s31_5 (by decide); have z5 := lv_neT (a := 6) s31_6 (by decide); omega) (by decide) ?_
      refine V.iconst dX0_ringsAt_140 (v := 1) (by decide) ?_
      exact V.zret dX0_ringsAt_141 rfl (by first | exact Or.inl rfl | exact Or.inr rfl | assumption | exact b2i_zo _ | (repeat' split) <;> first | exact Or.inl rfl | exact Or.inr rfl | assumption | exact b2i_zo _) (Qi hQ (by unfold b2i strk; (repeat' split) <;> (try simp_all [Int32.not_le, Int32.not_lt]) <;> (try (simp only [Int32.lt_iff_toInt_lt, Int32.le_iff_toInt_le, ← Int32.toInt_inj, Int32.reduceToInt] at *; omega))))
  · refine V.iconst dX0_ringsAt_7 (v := 0) (by decide) ?_
    exact V.zret dX0_ringsAt_8 rfl (by first | exact Or.inl rfl | exact Or.inr rfl | assumption | exact b2i_zo _ | (repeat' split) <;> first | exact Or.inl rfl | exact Or.inr rfl | assumption | exact b2i_zo _) (Qi hQ (by unfold b2i strk; (repeat' split) <;> (try simp_all [Int32.not_le, Int32.not_lt]) <;> (try (simp only [Int32.lt_iff_toInt_lt, Int32.le_iff_toInt_le, ← Int32.toInt_inj, Int32.reduceToInt] at *; omega))))
set_option maxHeartbeats 4000000 in
set_option maxRecDepth 100000 in
theorem c_isSpot {g : GG} {d : Nat} {M : Mem} {Q : Option Value → Mem → Prop} {a : Int32}  (hQ : Q (some (.int (b2i (0 ≤ a ∧ a ≤ 99)))) (M)) : V cS g d mX9_isSpot 0 [some (.int a)] [] M Q := by
  refine V.iload_n dX9_isSpot_0 rfl (i := 0) rfl ?_
  suffices kJ1 : V cS g d mX9_isSpot 15 [some (.int a)] [.int (if a < (0 : Int32) then (0 : Int32) else (if (100 : Int32) ≤ a then (0 : Int32) else (1 : Int32)))] M Q by
    refine V.if_lt (tgt := 14) dX9_isSpot_1 (by decide) (fun c1 => ?_) (fun c1 => ?_)
    · refine V.iconst dX9_isSpot_14 (v := 0) (by decide) ?_
      rw [if_pos c1] at kJ1; exact kJ1
    · refine V.iload_n dX9_isSpot_4 rfl (i := 0) rfl ?_
      refine V.bipush dX9_isSpot_5 (v := 100) (by decide) ?_
      refine V.ic_ge (tgt := 14) dX9_isSpot_7 (by decide) (fun c7 => ?_) (fun c7 => ?_)
      · refine V.iconst dX9_isSpot_14 (v := 0) (by decide) ?_
        rw [if_neg c1, if_pos c7] at kJ1; exact kJ1
      · refine V.iconst dX9_isSpot_10 (v := 1) (by decide) ?_
        refine V.goto dX9_isSpot_11 (tgt := 15) (by decide) ?_
        rw [if_neg c1, if_neg c7] at kJ1; exact kJ1
  exact V.zret dX9_isSpot_15 rfl (by first | exact Or.inl rfl | exact Or.inr rfl | assumption | exact b2i_zo _ | (repeat' split) <;> first | exact Or.inl rfl | exact Or.inr rfl | assumption | exact b2i_zo _) (Qi hQ (by unfold b2i; (repeat' split) <;> (try simp_all [Int32.not_le, Int32.not_lt]) <;> (try (simp only [Int32.lt_iff_toInt_lt, Int32.le_iff_toInt_le, ← Int32.toInt_inj, Int32.reduceToInt] at *; omega))))
set_option maxHeartbeats 4000000 in
set_option maxRecDepth 100000 in
theorem c_isHour {g : GG} {d : Nat} {M : Mem} {Q : Option Value → Mem → Prop} {a : Int32}  (hQ : Q (some (.int (b2i (0 ≤ a ∧ a ≤ 23)))) (M)) : V cS g d mX9_isHour 0 [some (.int a)] [] M Q := by
  refine V.iload_n dX9_isHour_0 rfl (i := 0) rfl ?_
  suffices kJ1 : V cS g d mX9_isHour 15 [some (.int a)] [.int (if a < (0 : Int32) then (0 : Int32) else (if (24 : Int32) ≤ a then (0 : Int32) else (1 : Int32)))] M Q by
    refine V.if_lt (tgt := 14) dX9_isHour_1 (by decide) (fun c1 => ?_) (fun c1 => ?_)
    · refine V.iconst dX9_isHour_14 (v := 0) (by decide) ?_
      rw [if_pos c1] at kJ1; exact kJ1
    · refine V.iload_n dX9_isHour_4 rfl (i := 0) rfl ?_
      refine V.bipush dX9_isHour_5 (v := 24) (by decide) ?_
      refine V.ic_ge (tgt := 14) dX9_isHour_7 (by decide) (fun c7 => ?_) (fun c7 => ?_)
      · refine V.iconst dX9_isHour_14 (v := 0) (by decide) ?_
        rw [if_neg c1, if_pos c7] at kJ1; exact kJ1
      · refine V.iconst dX9_isHour_10 (v := 1) (by decide) ?_
        refine V.goto dX9_isHour_11 (tgt := 15) (by decide) ?_
        rw [if_neg c1, if_neg c7] at kJ1; exact kJ1
  exact V.zret dX9_isHour_15 rfl (by first | exact Or.inl rfl | exact Or.inr rfl | assumption | exact b2i_zo _ | (repeat' split) <;> first | exact Or.inl rfl | exact Or.inr rfl | assumption | exact b2i_zo _) (Qi hQ (by unfold b2i; (repeat' split) <;> (try simp_all [Int32.not_le, Int32.not_lt]) <;> (try (simp only [Int32.lt_iff_toInt_lt, Int32.le_iff_toInt_le, ← Int32.toInt_inj, Int32.reduceToInt] at *; omega))))
set_option maxHeartbeats 4000000 in
set_option maxRecDepth 100000 in
theorem c_isUse {g : GG} {d : Nat} {M : Mem} {Q : Option Value → Mem → Prop} {a : Int32}  (hQ : Q (some (.int (b2i (0 ≤ a ∧ a ≤ 1)))) (M)) : V cS g d mX9_isUse 0 [some (.int a)] [] M Q := by
  refine V.iload_n dX9_isUse_0 rfl (i := 0) rfl ?_
  suffices kJ1 : V cS g d mX9_isUse 14 [some (.int a)] [.int (if a = (0 : Int32) then (1 : Int32) else (if a = (1 : Int32) then (1 : Int32) else (0 : Int32)))] M Q by
    refine V.if_eq (tgt := 9) dX9_isUse_1 (by decide) (fun c1 => ?_) (fun c1 => ?_)
    · refine V.iconst dX9_isUse_9 (v := 1) (by decide) ?_
      refine V.goto dX9_isUse_10 (tgt := 14) (by decide) ?_
      rw [if_pos c1] at kJ1; exact kJ1
    · refine V.iload_n dX9_isUse_4 rfl (i := 0) rfl ?_
      refine V.iconst dX9_isUse_5 (v := 1) (by decide) ?_
      refine V.ic_ne (tgt := 13) dX9_isUse_6 (by decide) (fun c6 => ?_) (fun c6 => ?_)
      · refine V.iconst dX9_isUse_13 (v := 0) (by decide) ?_
        rw [if_neg c1, if_neg c6] at kJ1; exact kJ1
      · refine V.iconst dX9_isUse_9 (v := 1) (by decide) ?_
        refine V.goto dX9_isUse_10 (tgt := 14) (by decide) ?_
        rw [if_neg c1, if_pos c6] at kJ1; exact kJ1
  exact V.zret dX9_isUse_14 rfl (by first | exact Or.inl rfl | exact Or.inr rfl | assumption | exact b2i_zo _ | (repeat' split) <;> first | exact Or.inl rfl | exact Or.inr rfl | assumption | exact b2i_zo _) (Qi hQ (by unfold b2i; (repeat' split) <;> (try simp_all [Int32.not_le, Int32.not_lt]) <;> (try (simp only [Int32.lt_iff_toInt_lt, Int32.le_iff_toInt_le, ← Int32.toInt_inj, Int32.reduceToInt] at *; omega))))
set_option maxHeartbeats 4000000 in
set_option maxRecDepth 100000 in
theorem c_isEither {g : GG} {d : Nat} {M : Mem} {Q : Option Value → Mem → Prop} {a : Int32}  (hQ : Q (some (.int (b2i (0 ≤ a ∧ a ≤ 1)))) (M)) : V cS g d mX9_isEither 0 [some (.int a)] [] M Q := by
  refine V.iload_n dX9_isEither_0 rfl (i := 0) rfl ?_
  suffices kJ1 : V cS g d mX9_isEither 14 [some (.int a)] [.int (if a = (0 : Int32) then (1 : Int32) else (if a = (1 : Int32) then (1 : Int32) else (0 : Int32)))] M Q by
    refine V.if_eq (tgt := 9) dX9_isEither_1 (by decide) (fun c1 => ?_) (fun c1 => ?_)
    · refine V.iconst dX9_isEither_9 (v := 1) (by decide) ?_
      refine V.goto dX9_isEither_10 (tgt := 14) (by decide) ?_
      rw [if_pos c1] at kJ1; exact kJ1
    · refine V.iload_n dX9_isEither_4 rfl (i := 0) rfl ?_
      refine V.iconst dX9_isEither_5 (v := 1) (by decide) ?_
      refine V.ic_ne (tgt := 13) dX9_isEither_6 (by decide) (fun c6 => ?_) (fun c6 => ?_)
      · refine V.iconst dX9_isEither_13 (v := 0) (by decide) ?_
        rw [if_neg c1, if_neg c6] at kJ1; exact kJ1
      · refine V.iconst dX9_isEither_9 (v := 1) (by decide) ?_
        refine V.goto dX9_isEither_10 (tgt := 14) (by decide) ?_
        rw [if_neg c1, if_pos c6] at kJ1; exact kJ1
  exact V.zret dX9_isEither_14 rfl (by first | exact Or.inl rfl | exact Or.inr rfl | assumption | exact b2i_zo _ | (repeat' split) <;> first | exact Or.inl rfl | exact Or.inr rfl | assumption | exact b2i_zo _) (Qi hQ (by unfold b2i; (repeat' split) <;> (try simp_all [Int32.not_le, Int32.not_lt]) <;> (try (simp only [Int32.lt_iff_toInt_lt, Int32.le_iff_toInt_le, ← Int32.toInt_inj, Int32.reduceToInt] at *; omega))))
set_option maxHeartbeats 4000000 in
set_option maxRecDepth 100000 in
theorem c_canBeSet {g : GG} {d : Nat} {M : Mem} {Q : Option Value → Mem → Prop} {a v : Int32}  (hQ : Q (some (.int (b2i ((a = 0 ∧ -5 ≤ v ∧ v ≤ 5) ∨ (a = 1 ∧ 0 ≤ v ∧ v ≤ 30) ∨ (a = 2 ∧ 0 ≤ v ∧ v ≤ 300))))) (M)) : V cS g d mX9_canBeSet 0 [some (.int a), some (.int v)] [] M Q := by
  refine V.iload_n dX9_canBeSet_0 rfl (i := 0) rfl ?_
  by_cases s1_0 : a = (0 : Int32)
  · refine V.tabIn (tgt := 28) dX9_canBeSet_1 (by rw [s1_0]; decide) (by rw [s1_0]; decide) (by rw [s1_0]; rfl) (by decide) ?_
    refine V.iload_n dX9_canBeSet_28 rfl (i := 1) rfl ?_
    refine V.bipush dX9_canBeSet_29 (v := (-5)) (by decide) ?_
    suffices kJ31 : V cS g d mX9_canBeSet 44 [some (.int a), some (.int v)] [.int (if v < (-5 : Int32) then (0 : Int32) else (if (5 : Int32) < v then (0 : Int32) else (1 : Int32)))] M Q by
      refine V.ic_lt (tgt := 43) dX9_canBeSet_31 (by decide) (fun c31 => ?_) (fun c31 => ?_)
      · refine V.iconst dX9_canBeSet_43 (v := 0) (by decide) ?_
        rw [if_pos c31] at kJ31; exact kJ31
      · refine V.iload_n dX9_canBeSet_34 rfl (i := 1) rfl ?_
        refine V.iconst dX9_canBeSet_35 (v := 5) (by decide) ?_
        refine V.ic_gt (tgt := 43) dX9_canBeSet_36 (by decide) (fun c36 => ?_) (fun c36 => ?_)
        · refine V.iconst dX9_canBeSet_43 (v := 0) (by decide) ?_
          rw [if_neg c31, if_pos c36] at kJ31; exact kJ31
        · refine V.iconst dX9_canBeSet_39 (v := 1) (by decide) ?_
          refine V.goto dX9_canBeSet_40 (tgt := 44) (by decide) ?_
          rw [if_neg c31, if_neg c36] at kJ31; exact kJ31
    exact V.zret dX9_canBeSet_44 rfl (by first | exact Or.inl rfl | exact Or.inr rfl | assumption | exact b2i_zo _ | (repeat' split) <;> first | exact Or.inl rfl | exact Or.inr rfl | assumption | exact b2i_zo _) (Qi hQ (by unfold b2i; (repeat' split) <;> (try simp_all [Int32.not_le, Int32.not_lt]) <;> (try (simp only [Int32.lt_iff_toInt_lt, Int32.le_iff_toInt_le, ← Int32.toInt_inj, Int32.reduceToInt] at *; omega))))
  by_cases s1_1 : a = (1 : Int32)
  · refine V.tabIn (tgt := 45) dX9_canBeSet_1 (by rw [s1_1]; decide) (by rw [s1_1]; decide) (by rw [s1_1]; rfl) (by decide) ?_
    refine V.iload_n dX9_canBeSet_45 rfl (i := 1) rfl ?_
    suffices kJ46 : V cS g d mX9_canBeSet 60 [some (.int a), some (.int v)] [.int (if v < (0 : Int32) then (0 : Int32) else (if (30 : Int32) < v then (0 : Int32) else (1 : Int32)))] M Q by
      refine V.if_lt (tgt := 59) dX9_canBeSet_46 (by decide) (fun c46 => ?_) (fun c46 => ?_)
      · refine V.iconst dX9_canBeSet_59 (v := 0) (by decide) ?_
        rw [if_pos c46] at kJ46; exact kJ46
      · refine V.iload_n dX9_canBeSet_49 rfl (i := 1) rfl ?_
        refine V.bipush dX9_canBeSet_50 (v := 30) (by decide) ?_
        refine V.ic_gt (tgt := 59) dX9_canBeSet_52 (by decide) (fun c52 => ?_) (fun c52 => ?_)
        · refine V.iconst dX9_canBeSet_59 (v := 0) (by decide) ?_
          rw [if_neg c46, if_pos c52] at kJ46; exact kJ46
        · refine V.iconst dX9_canBeSet_55 (v := 1) (by decide) ?_
          refine V.goto dX9_canBeSet_56 (tgt := 60) (by decide) ?_
          rw [if_neg c46, if_neg c52] at kJ46; exact kJ46
    exact V.zret dX9_canBeSet_60 rfl (by first | exact Or.inl rfl | exact Or.inr rfl | assumption | exact b2i_zo _ | (repeat' split) <;> first | exact Or.inl rfl | exact Or.inr rfl | assumption | exact b2i_zo _) (Qi hQ (by unfold b2i; (repeat' split) <;> (try simp_all [Int32.not_le, Int32.not_lt]) <;> (try (simp only [Int32.lt_iff_toInt_lt, Int32.le_iff_toInt_le, ← Int32.toInt_inj, Int32.reduceToInt] at *; omega))))
  by_cases s1_2 : a = (2 : Int32)
  · refine V.tabIn (tgt := 61) dX9_canBeSet_1 (by rw [s1_2]; decide) (by rw [s1_2]; decide) (by rw [s1_2]; rfl) (by decide) ?_
    refine V.iload_n dX9_canBeSet_61 rfl (i := 1) rfl ?_
    suffices kJ62 : V cS g d mX9_canBeSet 77 [some (.int a), some (.int v)] [.int (if v < (0 : Int32) then (0 : Int32) else (if (300 : Int32) < v then (0 : Int32) else (1 : Int32)))] M Q by
      refine V.if_lt (tgt := 76) dX9_canBeSet_62 (by decide) (fun c62 => ?_) (fun c62 => ?_)
      · refine V.iconst dX9_canBeSet_76 (v := 0) (by decide) ?_
        rw [if_pos c62] at kJ62; exact kJ62
      · refine V.iload_n dX9_canBeSet_65 rfl (i := 1) rfl ?_
        refine V.sipush dX9_canBeSet_66 (v := 300) (by decide) ?_
        refine V.ic_gt (tgt := 76) dX9_canBeSet_69 (by decide) (fun c69 => ?_) (fun c69 => ?_)
        · refine V.iconst dX9_canBeSet_76 (v := 0) (by decide) ?_
          rw [if_neg c62, if_pos c69] at kJ62; exact kJ62
        · refine V.iconst dX9_canBeSet_72 (v := 1) (by decide) ?_
          refine V.goto dX9_canBeSet_73 (tgt := 77) (by decide) ?_
          rw [if_neg c62, if_neg c69] at kJ62; exact kJ62
    exact V.zret dX9_canBeSet_77 rfl (by first | exact Or.inl rfl | exact Or.inr rfl | assumption | exact b2i_zo _ | (repeat' split) <;> first | exact Or.inl rfl | exact Or.inr rfl | assumption | exact b2i_zo _) (Qi hQ (by unfold b2i; (repeat' split) <;> (try simp_all [Int32.not_le, Int32.not_lt]) <;> (try (simp only [Int32.lt_iff_toInt_lt, Int32.le_iff_toInt_le, ← Int32.toInt_inj, Int32.reduceToInt] at *; omega))))
  · refine V.tabOut (tgt := 78) dX9_canBeSet_1 (by have z0 := lv_neT (a := 0) s1_0 (by decide); have z1 := lv_neT (a := 1) s1_1 (by decide); have z2 := lv_neT (a := 2) s1_2 (by decide); omega) (by decide) ?_
    refine V.iconst dX9_canBeSet_78 (v := 0) (by decide) ?_
    exact V.zret dX9_canBeSet_79 rfl (by first | exact Or.inl rfl | exact Or.inr rfl | assumption | exact b2i_zo _ | (repeat' split) <;> first | exact Or.inl rfl | exact Or.inr rfl | assumption | exact b2i_zo _) (Qi hQ (by unfold b2i; (repeat' split) <;> (try simp_all [Int32.not_le, Int32.not_lt]) <;> (try (simp only [Int32.lt_iff_toInt_lt, Int32.le_iff_toInt_le, ← Int32.toInt_inj, Int32.reduceToInt] at *; omega))))
set_option maxHeartbeats 4000000 in
set_option maxRecDepth 100000 in
theorem c_heldWithin {g : GG} {d : Nat} {M : Mem} {Q : Option Value → Mem → Prop} {v lo hi : Int32}  (hQ : Q (some (.int (heldF v lo hi))) (M)) : V cS g (d + 1) mX9_heldWithin 0 [some (.int v), some (.int lo), some (.int hi)] [] M Q := by
  refine V.iload_n dX9_heldWithin_0 rfl (i := 1) rfl ?_
  refine V.iload_n dX9_heldWithin_1 rfl (i := 2) rfl ?_
  refine V.iload_n dX9_heldWithin_2 rfl (i := 0) rfl ?_
  refine V.mmin dX9_heldWithin_3 rfl mlRX9_288 (Nat.le_of_ble_eq_true rfl) ?_
  refine V.mmax dX9_heldWithin_6 rfl mlRX9_285 (Nat.le_of_ble_eq_true rfl) ?_
  exact V.ret dX9_heldWithin_9 rfl (Qi hQ rfl)
set_option maxHeartbeats 4000000 in
set_option maxRecDepth 100000 in
theorem c_wayBetween {g : GG} {d : Nat} {M : Mem} {Q : Option Value → Mem → Prop} {f t w : Int32}  (hQ : Q (some (.int (wayF f t w))) (M)) : V cS g (d + 1) mX9_wayBetween 0 [some (.int f), some (.int t), some (.int w), none, none] [] M Q := by
  refine V.iload_n dX9_wayBetween_0 rfl (i := 0) rfl ?_
  refine V.iload_n dX9_wayBetween_1 rfl (i := 1) rfl ?_
  refine V.isub dX9_wayBetween_2 ?_
  refine V.mabs dX9_wayBetween_3 rfl mlRX9_173 (Nat.le_of_ble_eq_true rfl) ?_
  refine V.istore_n dX9_wayBetween_6 rfl (i := 3) (by decide) (fun _ h => by cases h; exact Or.inl rfl) rfl ?_
  refine V.iload_n dX9_wayBetween_7 rfl (i := 2) rfl ?_
  refine V.iload_n dX9_wayBetween_8 rfl (i := 3) rfl ?_
  refine V.imul dX9_wayBetween_9 ?_
  refine V.iconst dX9_wayBetween_10 (v := 5) (by decide) ?_
  refine V.idiv dX9_wayBetween_11 (by first | assumption | decide | omega) ?_
  refine V.istore dX9_wayBetween_12 (i := 4) (by decide) (fun _ h => by cases h; exact Or.inl rfl) rfl ?_
  refine V.iconst dX9_wayBetween_14 (v := 0) (by decide) ?_
  refine V.iconst dX9_wayBetween_15 (v := 3) (by decide) ?_
  refine V.iload_n dX9_wayBetween_16 rfl (i := 3) rfl ?_
  refine V.imul dX9_wayBetween_17 ?_
  refine V.iload_n dX9_wayBetween_18 rfl (i := 1) rfl ?_
  refine V.iload_n dX9_wayBetween_19 rfl (i := 0) rfl ?_
  suffices kJ20 : V cS g (d + 1) mX9_wayBetween 31 [some (.int f), some (.int t), some (.int w), some (.int (if 0 ≤ (f - t) then (f - t) else 0 - (f - t))), some (.int ((w * (if 0 ≤ (f - t) then (f - t) else 0 - (f - t))) / (5 : Int32)))] [.int (if t ≤ f then ((w * (if 0 ≤ (f - t) then (f - t) else 0 - (f - t))) / (5 : Int32)) else (-((w * (if 0 ≤ (f - t) then (f - t) else 0 - (f - t))) / (5 : Int32)))), .int ((3 : Int32) * (if 0 ≤ (f - t) then (f - t) else 0 - (f - t))), .int (0 : Int32)] M Q by
    refine V.ic_le (tgt := 29) dX9_wayBetween_20 (by decide) (fun c20 => ?_) (fun c20 => ?_)
    · refine V.iload dX9_wayBetween_29 rfl ?_
      rw [if_pos c20] at kJ20; exact kJ20
    · refine V.iload dX9_wayBetween_23 rfl ?_
      refine V.ineg dX9_wayBetween_25 ?_
      refine V.goto dX9_wayBetween_26 (tgt := 31) (by decide) ?_
      rw [if_neg c20] at kJ20; exact kJ20
  refine V.iadd dX9_wayBetween_31 ?_
  refine V.mmax dX9_wayBetween_32 rfl mlRX9_285 (Nat.le_of_ble_eq_true rfl) ?_
  exact V.ret dX9_wayBetween_35 rfl (Qi hQ rfl)
set_option maxHeartbeats 4000000 in
set_option maxRecDepth 100000 in
theorem c_err1 {g : GG} {d : Nat} {M : Mem} {Q : Option Value → Mem → Prop}   (hQ : Q (some (.int ((-1000000001 : Int32)))) (put M 9 1 (M 9 1 + 1))) : V cS g d mX9_error 0 [some (.ref 0), some (.int (-1000000001 : Int32)), none] [] M Q := by
  refine V.ldcw dX9_error_0 rfl ctRX9_360 ?_
  refine V.iload_n dX9_error_3 rfl (i := 1) rfl ?_
  refine V.isub dX9_error_4 ?_
  refine V.top (x' := (nI 1)) ((by decide)) ?_
  refine V.istore_n dX9_error_5 rfl (i := 2) (by decide) (fun _ h => by cases h; exact Or.inl rfl) rfl ?_
  refine V.iload_n dX9_error_6 rfl (i := 2) rfl ?_
  refine V.iconst dX9_error_7 (v := 1) (by decide) ?_
  refine V.ic_lt (tgt := 26) dX9_error_8 (by decide) (fun q => absurd q ((by decide))) (fun c8 => ?_)
  refine V.iload_n dX9_error_11 rfl (i := 2) rfl ?_
  refine V.iconst dX9_error_12 (v := 5) (by decide) ?_
  refine V.ic_gt (tgt := 26) dX9_error_13 (by decide) (fun q => absurd q ((by decide))) (fun c13 => ?_)
  refine V.aload_n dX9_error_16 rfl (i := 0) rfl ?_
  refine V.getR dX9_error_17 rfl flRX9_65 rfl ⟨by decide, by decide⟩ ?_
  refine V.iload_n dX9_error_20 rfl (i := 2) rfl ?_
  refine V.dup2 dX9_error_21 rfl rfl ?_
  refine V.ialdN dX9_error_22 rfl ⟨by decide, by decide⟩ (by first | assumption | decide | omega) (by decide) ?_
  refine V.iconst dX9_error_23 (v := 1) (by decide) ?_
  refine V.iadd dX9_error_24 ?_
  refine V.iastN dX9_error_25 rfl ⟨by decide, by decide⟩ (by first | assumption | decide | omega) (by decide) ?_
  refine V.iload_n dX9_error_26 rfl (i := 1) rfl ?_
  exact V.ret dX9_error_27 rfl (hQ)
set_option maxHeartbeats 4000000 in
set_option maxRecDepth 100000 in
theorem c_err2 {g : GG} {d : Nat} {M : Mem} {Q : Option Value → Mem → Prop}   (hQ : Q (some (.int ((-1000000002 : Int32)))) (put M 9 2 (M 9 2 + 1))) : V cS g d mX9_error 0 [some (.ref 0), some (.int (-1000000002 : Int32)), none] [] M Q := by
  refine V.ldcw dX9_error_0 rfl ctRX9_360 ?_
  refine V.iload_n dX9_error_3 rfl (i := 1) rfl ?_
  refine V.isub dX9_error_4 ?_
  refine V.top (x' := (nI 2)) ((by decide)) ?_
  refine V.istore_n dX9_error_5 rfl (i := 2) (by decide) (fun _ h => by cases h; exact Or.inl rfl) rfl ?_
  refine V.iload_n dX9_error_6 rfl (i := 2) rfl ?_
  refine V.iconst dX9_error_7 (v := 1) (by decide) ?_
  refine V.ic_lt (tgt := 26) dX9_error_8 (by decide) (fun q => absurd q ((by decide))) (fun c8 => ?_)
  refine V.iload_n dX9_error_11 rfl (i := 2) rfl ?_
  refine V.iconst dX9_error_12 (v := 5) (by decide) ?_
  refine V.ic_gt (tgt := 26) dX9_error_13 (by decide) (fun q => absurd q ((by decide))) (fun c13 => ?_)
  refine V.aload_n dX9_error_16 rfl (i := 0) rfl ?_
  refine V.getR dX9_error_17 rfl flRX9_65 rfl ⟨by decide, by decide⟩ ?_
  refine V.iload_n dX9_error_20 rfl (i := 2) rfl ?_
  refine V.dup2 dX9_error_21 rfl rfl ?_
  refine V.ialdN dX9_error_22 rfl ⟨by decide, by decide⟩ (by first | assumption | decide | omega) (by decide) ?_
  refine V.iconst dX9_error_23 (v := 1) (by decide) ?_
  refine V.iadd dX9_error_24 ?_
  refine V.iastN dX9_error_25 rfl ⟨by decide, by decide⟩ (by first | assumption | decide | omega) (by decide) ?_
  refine V.iload_n dX9_error_26 rfl (i := 1) rfl ?_
  exact V.ret dX9_error_27 rfl (hQ)
set_option maxHeartbeats 4000000 in
set_option maxRecDepth 100000 in
theorem c_err3 {g : GG} {d : Nat} {M : Mem} {Q : Option Value → Mem → Prop}   (hQ : Q (some (.int ((-1000000003 : Int32)))) (put M 9 3 (M 9 3 + 1))) : V cS g d mX9_error 0 [some (.ref 0), some (.int (-1000000003 : Int32)), none] [] M Q := by
  refine V.ldcw dX9_error_0 rfl ctRX9_360 ?_
  refine V.iload_n dX9_error_3 rfl (i := 1) rfl ?_
  refine V.isub dX9_error_4 ?_
  refine V.top (x' := (nI 3)) ((by decide)) ?_
  refine V.istore_n dX9_error_5 rfl (i := 2) (by decide) (fun _ h => by cases h; exact Or.inl rfl) rfl ?_
  refine V.iload_n dX9_error_6 rfl (i := 2) rfl ?_
  refine V.iconst dX9_error_7 (v := 1) (by decide) ?_
  refine V.ic_lt (tgt := 26) dX9_error_8 (by decide) (fun q => absurd q ((by decide))) (fun c8 => ?_)
  refine V.iload_n dX9_error_11 rfl (i := 2) rfl ?_
  refine V.iconst dX9_error_12 (v := 5) (by decide) ?_
  refine V.ic_gt (tgt := 26) dX9_error_13 (by decide) (fun q => absurd q ((by decide))) (fun c13 => ?_)
  refine V.aload_n dX9_error_16 rfl (i := 0) rfl ?_
  refine V.getR dX9_error_17 rfl flRX9_65 rfl ⟨by decide, by decide⟩ ?_
  refine V.iload_n dX9_error_20 rfl (i := 2) rfl ?_
  refine V.dup2 dX9_error_21 rfl rfl ?_
  refine V.ialdN dX9_error_22 rfl ⟨by decide, by decide⟩ (by first | assumption | decide | omega) (by decide) ?_
  refine V.iconst dX9_error_23 (v := 1) (by decide) ?_
  refine V.iadd dX9_error_24 ?_
  refine V.iastN dX9_error_25 rfl ⟨by decide, by decide⟩ (by first | assumption | decide | omega) (by decide) ?_
  refine V.iload_n dX9_error_26 rfl (i := 1) rfl ?_
  exact V.ret dX9_error_27 rfl (hQ)
set_option maxHeartbeats 4000000 in
set_option maxRecDepth 100000 in
theorem c_err4 {g : GG} {d : Nat} {M : Mem} {Q : Option Value → Mem → Prop}   (hQ : Q (some (.int ((-1000000004 : Int32)))) (put M 9 4 (M 9 4 + 1))) : V cS g d mX9_error 0 [some (.ref 0), some (.int (-1000000004 : Int32)), none] [] M Q := by
  refine V.ldcw dX9_error_0 rfl ctRX9_360 ?_
  refine V.iload_n dX9_error_3 rfl (i := 1) rfl ?_
  refine V.isub dX9_error_4 ?_
  refine V.top (x' := (nI 4)) ((by decide)) ?_
  refine V.istore_n dX9_error_5 rfl (i := 2) (by decide) (fun _ h => by cases h; exact Or.inl rfl) rfl ?_
  refine V.iload_n dX9_error_6 rfl (i := 2) rfl ?_
  refine V.iconst dX9_error_7 (v := 1) (by decide) ?_
  refine V.ic_lt (tgt := 26) dX9_error_8 (by decide) (fun q => absurd q ((by decide))) (fun c8 => ?_)
  refine V.iload_n dX9_error_11 rfl (i := 2) rfl ?_
  refine V.iconst dX9_error_12 (v := 5) (by decide) ?_
  refine V.ic_gt (tgt := 26) dX9_error_13 (by decide) (fun q => absurd q ((by decide))) (fun c13 => ?_)
  refine V.aload_n dX9_error_16 rfl (i := 0) rfl ?_
  refine V.getR dX9_error_17 rfl flRX9_65 rfl ⟨by decide, by decide⟩ ?_
  refine V.iload_n dX9_error_20 rfl (i := 2) rfl ?_
  refine V.dup2 dX9_error_21 rfl rfl ?_
  refine V.ialdN dX9_error_22 rfl ⟨by decide, by decide⟩ (by first | assumption | decide | omega) (by decide) ?_
  refine V.iconst dX9_error_23 (v := 1) (by decide) ?_
  refine V.iadd dX9_error_24 ?_
  refine V.iastN dX9_error_25 rfl ⟨by decide, by decide⟩ (by first | assumption | decide | omega) (by decide) ?_
  refine V.iload_n dX9_error_26 rfl (i := 1) rfl ?_
  exact V.ret dX9_error_27 rfl (hQ)
set_option maxHeartbeats 4000000 in
set_option maxRecDepth 100000 in
theorem c_err5 {g : GG} {d : Nat} {M : Mem} {Q : Option Value → Mem → Prop}   (hQ : Q (some (.int ((-1000000005 : Int32)))) (put M 9 5 (M 9 5 + 1))) : V cS g d mX9_error 0 [some (.ref 0), some (.int (-1000000005 : Int32)), none] [] M Q := by
  refine V.ldcw dX9_error_0 rfl ctRX9_360 ?_
  refine V.iload_n dX9_error_3 rfl (i := 1) rfl ?_
  refine V.isub dX9_error_4 ?_
  refine V.top (x' := (nI 5)) ((by decide)) ?_
  refine V.istore_n dX9_error_5 rfl (i := 2) (by decide) (fun _ h => by cases h; exact Or.inl rfl) rfl ?_
  refine V.iload_n dX9_error_6 rfl (i := 2) rfl ?_
  refine V.iconst dX9_error_7 (v := 1) (by decide) ?_
  refine V.ic_lt (tgt := 26) dX9_error_8 (by decide) (fun q => absurd q ((by decide))) (fun c8 => ?_)
  refine V.iload_n dX9_error_11 rfl (i := 2) rfl ?_
  refine V.iconst dX9_error_12 (v := 5) (by decide) ?_
  refine V.ic_gt (tgt := 26) dX9_error_13 (by decide) (fun q => absurd q ((by decide))) (fun c13 => ?_)
  refine V.aload_n dX9_error_16 rfl (i := 0) rfl ?_
  refine V.getR dX9_error_17 rfl flRX9_65 rfl ⟨by decide, by decide⟩ ?_
  refine V.iload_n dX9_error_20 rfl (i := 2) rfl ?_
  refine V.dup2 dX9_error_21 rfl rfl ?_
  refine V.ialdN dX9_error_22 rfl ⟨by decide, by decide⟩ (by first | assumption | decide | omega) (by decide) ?_
  refine V.iconst dX9_error_23 (v := 1) (by decide) ?_
  refine V.iadd dX9_error_24 ?_
  refine V.iastN dX9_error_25 rfl ⟨by decide, by decide⟩ (by first | assumption | decide | omega) (by decide) ?_
  refine V.iload_n dX9_error_26 rfl (i := 1) rfl ?_
  exact V.ret dX9_error_27 rfl (hQ)
set_option maxHeartbeats 4000000 in
set_option maxRecDepth 100000 in
theorem c_isBell {g : GG} {d : Nat} {M : Mem} {Q : Option Value → Mem → Prop} {a : Int32}  (hQ : Q (some (.int (b2i (0 ≤ a ∧ a < M 1 2 ∧ a < 8)))) (M)) : V cS g d mX9_isBell 0 [some (.ref 0), some (.int a)] [] M Q := by
  refine V.iload_n dX9_isBell_0 rfl (i := 1) rfl ?_
  suffices kJ1 : V cS g d mX9_isBell 26 [some (.ref 0), some (.int a)] [.int (if a < (0 : Int32) then (0 : Int32) else (if (M 1 2) ≤ a then (0 : Int32) else (if (8 : Int32) ≤ a then (0 : Int32) else (1 : Int32))))] M Q by
    refine V.if_lt (tgt := 25) dX9_isBell_1 (by decide) (fun c1 => ?_) (fun c1 => ?_)
    · refine V.iconst dX9_isBell_25 (v := 0) (by decide) ?_
      rw [if_pos c1] at kJ1; exact kJ1
    · refine V.iload_n dX9_isBell_4 rfl (i := 1) rfl ?_
      refine V.aload_n dX9_isBell_5 rfl (i := 0) rfl ?_
      refine V.getR dX9_isBell_6 rfl flRX9_12 rfl ⟨by decide, by decide⟩ ?_
      refine V.getI dX9_isBell_9 rfl flRX9_104 rfl ⟨by decide, by decide⟩ ?_
      refine V.ic_ge (tgt := 25) dX9_isBell_12 (by decide) (fun c12 => ?_) (fun c12 => ?_)
      · refine V.iconst dX9_isBell_25 (v := 0) (by decide) ?_
        rw [if_neg c1, if_pos c12] at kJ1; exact kJ1
      · refine V.iload_n dX9_isBell_15 rfl (i := 1) rfl ?_
        refine V.bipush dX9_isBell_16 (v := 8) (by decide) ?_
        refine V.ic_ge (tgt := 25) dX9_isBell_18 (by decide) (fun c18 => ?_) (fun c18 => ?_)
        · refine V.iconst dX9_isBell_25 (v := 0) (by decide) ?_
          rw [if_neg c1, if_neg c12, if_pos c18] at kJ1; exact kJ1
        · refine V.iconst dX9_isBell_21 (v := 1) (by decide) ?_
          refine V.goto dX9_isBell_22 (tgt := 26) (by decide) ?_
          rw [if_neg c1, if_neg c12, if_neg c18] at kJ1; exact kJ1
  exact V.zret dX9_isBell_26 rfl (by first | exact Or.inl rfl | exact Or.inr rfl | assumption | exact b2i_zo _ | (repeat' split) <;> first | exact Or.inl rfl | exact Or.inr rfl | assumption | exact b2i_zo _) (Qi hQ (by unfold b2i; (repeat' split) <;> (try simp_all [Int32.not_le, Int32.not_lt]) <;> (try (simp only [Int32.lt_iff_toInt_lt, Int32.le_iff_toInt_le, ← Int32.toInt_inj, Int32.reduceToInt] at *; omega))))
set_option maxHeartbeats 4000000 in
set_option maxRecDepth 100000 in
theorem c_isEar {g : GG} {d : Nat} {M : Mem} {Q : Option Value → Mem → Prop} {a : Int32}  (hQ : Q (some (.int (b2i (0 ≤ a ∧ a < M 1 4 ∧ a < 10)))) (M)) : V cS g d mX9_isEar 0 [some (.ref 0), some (.int a)] [] M Q := by
  refine V.iload_n dX9_isEar_0 rfl (i := 1) rfl ?_
  suffices kJ1 : V cS g d mX9_isEar 26 [some (.ref 0), some (.int a)] [.int (if a < (0 : Int32) then (0 : Int32) else (if (M 1 4) ≤ a then (0 : Int32) else (if (10 : Int32) ≤ a then (0 : Int32) else (1 : Int32))))] M Q by
    refine V.if_lt (tgt := 25) dX9_isEar_1 (by decide) (fun c1 => ?_) (fun c1 => ?_)
    · refine V.iconst dX9_isEar_25 (v := 0) (by decide) ?_
      rw [if_pos c1] at kJ1; exact kJ1
    · refine V.iload_n dX9_isEar_4 rfl (i := 1) rfl ?_
      refine V.aload_n dX9_isEar_5 rfl (i := 0) rfl ?_
      refine V.getR dX9_isEar_6 rfl flRX9_12 rfl ⟨by decide, by decide⟩ ?_
      refine V.getI dX9_isEar_9 rfl flRX9_144 rfl ⟨by decide, by decide⟩ ?_
      refine V.ic_ge (tgt := 25) dX9_isEar_12 (by decide) (fun c12 => ?_) (fun c12 => ?_)
      · refine V.iconst dX9_isEar_25 (v := 0) (by decide) ?_
        rw [if_neg c1, if_pos c12] at kJ1; exact kJ1
      · refine V.iload_n dX9_isEar_15 rfl (i := 1) rfl ?_
        refine V.bipush dX9_isEar_16 (v := 10) (by decide) ?_
        refine V.ic_ge (tgt := 25) dX9_isEar_18 (by decide) (fun c18 => ?_) (fun c18 => ?_)
        · refine V.iconst dX9_isEar_25 (v := 0) (by decide) ?_
          rw [if_neg c1, if_neg c12, if_pos c18] at kJ1; exact kJ1
        · refine V.iconst dX9_isEar_21 (v := 1) (by decide) ?_
          refine V.goto dX9_isEar_22 (tgt := 26) (by decide) ?_
          rw [if_neg c1, if_neg c12, if_neg c18] at kJ1; exact kJ1
  exact V.zret dX9_isEar_26 rfl (by first | exact Or.inl rfl | exact Or.inr rfl | assumption | exact b2i_zo _ | (repeat' split) <;> first | exact Or.inl rfl | exact Or.inr rfl | assumption | exact b2i_zo _) (Qi hQ (by unfold b2i; (repeat' split) <;> (try simp_all [Int32.not_le, Int32.not_lt]) <;> (try (simp only [Int32.lt_iff_toInt_lt, Int32.le_iff_toInt_le, ← Int32.toInt_inj, Int32.reduceToInt] at *; omega))))
set_option maxHeartbeats 4000000 in
set_option maxRecDepth 100000 in
theorem c_isOf {g : GG} {d : Nat} {M : Mem} {Q : Option Value → Mem → Prop} {b : Nat} {k : Int32} (hb : b < 8) (hk : 0 ≤ M (30 + b) 0 ∧ M (30 + b) 0 ≤ 6) (hw : 0 ≤ k) (hQ : Q (some (.int (b2i (isOfB (M (30 + b) 0) k = true)))) M) : V cS g d mX0_isOf 0 [some (.ref (30 + b)), some (.int k), none, none] [] M Q := by
  have h7 : M (30 + b) 0 = 0 ∨ M (30 + b) 0 = 1 ∨ M (30 + b) 0 = 2 ∨ M (30 + b) 0 = 3 ∨ M (30 + b) 0 = 4 ∨ M (30 + b) 0 = 5 ∨ M (30 + b) 0 = 6 := by simp only [Int32.lt_iff_toInt_lt, Int32.le_iff_toInt_le, ← Int32.toInt_inj, Int32.reduceToInt] at *; omega
  rcases h7 with h0 | h0 | h0 | h0 | h0 | h0 | h0
  · rw [h0] at hQ
    have k1 : ∀ (n0 : ¬ (0 : Int32) = k), V cS g d mX0_isOf 7 [some (.ref (30 + b)), some (.int k), some (.int (-1 : Int32)), some (.int (1 : Int32))] [] M Q := by
      intro n0
      refine V.iload_n dX0_isOf_7 rfl (i := 3) rfl ?_
      refine V.bipush dX0_isOf_8 (v := 7) (by decide) ?_
      refine V.ic_ge (tgt := 42) dX0_isOf_10 (by decide) (fun q => absurd q ((by decide))) (fun c10 => ?_)
      refine V.iload_n dX0_isOf_13 rfl (i := 2) rfl ?_
      refine V.if_lt (tgt := 42) dX0_isOf_14 (by decide) (fun c14 => ?_) (fun q => absurd ((by decide)) q)
      refine V.iconst dX0_isOf_42 (v := 0) (by decide) ?_
      exact V.zret dX0_isOf_43 rfl (by first | exact Or.inl rfl | exact Or.inr rfl | assumption | exact b2i_zo _ | (repeat' split) <;> first | exact Or.inl rfl | exact Or.inr rfl | assumption | exact b2i_zo _) (Qi hQ (by subst_vars; unfold b2i isOfB; first | decide | ((repeat' split) <;> (try simp_all [Int32.not_le, Int32.not_lt]) <;> (try (simp only [Int32.lt_iff_toInt_lt, Int32.le_iff_toInt_le, ← Int32.toInt_inj, Int32.reduceToInt] at *; omega)))))
    have k0 : V cS g d mX0_isOf 7 [some (.ref (30 + b)), some (.int k), some (.int (0 : Int32)), some (.int (0 : Int32))] [] M Q := by
      refine V.iload_n dX0_isOf_7 rfl (i := 3) rfl ?_
      refine V.bipush dX0_isOf_8 (v := 7) (by decide) ?_
      refine V.ic_ge (tgt := 42) dX0_isOf_10 (by decide) (fun q => absurd q ((by decide))) (fun c10 => ?_)
      refine V.iload_n dX0_isOf_13 rfl (i := 2) rfl ?_
      refine V.if_lt (tgt := 42) dX0_isOf_14 (by decide) (fun q => absurd q ((by decide))) (fun c14 => ?_)
      refine V.iload_n dX0_isOf_17 rfl (i := 2) rfl ?_
      refine V.bipush dX0_isOf_18 (v := 7) (by decide) ?_
      refine V.ic_ge (tgt := 42) dX0_isOf_20 (by decide) (fun q => absurd q ((by decide))) (fun c20 => ?_)
      refine V.iload_n dX0_isOf_23 rfl (i := 2) rfl ?_
      refine V.iload_n dX0_isOf_24 rfl (i := 1) rfl ?_
      refine V.ic_ne (tgt := 30) dX0_isOf_25 (by decide) (fun c25 => ?_) (fun c25 => ?_)
      · refine V.getsN (j := 0) (host := "OneBreath") dX0_isOf_30 rfl rfl (by decide) ?_
        refine V.iload_n dX0_isOf_33 rfl (i := 2) rfl ?_
        refine V.iaTb (j := 0) dX0_isOf_34 rfl (by unfold vp_in; decide) ?_
        refine V.top (x' := (-1 : Int32)) ((by decide)) ?_
        refine V.istore_n dX0_isOf_35 rfl (i := 2) (by decide) (fun _ h => by cases h; exact Or.inl rfl) rfl ?_
        refine V.iinc dX0_isOf_36 rfl (v := ((0 : Int32) + 1)) rfl (by decide) (fun _ h => by cases h; exact Or.inl rfl) rfl ?_
        refine V.goto dX0_isOf_39 (tgt := 7) (by decide) ?_
        exact k1  c25
      · refine V.iconst dX0_isOf_28 (v := 1) (by decide) ?_
        exact V.zret dX0_isOf_29 rfl (by first | exact Or.inl rfl | exact Or.inr rfl | assumption | exact b2i_zo _ | (repeat' split) <;> first | exact Or.inl rfl | exact Or.inr rfl | assumption | exact b2i_zo _) (Qi hQ (by subst_vars; unfold b2i isOfB; first | decide | ((repeat' split) <;> (try simp_all [Int32.not_le, Int32.not_lt]) <;> (try (simp only [Int32.lt_iff_toInt_lt, Int32.le_iff_toInt_le, ← Int32.toInt_inj, Int32.reduceToInt] at *; omega)))))
    refine V.aload_n dX0_isOf_0 rfl (i := 0) rfl ?_
    refine V.getI dX0_isOf_1 rfl flRX0_18 (fkB30 (by first | assumption | decide | omega) (by decide)) (inB30 (by first | assumption | decide | omega)) ?_
    refine V.top (x' := (0 : Int32)) (h0) ?_
    refine V.istore_n dX0_isOf_4 rfl (i := 2) (by decide) (fun _ h => by cases h; exact Or.inl rfl) rfl ?_
    refine V.iconst dX0_isOf_5 (v := 0) (by decide) ?_
    refine V.istore_n dX0_isOf_6 rfl (i := 3) (by decide) (fun _ h => by cases h; exact Or.inl rfl) rfl ?_
    exact k0
  · rw [h0] at hQ
    have k2 : ∀ (n0 : ¬ (1 : Int32) = k) (n1 : ¬ (0 : Int32) = k), V cS g d mX0_isOf 7 [some (.ref (30 + b)), some (.int k), some (.int (-1 : Int32)), some (.int (2 : Int32))] [] M Q := by
      intro n0 n1
      refine V.iload_n dX0_isOf_7 rfl (i := 3) rfl ?_
      refine V.bipush dX0_isOf_8 (v := 7) (by decide) ?_
      refine V.ic_ge (tgt := 42) dX0_isOf_10 (by decide) (fun q => absurd q ((by decide))) (fun c10 => ?_)
      refine V.iload_n dX0_isOf_13 rfl (i := 2) rfl ?_
      refine V.if_lt (tgt := 42) dX0_isOf_14 (by decide) (fun c14 => ?_) (fun q => absurd ((by decide)) q)
      refine V.iconst dX0_isOf_42 (v := 0) (by decide) ?_
      exact V.zret dX0_isOf_43 rfl (by first | exact Or.inl rfl | exact Or.inr rfl | assumption | exact b2i_zo _ | (repeat' split) <;> first | exact Or.inl rfl | exact Or.inr rfl | assumption | exact b2i_zo _) (Qi hQ (by subst_vars; unfold b2i isOfB; first | decide | ((repeat' split) <;> (try simp_all [Int32.not_le, Int32.not_lt]) <;> (try (simp only [Int32.lt_iff_toInt_lt, Int32.le_iff_toInt_le, ← Int32.toInt_inj, Int32.reduceToInt] at *; omega)))))
    have k1 : ∀ (n0 : ¬ (1 : Int32) = k), V cS g d mX0_isOf 7 [some (.ref (30 + b)), some (.int k), some (.int (0 : Int32)), some (.int (1 : Int32))] [] M Q := by
      intro n0
      refine V.iload_n dX0_isOf_7 rfl (i := 3) rfl ?_
      refine V.bipush dX0_isOf_8 (v := 7) (by decide) ?_
      refine V.ic_ge (tgt := 42) dX0_isOf_10 (by decide) (fun q => absurd q ((by decide))) (fun c10 => ?_)
      refine V.iload_n dX0_isOf_13 rfl (i := 2) rfl ?_
      refine V.if_lt (tgt := 42) dX0_isOf_14 (by decide) (fun q => absurd q ((by decide))) (fun c14 => ?_)
      refine V.iload_n dX0_isOf_17 rfl (i := 2) rfl ?_
      refine V.bipush dX0_isOf_18 (v := 7) (by decide) ?_
      refine V.ic_ge (tgt := 42) dX0_isOf_20 (by decide) (fun q => absurd q ((by decide))) (fun c20 => ?_)
      refine V.iload_n dX0_isOf_23 rfl (i := 2) rfl ?_
      refine V.iload_n dX0_isOf_24 rfl (i := 1) rfl ?_
      refine V.ic_ne (tgt := 30) dX0_isOf_25 (by decide) (fun c25 => ?_) (fun c25 => ?_)
      · refine V.getsN (j := 0) (host := "OneBreath") dX0_isOf_30 rfl rfl (by decide) ?_
        refine V.iload_n dX0_isOf_33 rfl (i := 2) rfl ?_
        refine V.iaTb (j := 0) dX0_isOf_34 rfl (by unfold vp_in; decide) ?_
        refine V.top (x' := (-1 : Int32)) ((by decide)) ?_
        refine V.istore_n dX0_isOf_35 rfl (i := 2) (by decide) (fun _ h => by cases h; exact Or.inl rfl) rfl ?_
        refine V.iinc dX0_isOf_36 rfl (v := ((1 : Int32) + 1)) rfl (by decide) (fun _ h => by cases h; exact Or.inl rfl) rfl ?_
        refine V.goto dX0_isOf_39 (tgt := 7) (by decide) ?_
        exact k2 n0 c25
      · refine V.iconst dX0_isOf_28 (v := 1) (by decide) ?_
        exact V.zret dX0_isOf_29 rfl (by first | exact Or.inl rfl | exact Or.inr rfl | assumption | exact b2i_zo _ | (repeat' split) <;> first | exact Or.inl rfl | exact Or.inr rfl | assumption | exact b2i_zo _) (Qi hQ (by subst_vars; unfold b2i isOfB; first | decide | ((repeat' split) <;> (try simp_all [Int32.not_le, Int32.not_lt]) <;> (try (simp only [Int32.lt_iff_toInt_lt, Int32.le_iff_toInt_le, ← Int32.toInt_inj, Int32.reduceToInt] at *; omega)))))
    have k0 : V cS g d mX0_isOf 7 [some (.ref (30 + b)), some (.int k), some (.int (1 : Int32)), some (.int (0 : Int32))] [] M Q := by
      refine V.iload_n dX0_isOf_7 rfl (i := 3) rfl ?_
      refine V.bipush dX0_isOf_8 (v := 7) (by decide) ?_
      refine V.ic_ge (tgt := 42) dX0_isOf_10 (by decide) (fun q => absurd q ((by decide))) (fun c10 => ?_)
      refine V.iload_n dX0_isOf_13 rfl (i := 2) rfl ?_
      refine V.if_lt (tgt := 42) dX0_isOf_14 (by decide) (fun q => absurd q ((by decide))) (fun c14 => ?_)
      refine V.iload_n dX0_isOf_17 rfl (i := 2) rfl ?_
      refine V.bipush dX0_isOf_18 (v := 7) (by decide) ?_
      refine V.ic_ge (tgt := 42) dX0_isOf_20 (by decide) (fun q => absurd q ((by decide))) (fun c20 => ?_)
      refine V.iload_n dX0_isOf_23 rfl (i := 2) rfl ?_
      refine V.iload_n dX0_isOf_24 rfl (i := 1) rfl ?_
      refine V.ic_ne (tgt := 30) dX0_isOf_25 (by decide) (fun c25 => ?_) (fun c25 => ?_)
      · refine V.getsN (j := 0) (host := "OneBreath") dX0_isOf_30 rfl rfl (by decide) ?_
        refine V.iload_n dX0_isOf_33 rfl (i := 2) rfl ?_
        refine V.iaTb (j := 0) dX0_isOf_34 rfl (by unfold vp_in; decide) ?_
        refine V.top (x' := (0 : Int32)) ((by decide)) ?_
        refine V.istore_n dX0_isOf_35 rfl (i := 2) (by decide) (fun _ h => by cases h; exact Or.inl rfl) rfl ?_
        refine V.iinc dX0_isOf_36 rfl (v := ((0 : Int32) + 1)) rfl (by decide) (fun _ h => by cases h; exact Or.inl rfl) rfl ?_
        refine V.goto dX0_isOf_39 (tgt := 7) (by decide) ?_
        exact k1  c25
      · refine V.iconst dX0_isOf_28 (v := 1) (by decide) ?_
        exact V.zret dX0_isOf_29 rfl (by first | exact Or.inl rfl | exact Or.inr rfl | assumption | exact b2i_zo _ | (repeat' split) <;> first | exact Or.inl rfl | exact Or.inr rfl | assumption | exact b2i_zo _) (Qi hQ (by subst_vars; unfold b2i isOfB; first | decide | ((repeat' split) <;> (try simp_all [Int32.not_le, Int32.not_lt]) <;> (try (simp only [Int32.lt_iff_toInt_lt, Int32.le_iff_toInt_le, ← Int32.toInt_inj, Int32.reduceToInt] at *; omega)))))
    refine V.aload_n dX0_isOf_0 rfl (i := 0) rfl ?_
    refine V.getI dX0_isOf_1 rfl flRX0_18 (fkB30 (by first | assumption | decide | omega) (by decide)) (inB30 (by first | assumption | decide | omega)) ?_
    refine V.top (x' := (1 : Int32)) (h0) ?_
    refine V.istore_n dX0_isOf_4 rfl (i := 2) (by decide) (fun _ h => by cases h; exact Or.inl rfl) rfl ?_
    refine V.iconst dX0_isOf_5 (v := 0) (by decide) ?_
    refine V.istore_n dX0_isOf_6 rfl (i := 3) (by decide) (fun _ h => by cases h; exact Or.inl rfl) rfl ?_
    exact k0
  · rw [h0] at hQ
    have k2 : ∀ (n0 : ¬ (2 : Int32) = k) (n1 : ¬ (0 : Int32) = k), V cS g d mX0_isOf 7 [some (.ref (30 + b)), some (.int k), some (.int (-1 : Int32)), some (.int (2 : Int32))] [] M Q := by
      intro n0 n1
      refine V.iload_n dX0_isOf_7 rfl (i := 3) rfl ?_
      refine V.bipush dX0_isOf_8 (v := 7) (by decide) ?_
      refine V.ic_ge (tgt := 42) dX0_isOf_10 (by decide) (fun q => absurd q ((by decide))) (fun c10 => ?_)
      refine V.iload_n dX0_isOf_13 rfl (i := 2) rfl ?_
      refine V.if_lt (tgt := 42) dX0_isOf_14 (by decide) (fun c14 => ?_) (fun q => absurd ((by decide)) q)
      refine V.iconst dX0_isOf_42 (v := 0) (by decide) ?_
      exact V.zret dX0_isOf_43 rfl (by first | exact Or.inl rfl | exact Or.inr rfl | assumption | exact b2i_zo _ | (repeat' split) <;> first | exact Or.inl rfl | exact Or.inr rfl | assumption | exact b2i_zo _) (Qi hQ (by subst_vars; unfold b2i isOfB; first | decide | ((repeat' split) <;> (try simp_all [Int32.not_le, Int32.not_lt]) <;> (try (simp only [Int32.lt_iff_toInt_lt, Int32.le_iff_toInt_le, ← Int32.toInt_inj, Int32.reduceToInt] at *; omega)))))
    have k1 : ∀ (n0 : ¬ (2 : Int32) = k), V cS g d mX0_isOf 7 [some (.ref (30 + b)), some (.int k), some (.int (0 : Int32)), some (.int (1 : Int32))] [] M Q := by
      intro n0
      refine V.iload_n dX0_isOf_7 rfl (i := 3) rfl ?_
      refine V.bipush dX0_isOf_8 (v := 7) (by decide) ?_
      refine V.ic_ge (tgt := 42) dX0_isOf_10 (by decide) (fun q => absurd q ((by decide))) (fun c10 => ?_)
      refine V.iload_n dX0_isOf_13 rfl (i := 2) rfl ?_
      refine V.if_lt (tgt := 42) dX0_isOf_14 (by decide) (fun q => absurd q ((by decide))) (fun c14 => ?_)
      refine V.iload_n dX0_isOf_17 rfl (i := 2) rfl ?_
      refine V.bipush dX0_isOf_18 (v := 7) (by decide) ?_
      refine V.ic_ge (tgt := 42) dX0_isOf_20 (by decide) (fun q => absurd q ((by decide))) (fun c20 => ?_)
      refine V.iload_n dX0_isOf_23 rfl (i := 2) rfl ?_
      refine V.iload_n dX0_isOf_24 rfl (i := 1) rfl ?_
      refine V.ic_ne (tgt := 30) dX0_isOf_25 (by decide) (fun c25 => ?_) (fun c25 => ?_)
      · refine V.getsN (j := 0) (host := "OneBreath") dX0_isOf_30 rfl rfl (by decide) ?_
        refine V.iload_n dX0_isOf_33 rfl (i := 2) rfl ?_
        refine V.iaTb (j := 0) dX0_isOf_34 rfl (by unfold vp_in; decide) ?_
        refine V.top (x' := (-1 : Int32)) ((by decide)) ?_
        refine V.istore_n dX0_isOf_35 rfl (i := 2) (by decide) (fun _ h => by cases h; exact Or.inl rfl) rfl ?_
        refine V.iinc dX0_isOf_36 rfl (v := ((1 : Int32) + 1)) rfl (by decide) (fun _ h => by cases h; exact Or.inl rfl) rfl ?_
        refine V.goto dX0_isOf_39 (tgt := 7) (by decide) ?_
        exact k2 n0 c25
      · refine V.iconst dX0_isOf_28 (v := 1) (by decide) ?_
        exact V.zret dX0_isOf_29 rfl (by first | exact Or.inl rfl | exact Or.inr rfl | assumption | exact b2i_zo _ | (repeat' split) <;> first | exact Or.inl rfl | exact Or.inr rfl | assumption | exact b2i_zo _) (Qi hQ (by subst_vars; unfold b2i isOfB; first | decide | ((repeat' split) <;> (try simp_all [Int32.not_le, Int32.not_lt]) <;> (try (simp only [Int32.lt_iff_toInt_lt, Int32.le_iff_toInt_le, ← Int32.toInt_inj, Int32.reduceToInt] at *; omega)))))
    have k0 : V cS g d mX0_isOf 7 [some (.ref (30 + b)), some (.int k), some (.int (2 : Int32)), some (.int (0 : Int32))] [] M Q := by
      refine V.iload_n dX0_isOf_7 rfl (i := 3) rfl ?_
      refine V.bipush dX0_isOf_8 (v := 7) (by decide) ?_
      refine V.ic_ge (tgt := 42) dX0_isOf_10 (by decide) (fun q => absurd q ((by decide))) (fun c10 => ?_)
      refine V.iload_n dX0_isOf_13 rfl (i := 2) rfl ?_
      refine V.if_lt (tgt := 42) dX0_isOf_14 (by decide) (fun q => absurd q ((by decide))) (fun c14 => ?_)
      refine V.iload_n dX0_isOf_17 rfl (i := 2) rfl ?_
      refine V.bipush dX0_isOf_18 (v := 7) (by decide) ?_
      refine V.ic_ge (tgt := 42) dX0_isOf_20 (by decide) (fun q => absurd q ((by decide))) (fun c20 => ?_)
      refine V.iload_n dX0_isOf_23 rfl (i := 2) rfl ?_
      refine V.iload_n dX0_isOf_24 rfl (i := 1) rfl ?_
      refine V.ic_ne (tgt := 30) dX0_isOf_25 (by decide) (fun c25 => ?_) (fun c25 => ?_)
      · refine V.getsN (j := 0) (host := "OneBreath") dX0_isOf_30 rfl rfl (by decide) ?_
        refine V.iload_n dX0_isOf_33 rfl (i := 2) rfl ?_
        refine V.iaTb (j := 0) dX0_isOf_34 rfl (by unfold vp_in; decide) ?_
        refine V.top (x' := (0 : Int32)) ((by decide)) ?_
        refine V.istore_n dX0_isOf_35 rfl (i := 2) (by decide) (fun _ h => by cases h; exact Or.inl rfl) rfl ?_
        refine V.iinc dX0_isOf_36 rfl (v := ((0 : Int32) + 1)) rfl (by decide) (fun _ h => by cases h; exact Or.inl rfl) rfl ?_
        refine V.goto dX0_isOf_39 (tgt := 7) (by decide) ?_
        exact k1  c25
      · refine V.iconst dX0_isOf_28 (v := 1) (by decide) ?_
        exact V.zret dX0_isOf_29 rfl (by first | exact Or.inl rfl | exact Or.inr rfl | assumption | exact b2i_zo _ | (repeat' split) <;> first | exact Or.inl rfl | exact Or.inr rfl | assumption | exact b2i_zo _) (Qi hQ (by subst_vars; unfold b2i isOfB; first | decide | ((repeat' split) <;> (try simp_all [Int32.not_le, Int32.not_lt]) <;> (try (simp only [Int32.lt_iff_toInt_lt, Int32.le_iff_toInt_le, ← Int32.toInt_inj, Int32.reduceToInt] at *; omega)))))
    refine V.aload_n dX0_isOf_0 rfl (i := 0) rfl ?_
    refine V.getI dX0_isOf_1 rfl flRX0_18 (fkB30 (by first | assumption | decide | omega) (by decide)) (inB30 (by first | assumption | decide | omega)) ?_
    refine V.top (x' := (2 : Int32)) (h0) ?_
    refine V.istore_n dX0_isOf_4 rfl (i := 2) (by decide) (fun _ h => by cases h; exact Or.inl rfl) rfl ?_
    refine V.iconst dX0_isOf_5 (v := 0) (by decide) ?_
    refine V.istore_n dX0_isOf_6 rfl (i := 3) (by decide) (fun _ h => by cases h; exact Or.inl rfl) rfl ?_
    exact k0
  · rw [h0] at hQ
    have k2 : ∀ (n0 : ¬ (3 : Int32) = k) (n1 : ¬ (0 : Int32) = k), V cS g d mX0_isOf 7 [some (.ref (30 + b)), some (.int k), some (.int (-1 : Int32)), some (.int (2 : Int32))] [] M Q := by
      intro n0 n1
      refine V.iload_n dX0_isOf_7 rfl (i := 3) rfl ?_
      refine V.bipush dX0_isOf_8 (v := 7) (by decide) ?_
      refine V.ic_ge (tgt := 42) dX0_isOf_10 (by decide) (fun q => absurd q ((by decide))) (fun c10 => ?_)
      refine V.iload_n dX0_isOf_13 rfl (i := 2) rfl ?_
      refine V.if_lt (tgt := 42) dX0_isOf_14 (by decide) (fun c14 => ?_) (fun q => absurd ((by decide)) q)
      refine V.iconst dX0_isOf_42 (v := 0) (by decide) ?_
      exact V.zret dX0_isOf_43 rfl (by first | exact Or.inl rfl | exact Or.inr rfl | assumption | exact b2i_zo _ | (repeat' split) <;> first | exact Or.inl rfl | exact Or.inr rfl | assumption | exact b2i_zo _) (Qi hQ (by subst_vars; unfold b2i isOfB; first | decide | ((repeat' split) <;> (try simp_all [Int32.not_le, Int32.not_lt]) <;> (try (simp only [Int32.lt_iff_toInt_lt, Int32.le_iff_toInt_le, ← Int32.toInt_inj, Int32.reduceToInt] at *; omega)))))
    have k1 : ∀ (n0 : ¬ (3 : Int32) = k), V cS g d mX0_isOf 7 [some (.ref (30 + b)), some (.int k), some (.int (0 : Int32)), some (.int (1 : Int32))] [] M Q := by
      intro n0
      refine V.iload_n dX0_isOf_7 rfl (i := 3) rfl ?_
      refine V.bipush dX0_isOf_8 (v := 7) (by decide) ?_
      refine V.ic_ge (tgt := 42) dX0_isOf_10 (by decide) (fun q => absurd q ((by decide))) (fun c10 => ?_)
      refine V.iload_n dX0_isOf_13 rfl (i := 2) rfl ?_
      refine V.if_lt (tgt := 42) dX0_isOf_14 (by decide) (fun q => absurd q ((by decide))) (fun c14 => ?_)
      refine V.iload_n dX0_isOf_17 rfl (i := 2) rfl ?_
      refine V.bipush dX0_isOf_18 (v := 7) (by decide) ?_
      refine V.ic_ge (tgt := 42) dX0_isOf_20 (by decide) (fun q => absurd q ((by decide))) (fun c20 => ?_)
      refine V.iload_n dX0_isOf_23 rfl (i := 2) rfl ?_
      refine V.iload_n dX0_isOf_24 rfl (i := 1) rfl ?_
      refine V.ic_ne (tgt := 30) dX0_isOf_25 (by decide) (fun c25 => ?_) (fun c25 => ?_)
      · refine V.getsN (j := 0) (host := "OneBreath") dX0_isOf_30 rfl rfl (by decide) ?_
        refine V.iload_n dX0_isOf_33 rfl (i := 2) rfl ?_
        refine V.iaTb (j := 0) dX0_isOf_34 rfl (by unfold vp_in; decide) ?_
        refine V.top (x' := (-1 : Int32)) ((by decide)) ?_
        refine V.istore_n dX0_isOf_35 rfl (i := 2) (by decide) (fun _ h => by cases h; exact Or.inl rfl) rfl ?_
        refine V.iinc dX0_isOf_36 rfl (v := ((1 : Int32) + 1)) rfl (by decide) (fun _ h => by cases h; exact Or.inl rfl) rfl ?_
        refine V.goto dX0_isOf_39 (tgt := 7) (by decide) ?_
        exact k2 n0 c25
      · refine V.iconst dX0_isOf_28 (v := 1) (by decide) ?_
        exact V.zret dX0_isOf_29 rfl (by first | exact Or.inl rfl | exact Or.inr rfl | assumption | exact b2i_zo _ | (repeat' split) <;> first | exact Or.inl rfl | exact Or.inr rfl | assumption | exact b2i_zo _) (Qi hQ (by subst_vars; unfold b2i isOfB; first | decide | ((repeat' split) <;> (try simp_all [Int32.not_le, Int32.not_lt]) <;> (try (simp only [Int32.lt_iff_toInt_lt, Int32.le_iff_toInt_le, ← Int32.toInt_inj, Int32.reduceToInt] at *; omega)))))
    have k0 : V cS g d mX0_isOf 7 [some (.ref (30 + b)), some (.int k), some (.int (3 : Int32)), some (.int (0 : Int32))] [] M Q := by
      refine V.iload_n dX0_isOf_7 rfl (i := 3) rfl ?_
      refine V.bipush dX0_isOf_8 (v := 7) (by decide) ?_
      refine V.ic_ge (tgt := 42) dX0_isOf_10 (by decide) (fun q => absurd q ((by decide))) (fun c10 => ?_)
      refine V.iload_n dX0_isOf_13 rfl (i := 2) rfl ?_
      refine V.if_lt (tgt := 42) dX0_isOf_14 (by decide) (fun q => absurd q ((by decide))) (fun c14 => ?_)
      refine V.iload_n dX0_isOf_17 rfl (i := 2) rfl ?_
      refine V.bipush dX0_isOf_18 (v := 7) (by decide) ?_
      refine V.ic_ge (tgt := 42) dX0_isOf_20 (by decide) (fun q => absurd q ((by decide))) (fun c20 => ?_)
      refine V.iload_n dX0_isOf_23 rfl (i := 2) rfl ?_
      refine V.iload_n dX0_isOf_24 rfl (i := 1) rfl ?_
      refine V.ic_ne (tgt := 30) dX0_isOf_25 (by decide) (fun c25 => ?_) (fun c25 => ?_)
      · refine V.getsN (j := 0) (host := "OneBreath") dX0_isOf_30 rfl rfl (by decide) ?_
        refine V.iload_n dX0_isOf_33 rfl (i := 2) rfl ?_
        refine V.iaTb (j := 0) dX0_isOf_34 rfl (by unfold vp_in; decide) ?_
        refine V.top (x' := (0 : Int32)) ((by decide)) ?_
        refine V.istore_n dX0_isOf_35 rfl (i := 2) (by decide) (fun _ h => by cases h; exact Or.inl rfl) rfl ?_
        refine V.iinc dX0_isOf_36 rfl (v := ((0 : Int32) + 1)) rfl (by decide) (fun _ h => by cases h; exact Or.inl rfl) rfl ?_
        refine V.goto dX0_isOf_39 (tgt := 7) (by decide) ?_
        exact k1  c25
      · refine V.iconst dX0_isOf_28 (v := 1) (by decide) ?_
        exact V.zret dX0_isOf_29 rfl (by first | exact Or.inl rfl | exact Or.inr rfl | assumption | exact b2i_zo _ | (repeat' split) <;> first | exact Or.inl rfl | exact Or.inr rfl | assumption | exact b2i_zo _) (Qi hQ (by subst_vars; unfold b2i isOfB; first | decide | ((repeat' split) <;> (try simp_all [Int32.not_le, Int32.not_lt]) <;> (try (simp only [Int32.lt_iff_toInt_lt, Int32.le_iff_toInt_le, ← Int32.toInt_inj, Int32.reduceToInt] at *; omega)))))
    refine V.aload_n dX0_isOf_0 rfl (i := 0) rfl ?_
    refine V.getI dX0_isOf_1 rfl flRX0_18 (fkB30 (by first | assumption | decide | omega) (by decide)) (inB30 (by first | assumption | decide | omega)) ?_
    refine V.top (x' := (3 : Int32)) (h0) ?_
    refine V.istore_n dX0_isOf_4 rfl (i := 2) (by decide) (fun _ h => by cases h; exact Or.inl rfl) rfl ?_
    refine V.iconst dX0_isOf_5 (v := 0) (by decide) ?_
    refine V.istore_n dX0_isOf_6 rfl (i := 3) (by decide) (fun _ h => by cases h; exact Or.inl rfl) rfl ?_
    exact k0
  · rw [h0] at hQ
    have k3 : ∀ (n0 : ¬ (4 : Int32) = k) (n1 : ¬ (1 : Int32) = k) (n2 : ¬ (0 : Int32) = k), V cS g d mX0_isOf 7 [some (.ref (30 + b)), some (.int k), some (.int (-1 : Int32)), some (.int (3 : Int32))] [] M Q := by
      intro n0 n1 n2
      refine V.iload_n dX0_isOf_7 rfl (i := 3) rfl ?_
      refine V.bipush dX0_isOf_8 (v := 7) (by decide) ?_
      refine V.ic_ge (tgt := 42) dX0_isOf_10 (by decide) (fun q => absurd q ((by decide))) (fun c10 => ?_)
      refine V.iload_n dX0_isOf_13 rfl (i := 2) rfl ?_
      refine V.if_lt (tgt := 42) dX0_isOf_14 (by decide) (fun c14 => ?_) (fun q => absurd ((by decide)) q)
      refine V.iconst dX0_isOf_42 (v := 0) (by decide) ?_
      exact V.zret dX0_isOf_43 rfl (by first | exact Or.inl rfl | exact Or.inr rfl | assumption | exact b2i_zo _ | (repeat' split) <;> first | exact Or.inl rfl | exact Or.inr rfl | assumption | exact b2i_zo _) (Qi hQ (by subst_vars; unfold b2i isOfB; first | decide | ((repeat' split) <;> (try simp_all [Int32.not_le, Int32.not_lt]) <;> (try (simp only [Int32.lt_iff_toInt_lt, Int32.le_iff_toInt_le, ← Int32.toInt_inj, Int32.reduceToInt] at *; omega)))))
    have k2 : ∀ (n0 : ¬ (4 : Int32) = k) (n1 : ¬ (1 : Int32) = k), V cS g d mX0_isOf 7 [some (.ref (30 + b)), some (.int k), some (.int (0 : Int32)), some (.int (2 : Int32))] [] M Q := by
      intro n0 n1
      refine V.iload_n dX0_isOf_7 rfl (i := 3) rfl ?_
      refine V.bipush dX0_isOf_8 (v := 7) (by decide) ?_
      refine V.ic_ge (tgt := 42) dX0_isOf_10 (by decide) (fun q => absurd q ((by decide))) (fun c10 => ?_)
      refine V.iload_n dX0_isOf_13 rfl (i := 2) rfl ?_
      refine V.if_lt (tgt := 42) dX0_isOf_14 (by decide) (fun q => absurd q ((by decide))) (fun c14 => ?_)
      refine V.iload_n dX0_isOf_17 rfl (i := 2) rfl ?_
      refine V.bipush dX0_isOf_18 (v := 7) (by decide) ?_
      refine V.ic_ge (tgt := 42) dX0_isOf_20 (by decide) (fun q => absurd q ((by decide))) (fun c20 => ?_)
      refine V.iload_n dX0_isOf_23 rfl (i := 2) rfl ?_
      refine V.iload_n dX0_isOf_24 rfl (i := 1) rfl ?_
      refine V.ic_ne (tgt := 30) dX0_isOf_25 (by decide) (fun c25 => ?_) (fun c25 => ?_)
      · refine V.getsN (j := 0) (host := "OneBreath") dX0_isOf_30 rfl rfl (by decide) ?_
        refine V.iload_n dX0_isOf_33 rfl (i := 2) rfl ?_
        refine V.iaTb (j := 0) dX0_isOf_34 rfl (by unfold vp_in; decide) ?_
        refine V.top (x' := (-1 : Int32)) ((by decide)) ?_
        refine V.istore_n dX0_isOf_35 rfl (i := 2) (by decide) (fun _ h => by cases h; exact Or.inl rfl) rfl ?_
        refine V.iinc dX0_isOf_36 rfl (v := ((2 : Int32) + 1)) rfl (by decide) (fun _ h => by cases h; exact Or.inl rfl) rfl ?_
        refine V.goto dX0_isOf_39 (tgt := 7) (by decide) ?_
        exact k3 n0 n1 c25
      · refine V.iconst dX0_isOf_28 (v := 1) (by decide) ?_
        exact V.zret dX0_isOf_29 rfl (by first | exact Or.inl rfl | exact Or.inr rfl | assumption | exact b2i_zo _ | (repeat' split) <;> first | exact Or.inl rfl | exact Or.inr rfl | assumption | exact b2i_zo _) (Qi hQ (by subst_vars; unfold b2i isOfB; first | decide | ((repeat' split) <;> (try simp_all [Int32.not_le, Int32.not_lt]) <;> (try (simp only [Int32.lt_iff_toInt_lt, Int32.le_iff_toInt_le, ← Int32.toInt_inj, Int32.reduceToInt] at *; omega)))))
    have k1 : ∀ (n0 : ¬ (4 : Int32) = k), V cS g d mX0_isOf 7 [some (.ref (30 + b)), some (.int k), some (.int (1 : Int32)), some (.int (1 : Int32))] [] M Q := by
      intro n0
      refine V.iload_n dX0_isOf_7 rfl (i := 3) rfl ?_
      refine V.bipush dX0_isOf_8 (v := 7) (by decide) ?_
      refine V.ic_ge (tgt := 42) dX0_isOf_10 (by decide) (fun q => absurd q ((by decide))) (fun c10 => ?_)
      refine V.iload_n dX0_isOf_13 rfl (i := 2) rfl ?_
      refine V.if_lt (tgt := 42) dX0_isOf_14 (by decide) (fun q => absurd q ((by decide))) (fun c14 => ?_)
      refine V.iload_n dX0_isOf_17 rfl (i := 2) rfl ?_
      refine V.bipush dX0_isOf_18 (v := 7) (by decide) ?_
      refine V.ic_ge (tgt := 42) dX0_isOf_20 (by decide) (fun q => absurd q ((by decide))) (fun c20 => ?_)
      refine V.iload_n dX0_isOf_23 rfl (i := 2) rfl ?_
      refine V.iload_n dX0_isOf_24 rfl (i := 1) rfl ?_
      refine V.ic_ne (tgt := 30) dX0_isOf_25 (by decide) (fun c25 => ?_) (fun c25 => ?_)
      · refine V.getsN (j := 0) (host := "OneBreath") dX0_isOf_30 rfl rfl (by decide) ?_
        refine V.iload_n dX0_isOf_33 rfl (i := 2) rfl ?_
        refine V.iaTb (j := 0) dX0_isOf_34 rfl (by unfold vp_in; decide) ?_
        refine V.top (x' := (0 : Int32)) ((by decide)) ?_
        refine V.istore_n dX0_isOf_35 rfl (i := 2) (by decide) (fun _ h => by cases h; exact Or.inl rfl) rfl ?_
        refine V.iinc dX0_isOf_36 rfl (v := ((1 : Int32) + 1)) rfl (by decide) (fun _ h => by cases h; exact Or.inl rfl) rfl ?_
        refine V.goto dX0_isOf_39 (tgt := 7) (by decide) ?_
        exact k2 n0 c25
      · refine V.iconst dX0_isOf_28 (v := 1) (by decide) ?_
        exact V.zret dX0_isOf_29 rfl (by first | exact Or.inl rfl | exact Or.inr rfl | assumption | exact b2i_zo _ | (repeat' split) <;> first | exact Or.inl rfl | exact Or.inr rfl | assumption | exact b2i_zo _) (Qi hQ (by subst_vars; unfold b2i isOfB; first | decide | ((repeat' split) <;> (try simp_all [Int32.not_le, Int32.not_lt]) <;> (try (simp only [Int32.lt_iff_toInt_lt, Int32.le_iff_toInt_le, ← Int32.toInt_inj, Int32.reduceToInt] at *; omega)))))
    have k0 : V cS g d mX0_isOf 7 [some (.ref (30 + b)), some (.int k), some (.int (4 : Int32)), some (.int (0 : Int32))] [] M Q := by
      refine V.iload_n dX0_isOf_7 rfl (i := 3) rfl ?_
      refine V.bipush dX0_isOf_8 (v := 7) (by decide) ?_
      refine V.ic_ge (tgt := 42) dX0_isOf_10 (by decide) (fun q => absurd q ((by decide))) (fun c10 => ?_)
      refine V.iload_n dX0_isOf_13 rfl (i := 2) rfl ?_
      refine V.if_lt (tgt := 42) dX0_isOf_14 (by decide) (fun q => absurd q ((by decide))) (fun c14 => ?_)
      refine V.iload_n dX0_isOf_17 rfl (i := 2) rfl ?_
      refine V.bipush dX0_isOf_18 (v := 7) (by decide) ?_
      refine V.ic_ge (tgt := 42) dX0_isOf_20 (by decide) (fun q => absurd q ((by decide))) (fun c20 => ?_)
      refine V.iload_n dX0_isOf_23 rfl (i := 2) rfl ?_
      refine V.iload_n dX0_isOf_24 rfl (i := 1) rfl ?_
      refine V.ic_ne (tgt := 30) dX0_isOf_25 (by decide) (fun c25 => ?_) (fun c25 => ?_)
      · refine V.getsN (j := 0) (host := "OneBreath") dX0_isOf_30 rfl rfl (by decide) ?_
        refine V.iload_n dX0_isOf_33 rfl (i := 2) rfl ?_
        refine V.iaTb (j := 0) dX0_isOf_34 rfl (by unfold vp_in; decide) ?_
        refine V.top (x' := (1 : Int32)) ((by decide)) ?_
        refine V.istore_n dX0_isOf_35 rfl (i := 2) (by decide) (fun _ h => by cases h; exact Or.inl rfl) rfl ?_
        refine V.iinc dX0_isOf_36 rfl (v := ((0 : Int32) + 1)) rfl (by decide) (fun _ h => by cases h; exact Or.inl rfl) rfl ?_
        refine V.goto dX0_isOf_39 (tgt := 7) (by decide) ?_
        exact k1  c25
      · refine V.iconst dX0_isOf_28 (v := 1) (by decide) ?_
        exact V.zret dX0_isOf_29 rfl (by first | exact Or.inl rfl | exact Or.inr rfl | assumption | exact b2i_zo _ | (repeat' split) <;> first | exact Or.inl rfl | exact Or.inr rfl | assumption | exact b2i_zo _) (Qi hQ (by subst_vars; unfold b2i isOfB; first | decide | ((repeat' split) <;> (try simp_all [Int32.not_le, Int32.not_lt]) <;> (try (simp only [Int32.lt_iff_toInt_lt, Int32.le_iff_toInt_le, ← Int32.toInt_inj, Int32.reduceToInt] at *; omega)))))
    refine V.aload_n dX0_isOf_0 rfl (i := 0) rfl ?_
    refine V.getI dX0_isOf_1 rfl flRX0_18 (fkB30 (by first | assumption | decide | omega) (by decide)) (inB30 (by first | assumption | decide | omega)) ?_
    refine V.top (x' := (4 : Int32)) (h0) ?_
    refine V.istore_n dX0_isOf_4 rfl (i := 2) (by decide) (fun _ h => by cases h; exact Or.inl rfl) rfl ?_
    refine V.iconst dX0_isOf_5 (v := 0) (by decide) ?_
    refine V.istore_n dX0_isOf_6 rfl (i := 3) (by decide) (fun _ h => by cases h; exact Or.inl rfl) rfl ?_
    exact k0
  · rw [h0] at hQ
    have k3 : ∀ (n0 : ¬ (5 : Int32) = k) (n1 : ¬ (1 : Int32) = k) (n2 : ¬ (0 : Int32) = k), V cS g d mX0_isOf 7 [some (.ref (30 + b)), some (.int k), some (.int (-1 : Int32)), some (.int (3 : Int32))] [] M Q := by
      intro n0 n1 n2
      refine V.iload_n dX0_isOf_7 rfl (i := 3) rfl ?_
      refine V.bipush dX0_isOf_8 (v := 7) (by decide) ?_
      refine V.ic_ge (tgt := 42) dX0_isOf_10 (by decide) (fun q => absurd q ((by decide))) (fun c10 => ?_)
      refine V.iload_n dX0_isOf_13 rfl (i := 2) rfl ?_
      refine V.if_lt (tgt := 42) dX0_isOf_14 (by decide) (fun c14 => ?_) (fun q => absurd ((by decide)) q)
      refine V.iconst dX0_isOf_42 (v := 0) (by decide) ?_
      exact V.zret dX0_isOf_43 rfl (by first | exact Or.inl rfl | exact Or.inr rfl | assumption | exact b2i_zo _ | (repeat' split) <;> first | exact Or.inl rfl | exact Or.inr rfl | assumption | exact b2i_zo _) (Qi hQ (by subst_vars; unfold b2i isOfB; first | decide | ((repeat' split) <;> (try simp_all [Int32.not_le, Int32.not_lt]) <;> (try (simp only [Int32.lt_iff_toInt_lt, Int32.le_iff_toInt_le, ← Int32.toInt_inj, Int32.reduceToInt] at *; omega)))))
    have k2 : ∀ (n0 : ¬ (5 : Int32) = k) (n1 : ¬ (1 : Int32) = k), V cS g d mX0_isOf 7 [some (.ref (30 + b)), some (.int k), some (.int (0 : Int32)), some (.int (2 : Int32))] [] M Q := by
      intro n0 n1
      refine V.iload_n dX0_isOf_7 rfl (i := 3) rfl ?_
      refine V.bipush dX0_isOf_8 (v := 7) (by decide) ?_
      refine V.ic_ge (tgt := 42) dX0_isOf_10 (by decide) (fun q => absurd q ((by decide))) (fun c10 => ?_)
      refine V.iload_n dX0_isOf_13 rfl (i := 2) rfl ?_
      refine V.if_lt (tgt := 42) dX0_isOf_14 (by decide) (fun q => absurd q ((by decide))) (fun c14 => ?_)
      refine V.iload_n dX0_isOf_17 rfl (i := 2) rfl ?_
      refine V.bipush dX0_isOf_18 (v := 7) (by decide) ?_
      refine V.ic_ge (tgt := 42) dX0_isOf_20 (by decide) (fun q => absurd q ((by decide))) (fun c20 => ?_)
      refine V.iload_n dX0_isOf_23 rfl (i := 2) rfl ?_
      refine V.iload_n dX0_isOf_24 rfl (i := 1) rfl ?_
      refine V.ic_ne (tgt := 30) dX0_isOf_25 (by decide) (fun c25 => ?_) (fun c25 => ?_)
      · refine V.getsN (j := 0) (host := "OneBreath") dX0_isOf_30 rfl rfl (by decide) ?_
        refine V.iload_n dX0_isOf_33 rfl (i := 2) rfl ?_
        refine V.iaTb (j := 0) dX0_isOf_34 rfl (by unfold vp_in; decide) ?_
        refine V.top (x' := (-1 : Int32)) ((by decide)) ?_
        refine V.istore_n dX0_isOf_35 rfl (i := 2) (by decide) (fun _ h => by cases h; exact Or.inl rfl) rfl ?_
        refine V.iinc dX0_isOf_36 rfl (v := ((2 : Int32) + 1)) rfl (by decide) (fun _ h => by cases h; exact Or.inl rfl) rfl ?_
        refine V.goto dX0_isOf_39 (tgt := 7) (by decide) ?_
        exact k3 n0 n1 c25
      · refine V.iconst dX0_isOf_28 (v := 1) (by decide) ?_
        exact V.zret dX0_isOf_29 rfl (by first | exact Or.inl rfl | exact Or.inr rfl | assumption | exact b2i_zo _ | (repeat' split) <;> first | exact Or.inl rfl | exact Or.inr rfl | assumption | exact b2i_zo _) (Qi hQ (by subst_vars; unfold b2i isOfB; first | decide | ((repeat' split) <;> (try simp_all [Int32.not_le, Int32.not_lt]) <;> (try (simp only [Int32.lt_iff_toInt_lt, Int32.le_iff_toInt_le, ← Int32.toInt_inj, Int32.reduceToInt] at *; omega)))))
    have k1 : ∀ (n0 : ¬ (5 : Int32) = k), V cS g d mX0_isOf 7 [some (.ref (30 + b)), some (.int k), some (.int (1 : Int32)), some (.int (1 : Int32))] [] M Q := by
      intro n0
      refine V.iload_n dX0_isOf_7 rfl (i := 3) rfl ?_
      refine V.bipush dX0_isOf_8 (v := 7) (by decide) ?_
      refine V.ic_ge (tgt := 42) dX0_isOf_10 (by decide) (fun q => absurd q ((by decide))) (fun c10 => ?_)
      refine V.iload_n dX0_isOf_13 rfl (i := 2) rfl ?_
      refine V.if_lt (tgt := 42) dX0_isOf_14 (by decide) (fun q => absurd q ((by decide))) (fun c14 => ?_)
      refine V.iload_n dX0_isOf_17 rfl (i := 2) rfl ?_
      refine V.bipush dX0_isOf_18 (v := 7) (by decide) ?_
      refine V.ic_ge (tgt := 42) dX0_isOf_20 (by decide) (fun q => absurd q ((by decide))) (fun c20 => ?_)
      refine V.iload_n dX0_isOf_23 rfl (i := 2) rfl ?_
      refine V.iload_n dX0_isOf_24 rfl (i := 1) rfl ?_
      refine V.ic_ne (tgt := 30) dX0_isOf_25 (by decide) (fun c25 => ?_) (fun c25 => ?_)
      · refine V.getsN (j := 0) (host := "OneBreath") dX0_isOf_30 rfl rfl (by decide) ?_
        refine V.iload_n dX0_isOf_33 rfl (i := 2) rfl ?_
        refine V.iaTb (j := 0) dX0_isOf_34 rfl (by unfold vp_in; decide) ?_
        refine V.top (x' := (0 : Int32)) ((by decide)) ?_
        refine V.istore_n dX0_isOf_35 rfl (i := 2) (by decide) (fun _ h => by cases h; exact Or.inl rfl) rfl ?_
        refine V.iinc dX0_isOf_36 rfl (v := ((1 : Int32) + 1)) rfl (by decide) (fun _ h => by cases h; exact Or.inl rfl) rfl ?_
        refine V.goto dX0_isOf_39 (tgt := 7) (by decide) ?_
        exact k2 n0 c25
      · refine V.iconst dX0_isOf_28 (v := 1) (by decide) ?_
        exact V.zret dX0_isOf_29 rfl (by first | exact Or.inl rfl | exact Or.inr rfl | assumption | exact b2i_zo _ | (repeat' split) <;> first | exact Or.inl rfl | exact Or.inr rfl | assumption | exact b2i_zo _) (Qi hQ (by subst_vars; unfold b2i isOfB; first | decide | ((repeat' split) <;> (try simp_all [Int32.not_le, Int32.not_lt]) <;> (try (simp only [Int32.lt_iff_toInt_lt, Int32.le_iff_toInt_le, ← Int32.toInt_inj, Int32.reduceToInt] at *; omega)))))
    have k0 : V cS g d mX0_isOf 7 [some (.ref (30 + b)), some (.int k), some (.int (5 : Int32)), some (.int (0 : Int32))] [] M Q := by
      refine V.iload_n dX0_isOf_7 rfl (i := 3) rfl ?_
      refine V.bipush dX0_isOf_8 (v := 7) (by decide) ?_
      refine V.ic_ge (tgt := 42) dX0_isOf_10 (by decide) (fun q => absurd q ((by decide))) (fun c10 => ?_)
      refine V.iload_n dX0_isOf_13 rfl (i := 2) rfl ?_
      refine V.if_lt (tgt := 42) dX0_isOf_14 (by decide) (fun q => absurd q ((by decide))) (fun c14 => ?_)
      refine V.iload_n dX0_isOf_17 rfl (i := 2) rfl ?_
      refine V.bipush dX0_isOf_18 (v := 7) (by decide) ?_
      refine V.ic_ge (tgt := 42) dX0_isOf_20 (by decide) (fun q => absurd q ((by decide))) (fun c20 => ?_)
      refine V.iload_n dX0_isOf_23 rfl (i := 2) rfl ?_
      refine V.iload_n dX0_isOf_24 rfl (i := 1) rfl ?_
      refine V.ic_ne (tgt := 30) dX0_isOf_25 (by decide) (fun c25 => ?_) (fun c25 => ?_)
      · refine V.getsN (j := 0) (host := "OneBreath") dX0_isOf_30 rfl rfl (by decide) ?_
        refine V.iload_n dX0_isOf_33 rfl (i := 2) rfl ?_
        refine V.iaTb (j := 0) dX0_isOf_34 rfl (by unfold vp_in; decide) ?_
        refine V.top (x' := (1 : Int32)) ((by decide)) ?_
        refine V.istore_n dX0_isOf_35 rfl (i := 2) (by decide) (fun _ h => by cases h; exact Or.inl rfl) rfl ?_
        refine V.iinc dX0_isOf_36 rfl (v := ((0 : Int32) + 1)) rfl (by decide) (fun _ h => by cases h; exact Or.inl rfl) rfl ?_
        refine V.goto dX0_isOf_39 (tgt := 7) (by decide) ?_
        exact k1  c25
      · refine V.iconst dX0_isOf_28 (v := 1) (by decide) ?_
        exact V.zret dX0_isOf_29 rfl (by first | exact Or.inl rfl | exact Or.inr rfl | assumption | exact b2i_zo _ | (repeat' split) <;> first | exact Or.inl rfl | exact Or.inr rfl | assumption | exact b2i_zo _) (Qi hQ (by subst_vars; unfold b2i isOfB; first | decide | ((repeat' split) <;> (try simp_all [Int32.not_le, Int32.not_lt]) <;> (try (simp only [Int32.lt_iff_toInt_lt, Int32.le_iff_toInt_le, ← Int32.toInt_inj, Int32.reduceToInt] at *; omega)))))
    refine V.aload_n dX0_isOf_0 rfl (i := 0) rfl ?_
    refine V.getI dX0_isOf_1 rfl flRX0_18 (fkB30 (by first | assumption | decide | omega) (by decide)) (inB30 (by first | assumption | decide | omega)) ?_
    refine V.top (x' := (5 : Int32)) (h0) ?_
    refine V.istore_n dX0_isOf_4 rfl (i := 2) (by decide) (fun _ h => by cases h; exact Or.inl rfl) rfl ?_
    refine V.iconst dX0_isOf_5 (v := 0) (by decide) ?_
    refine V.istore_n dX0_isOf_6 rfl (i := 3) (by decide) (fun _ h => by cases h; exact Or.inl rfl) rfl ?_
    exact k0
  · rw [h0] at hQ
    have k3 : ∀ (n0 : ¬ (6 : Int32) = k) (n1 : ¬ (3 : Int32) = k) (n2 : ¬ (0 : Int32) = k), V cS g d mX0_isOf 7 [some (.ref (30 + b)), some (.int k), some (.int (-1 : Int32)), some (.int (3 : Int32))] [] M Q := by
      intro n0 n1 n2
      refine V.iload_n dX0_isOf_7 rfl (i := 3) rfl ?_
      refine V.bipush dX0_isOf_8 (v := 7) (by decide) ?_
      refine V.ic_ge (tgt := 42) dX0_isOf_10 (by decide) (fun q => absurd q ((by decide))) (fun c10 => ?_)
      refine V.iload_n dX0_isOf_13 rfl (i := 2) rfl ?_
      refine V.if_lt (tgt := 42) dX0_isOf_14 (by decide) (fun c14 => ?_) (fun q => absurd ((by decide)) q)
      refine V.iconst dX0_isOf_42 (v := 0) (by decide) ?_
      exact V.zret dX0_isOf_43 rfl (by first | exact Or.inl rfl | exact Or.inr rfl | assumption | exact b2i_zo _ | (repeat' split) <;> first | exact Or.inl rfl | exact Or.inr rfl | assumption | exact b2i_zo _) (Qi hQ (by subst_vars; unfold b2i isOfB; first | decide | ((repeat' split) <;> (try simp_all [Int32.not_le, Int32.not_lt]) <;> (try (simp only [Int32.lt_iff_toInt_lt, Int32.le_iff_toInt_le, ← Int32.toInt_inj, Int32.reduceToInt] at *; omega)))))
    have k2 : ∀ (n0 : ¬ (6 : Int32) = k) (n1 : ¬ (3 : Int32) = k), V cS g d mX0_isOf 7 [some (.ref (30 + b)), some (.int k), some (.int (0 : Int32)), some (.int (2 : Int32))] [] M Q := by
      intro n0 n1
      refine V.iload_n dX0_isOf_7 rfl (i := 3) rfl ?_
      refine V.bipush dX0_isOf_8 (v := 7) (by decide) ?_
      refine V.ic_ge (tgt := 42) dX0_isOf_10 (by decide) (fun q => absurd q ((by decide))) (fun c10 => ?_)
      refine V.iload_n dX0_isOf_13 rfl (i := 2) rfl ?_
      refine V.if_lt (tgt := 42) dX0_isOf_14 (by decide) (fun q => absurd q ((by decide))) (fun c14 => ?_)
      refine V.iload_n dX0_isOf_17 rfl (i := 2) rfl ?_
      refine V.bipush dX0_isOf_18 (v := 7) (by decide) ?_
      refine V.ic_ge (tgt := 42) dX0_isOf_20 (by decide) (fun q => absurd q ((by decide))) (fun c20 => ?_)
      refine V.iload_n dX0_isOf_23 rfl (i := 2) rfl ?_
      refine V.iload_n dX0_isOf_24 rfl (i := 1) rfl ?_
      refine V.ic_ne (tgt := 30) dX0_isOf_25 (by decide) (fun c25 => ?_) (fun c25 => ?_)
      · refine V.getsN (j := 0) (host := "OneBreath") dX0_isOf_30 rfl rfl (by decide) ?_
        refine V.iload_n dX0_isOf_33 rfl (i := 2) rfl ?_
        refine V.iaTb (j := 0) dX0_isOf_34 rfl (by unfold vp_in; decide) ?_
        refine V.top (x' := (-1 : Int32)) ((by decide)) ?_
        refine V.istore_n dX0_isOf_35 rfl (i := 2) (by decide) (fun _ h => by cases h; exact Or.inl rfl) rfl ?_
        refine V.iinc dX0_isOf_36 rfl (v := ((2 : Int32) + 1)) rfl (by decide) (fun _ h => by cases h; exact Or.inl rfl) rfl ?_
        refine V.goto dX0_isOf_39 (tgt := 7) (by decide) ?_
        exact k3 n0 n1 c25
      · refine V.iconst dX0_isOf_28 (v := 1) (by decide) ?_
        exact V.zret dX0_isOf_29 rfl (by first | exact Or.inl rfl | exact Or.inr rfl | assumption | exact b2i_zo _ | (repeat' split) <;> first | exact Or.inl rfl | exact Or.inr rfl | assumption | exact b2i_zo _) (Qi hQ (by subst_vars; unfold b2i isOfB; first | decide | ((repeat' split) <;> (try simp_all [Int32.not_le, Int32.not_lt]) <;> (try (simp only [Int32.lt_iff_toInt_lt, Int32.le_iff_toInt_le, ← Int32.toInt_inj, Int32.reduceToInt] at *; omega)))))
    have k1 : ∀ (n0 : ¬ (6 : Int32) = k), V cS g d mX0_isOf 7 [some (.ref (30 + b)), some (.int k), some (.int (3 : Int32)), some (.int (1 : Int32))] [] M Q := by
      intro n0
      refine V.iload_n dX0_isOf_7 rfl (i := 3) rfl ?_
      refine V.bipush dX0_isOf_8 (v := 7) (by decide) ?_
      refine V.ic_ge (tgt := 42) dX0_isOf_10 (by decide) (fun q => absurd q ((by decide))) (fun c10 => ?_)
      refine V.iload_n dX0_isOf_13 rfl (i := 2) rfl ?_
      refine V.if_lt (tgt := 42) dX0_isOf_14 (by decide) (fun q => absurd q ((by decide))) (fun c14 => ?_)
      refine V.iload_n dX0_isOf_17 rfl (i := 2) rfl ?_
      refine V.bipush dX0_isOf_18 (v := 7) (by decide) ?_
      refine V.ic_ge (tgt := 42) dX0_isOf_20 (by decide) (fun q => absurd q ((by decide))) (fun c20 => ?_)
      refine V.iload_n dX0_isOf_23 rfl (i := 2) rfl ?_
      refine V.iload_n dX0_isOf_24 rfl (i := 1) rfl ?_
      refine V.ic_ne (tgt := 30) dX0_isOf_25 (by decide) (fun c25 => ?_) (fun c25 => ?_)
      · refine V.getsN (j := 0) (host := "OneBreath") dX0_isOf_30 rfl rfl (by decide) ?_
        refine V.iload_n dX0_isOf_33 rfl (i := 2) rfl ?_
        refine V.iaTb (j := 0) dX0_isOf_34 rfl (by unfold vp_in; decide) ?_
        refine V.top (x' := (0 : Int32)) ((by decide)) ?_
        refine V.istore_n dX0_isOf_35 rfl (i := 2) (by decide) (fun _ h => by cases h; exact Or.inl rfl) rfl ?_
        refine V.iinc dX0_isOf_36 rfl (v := ((1 : Int32) + 1)) rfl (by decide) (fun _ h => by cases h; exact Or.inl rfl) rfl ?_
        refine V.goto dX0_isOf_39 (tgt := 7) (by decide) ?_
        exact k2 n0 c25
      · refine V.iconst dX0_isOf_28 (v := 1) (by decide) ?_
        exact V.zret dX0_isOf_29 rfl (by first | exact Or.inl rfl | exact Or.inr rfl | assumption | exact b2i_zo _ | (repeat' split) <;> first | exact Or.inl rfl | exact Or.inr rfl | assumption | exact b2i_zo _) (Qi hQ (by subst_vars; unfold b2i isOfB; first | decide | ((repeat' split) <;> (try simp_all [Int32.not_le, Int32.not_lt]) <;> (try (simp only [Int32.lt_iff_toInt_lt, Int32.le_iff_toInt_le, ← Int32.toInt_inj, Int32.reduceToInt] at *; omega)))))
    have k0 : V cS g d mX0_isOf 7 [some (.ref (30 + b)), some (.int k), some (.int (6 : Int32)), some (.int (0 : Int32))] [] M Q := by
      refine V.iload_n dX0_isOf_7 rfl (i := 3) rfl ?_
      refine V.bipush dX0_isOf_8 (v := 7) (by decide) ?_
      refine V.ic_ge (tgt := 42) dX0_isOf_10 (by decide) (fun q => absurd q ((by decide))) (fun c10 => ?_)
      refine V.iload_n dX0_isOf_13 rfl (i := 2) rfl ?_
      refine V.if_lt (tgt := 42) dX0_isOf_14 (by decide) (fun q => absurd q ((by decide))) (fun c14 => ?_)
      refine V.iload_n dX0_isOf_17 rfl (i := 2) rfl ?_
      refine V.bipush dX0_isOf_18 (v := 7) (by decide) ?_
      refine V.ic_ge (tgt := 42) dX0_isOf_20 (by decide) (fun q => absurd q ((by decide))) (fun c20 => ?_)
      refine V.iload_n dX0_isOf_23 rfl (i := 2) rfl ?_
      refine V.iload_n dX0_isOf_24 rfl (i := 1) rfl ?_
      refine V.ic_ne (tgt := 30) dX0_isOf_25 (by decide) (fun c25 => ?_) (fun c25 => ?_)
      · refine V.getsN (j := 0) (host := "OneBreath") dX0_isOf_30 rfl rfl (by decide) ?_
        refine V.iload_n dX0_isOf_33 rfl (i := 2) rfl ?_
        refine V.iaTb (j := 0) dX0_isOf_34 rfl (by unfold vp_in; decide) ?_
        refine V.top (x' := (3 : Int32)) ((by decide)) ?_
        refine V.istore_n dX0_isOf_35 rfl (i := 2) (by decide) (fun _ h => by cases h; exact Or.inl rfl) rfl ?_
        refine V.iinc dX0_isOf_36 rfl (v := ((0 : Int32) + 1)) rfl (by decide) (fun _ h => by cases h; exact Or.inl rfl) rfl ?_
        refine V.goto dX0_isOf_39 (tgt := 7) (by decide) ?_
        exact k1  c25
      · refine V.iconst dX0_isOf_28 (v := 1) (by decide) ?_
        exact V.zret dX0_isOf_29 rfl (by first | exact Or.inl rfl | exact Or.inr rfl | assumption | exact b2i_zo _ | (repeat' split) <;> first | exact Or.inl rfl | exact Or.inr rfl | assumption | exact b2i_zo _) (Qi hQ (by subst_vars; unfold b2i isOfB; first | decide | ((repeat' split) <;> (try simp_all [Int32.not_le, Int32.not_lt]) <;> (try (simp only [Int32.lt_iff_toInt_lt, Int32.le_iff_toInt_le, ← Int32.toInt_inj, Int32.reduceToInt] at *; omega)))))
    refine V.aload_n dX0_isOf_0 rfl (i := 0) rfl ?_
    refine V.getI dX0_isOf_1 rfl flRX0_18 (fkB30 (by first | assumption | decide | omega) (by decide)) (inB30 (by first | assumption | decide | omega)) ?_
    refine V.top (x' := (6 : Int32)) (h0) ?_
    refine V.istore_n dX0_isOf_4 rfl (i := 2) (by decide) (fun _ h => by cases h; exact Or.inl rfl) rfl ?_
    refine V.iconst dX0_isOf_5 (v := 0) (by decide) ?_
    refine V.istore_n dX0_isOf_6 rfl (i := 3) (by decide) (fun _ h => by cases h; exact Or.inl rfl) rfl ?_
    exact k0

