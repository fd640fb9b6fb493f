/-! ===== Law: the steps worked out on a stack ===== -/
/-- M' is M but for the cells S -/
def eqx (S : List Nat) (M M' : Mem) : Prop := ∀ c, c ∉ S → M' c = M c
theorem eqx.rf {S : List Nat} {M : Mem} : eqx S M M := fun _ _ => rfl
theorem eqx.tr {S : List Nat} {M M1 M2 : Mem} (h : eqx S M M1) (h2 : eqx S M1 M2) : eqx S M M2 := fun c hc => (h2 c hc).trans (h c hc)
theorem eqx.up {S S' : List Nat} {M M1 : Mem} (h : eqx S M M1) (hs : ∀ c ∈ S, c ∈ S') : eqx S' M M1 := fun c hc => h c (fun q => hc (hs c q))
theorem put_cell {M : Mem} {a j c : Nat} {x : Int32} (h : c ≠ a) : put M a j x c = M c := by
  funext i
  exact put_n (fun q => h q.1)
theorem um_cell {M : Mem} {a c : Nat} {f : Nat → Int32} (h : c ≠ a) : um M a f c = M c := um_n h
theorem eqx.put {S : List Nat} {M M1 : Mem} {a j : Nat} {x : Int32} (h : eqx S M M1) (ha : a ∈ S) : eqx S M (put M1 a j x) := fun c hc => (put_cell (a := a) (c := c) (fun e => hc (by rw [e]; exact ha))).trans (h c hc)
theorem eqx.um {S : List Nat} {M M1 : Mem} {a : Nat} {f : Nat → Int32} (h : eqx S M M1) (ha : a ∈ S) : eqx S M (um M1 a f) := fun c hc => (um_cell (a := a) (c := c) (fun e => hc (by rw [e]; exact ha))).trans (h c hc)
def joinF (s l r : Int32) : Int32 := if s = 38 then b2i (¬ l = 0 ∧ ¬ r = 0) else if s = 42 then l * r else if s = 43 then l + r else if s = 45 then l - r else if s = 47 then (if r = 0 then 0 else l / r) else if s = 60 then b2i (l < r) else if s = 61 then b2i (l = r) else if s = 62 then b2i (r < l) else if s = 124 then b2i (¬ l = 0 ∨ ¬ r = 0) else (if r = 0 then 0 else l - l / r * r)
def rpnRun (nm : Nat → Int32) : List Int32 → List Int32 → Int32
  | [], stk => (match stk with
    | [x] => x
    | _ => 0)
  | s :: r, stk =>
    if s < -5 then
      if s = -33 then (match stk with
        | [] => 0
        | x :: t => rpnRun nm r ((if x = 0 then 1 else 0) :: t))
      else (match stk with
        | y :: x :: t => rpnRun nm r (joinF (-s) x y :: t)
        | _ => 0)
    else if stk.length < 50 then rpnRun nm r ((if s < 0 then nm (Int32.toNatClampNeg (-1 - s)) else s) :: stk) else 0
def StkOK (f : Nat → Int32) (stk : List Int32) : Prop := ∀ k, k < stk.length → f (stk.length - 1 - k) = stk.getD k 0
theorem StkOK.push {f : Nat → Int32} {stk : List Int32} {x : Int32} (h : StkOK f stk) : StkOK (fun i => if i = stk.length then x else f i) (x :: stk) := by
  intro k hk
  rw [List.length_cons] at hk ⊢
  cases k with
  | zero => simp
  | succ k =>
    have := h k (by omega)
    rw [List.getD_cons_succ, ← this]
    show (if stk.length + 1 - 1 - (k + 1) = stk.length then x else _) = _
    rw [if_neg (by omega)]
    congr 1
    omega
theorem StkOK.un {f : Nat → Int32} {t : List Int32} {x x' : Int32} (h : StkOK f (x :: t)) : StkOK (fun i => if i = t.length then x' else f i) (x' :: t) := by
  intro k hk
  rw [List.length_cons] at hk ⊢
  cases k with
  | zero => simp
  | succ k =>
    have := h (k + 1) (by rw [List.length_cons]; omega)
    rw [List.length_cons, List.getD_cons_succ] at this
    rw [List.getD_cons_succ, ← this]
    show (if t.length + 1 - 1 - (k + 1) = t.length then x' else _) = _
    rw [if_neg (by omega)]
theorem StkOK.bin {f : Nat → Int32} {t : List Int32} {x y v : Int32} (h : StkOK f (y :: x :: t)) : StkOK (fun i => if i = t.length then v else f i) (v :: t) := by
  intro k hk
  rw [List.length_cons] at hk ⊢
  cases k with
  | zero => simp
  | succ k =>
    have := h (k + 2) (by rw [List.length_cons, List.length_cons]; omega)
    rw [List.length_cons, List.length_cons, List.getD_cons_succ, List.getD_cons_succ] at this
    rw [List.getD_cons_succ, ← this]
    show (if t.length + 1 - 1 - (k + 1) = t.length then v else _) = _
    rw [if_neg (by omega)]
    congr 1
    omega
theorem StkOK.at0 {f : Nat → Int32} {x : Int32} {t : List Int32} (h : StkOK f (x :: t)) : f t.length = x := by
  have := h 0 (by simp)
  simpa using this
theorem StkOK.at1 {f : Nat → Int32} {x y : Int32} {t : List Int32} (h : StkOK f (y :: x :: t)) : f t.length = x := by
  have := h 1 (by simp)
  simpa using this
theorem put_f {M : Mem} {a j : Nat} {x : Int32} : put M a j x a = fun i => if i = j then x else M a i := by
  funext i
  simp [put]
theorem nm_ix {s : Int32} (h1 : ¬ s < -5) (h2 : s < 0) : vp_in (-1 - s) 5 := by
  have e : s = -1 ∨ s = -2 ∨ s = -3 ∨ s = -4 ∨ s = -5 := by simp only [Int32.lt_iff_toInt_lt, ← Int32.toInt_inj, Int32.reduceToInt] at *; omega
  rcases e with rfl | rfl | rfl | rfl | rfl <;> (unfold vp_in; decide)
theorem nm_lt {s : Int32} (h1 : ¬ s < -5) (h2 : s < 0) : Int32.toNatClampNeg (-1 - s) < 5 := by
  have e : s = -1 ∨ s = -2 ∨ s = -3 ∨ s = -4 ∨ s = -5 := by simp only [Int32.lt_iff_toInt_lt, ← Int32.toInt_inj, Int32.reduceToInt] at *; omega
  rcases e with rfl | rfl | rfl | rfl | rfl <;> decide

set_option maxHeartbeats 4000000 in
set_option maxRecDepth 100000 in
theorem c_join {g : GG} {d : Nat} {M : Mem} {Q : Option Value → Mem → Prop} {s l r : Int32}  (hQ : Q (some (.int (joinF s l r))) (M)) : V cS g d mX2_join 0 [some (.int s), some (.int l), some (.int r)] [] M Q := by
  refine V.iload_n dX2_join_0 rfl (i := 0) rfl ?_
  by_cases s1_38 : s = (38 : Int32)
  · refine V.lookup (tgt := 98) dX2_join_1 (by decide) (by rw [s1_38] <;> rfl) (by decide) ?_
    refine V.iload_n dX2_join_98 rfl (i := 1) rfl ?_
    suffices kJ99 : V cS g d mX2_join 111 [some (.int s), some (.int l), some (.int r)] [.int (if l = (0 : Int32) then (0 : Int32) else (if r = (0 : Int32) then (0 : Int32) else (1 : Int32)))] M Q by
      refine V.if_eq (tgt := 110) dX2_join_99 (by decide) (fun c99 => ?_) (fun c99 => ?_)
      · refine V.iconst dX2_join_110 (v := 0) (by decide) ?_
        rw [if_pos c99] at kJ99; exact kJ99
      · refine V.iload_n dX2_join_102 rfl (i := 2) rfl ?_
        refine V.if_eq (tgt := 110) dX2_join_103 (by decide) (fun c103 => ?_) (fun c103 => ?_)
        · refine V.iconst dX2_join_110 (v := 0) (by decide) ?_
          rw [if_neg c99, if_pos c103] at kJ99; exact kJ99
        · refine V.iconst dX2_join_106 (v := 1) (by decide) ?_
          refine V.goto dX2_join_107 (tgt := 111) (by decide) ?_
          rw [if_neg c99, if_neg c103] at kJ99; exact kJ99
    exact V.ret dX2_join_111 rfl (Qi hQ (by simp only [joinF, s1_38, if_true, if_false, reduceIte]; try (unfold b2i; (repeat' split) <;> (try simp_all [Int32.not_le, Int32.not_lt]) <;> (try (simp only [Int32.lt_iff_toInt_lt, Int32.le_iff_toInt_le, ← Int32.toInt_inj, Int32.reduceToInt] at *; omega)))))
  by_cases s1_42 : s = (42 : Int32)
  · refine V.lookup (tgt := 153) dX2_join_1 (by decide) (by rw [s1_42] <;> rfl) (by decide) ?_
    refine V.iload_n dX2_join_153 rfl (i := 1) rfl ?_
    refine V.iload_n dX2_join_154 rfl (i := 2) rfl ?_
    refine V.imul dX2_join_155 ?_
    exact V.ret dX2_join_156 rfl (Qi hQ (by simp only [joinF, s1_42, if_true, if_false, reduceIte]; try (unfold b2i; (repeat' split) <;> (try simp_all [Int32.not_le, Int32.not_lt]) <;> (try (simp only [Int32.lt_iff_toInt_lt, Int32.le_iff_toInt_le, ← Int32.toInt_inj, Int32.reduceToInt] at *; omega)))))
  by_cases s1_43 : s = (43 : Int32)
  · refine V.lookup (tgt := 145) dX2_join_1 (by decide) (by rw [s1_43] <;> rfl) (by decide) ?_
    refine V.iload_n dX2_join_145 rfl (i := 1) rfl ?_
    refine V.iload_n dX2_join_146 rfl (i := 2) rfl ?_
    refine V.iadd dX2_join_147 ?_
    exact V.ret dX2_join_148 rfl (Qi hQ (by simp only [joinF, s1_43, if_true, if_false, reduceIte]; try (unfold b2i; (repeat' split) <;> (try simp_all [Int32.not_le, Int32.not_lt]) <;> (try (simp only [Int32.lt_iff_toInt_lt, Int32.le_iff_toInt_le, ← Int32.toInt_inj, Int32.reduceToInt] at *; omega)))))
  by_cases s1_45 : s = (45 : Int32)
  · refine V.lookup (tgt := 149) dX2_join_1 (by decide) (by rw [s1_45] <;> rfl) (by decide) ?_
    refine V.iload_n dX2_join_149 rfl (i := 1) rfl ?_
    refine V.iload_n dX2_join_150 rfl (i := 2) rfl ?_
    refine V.isub dX2_join_151 ?_
    exact V.ret dX2_join_152 rfl (Qi hQ (by simp only [joinF, s1_45, if_true, if_false, reduceIte]; try (unfold b2i; (repeat' split) <;> (try simp_all [Int32.not_le, Int32.not_lt]) <;> (try (simp only [Int32.lt_iff_toInt_lt, Int32.le_iff_toInt_le, ← Int32.toInt_inj, Int32.reduceToInt] at *; omega)))))
  by_cases s1_47 : s = (47 : Int32)
  · refine V.lookup (tgt := 157) dX2_join_1 (by decide) (by rw [s1_47] <;> rfl) (by decide) ?_
    refine V.iload_n dX2_join_157 rfl (i := 2) rfl ?_
    refine V.if_ne (tgt := 165) dX2_join_158 (by decide) (fun c158 => ?_) (fun c158 => ?_)
    · refine V.iload_n dX2_join_165 rfl (i := 1) rfl ?_
      refine V.iload_n dX2_join_166 rfl (i := 2) rfl ?_
      refine V.idiv dX2_join_167 (by first | assumption | decide | omega) ?_
      exact V.ret dX2_join_168 rfl (Qi hQ (by simp only [joinF, s1_47, c158, if_true, if_false, reduceIte]; try (unfold b2i; (repeat' split) <;> (try simp_all [Int32.not_le, Int32.not_lt]) <;> (try (simp only [Int32.lt_iff_toInt_lt, Int32.le_iff_toInt_le, ← Int32.toInt_inj, Int32.reduceToInt] at *; omega)))))
    · refine V.iconst dX2_join_161 (v := 0) (by decide) ?_
      refine V.goto dX2_join_162 (tgt := 168) (by decide) ?_
      exact V.ret dX2_join_168 rfl (Qi hQ (by simp only [joinF, s1_47, c158, if_true, if_false, reduceIte]; try (unfold b2i; (repeat' split) <;> (try simp_all [Int32.not_le, Int32.not_lt]) <;> (try (simp only [Int32.lt_iff_toInt_lt, Int32.le_iff_toInt_le, ← Int32.toInt_inj, Int32.reduceToInt] at *; omega)))))
  by_cases s1_60 : s = (60 : Int32)
  · refine V.lookup (tgt := 112) dX2_join_1 (by decide) (by rw [s1_60] <;> rfl) (by decide) ?_
    refine V.iload_n dX2_join_112 rfl (i := 1) rfl ?_
    refine V.iload_n dX2_join_113 rfl (i := 2) rfl ?_
    suffices kJ114 : V cS g d mX2_join 122 [some (.int s), some (.int l), some (.int r)] [.int (if r ≤ l then (0 : Int32) else (1 : Int32))] M Q by
      refine V.ic_ge (tgt := 121) dX2_join_114 (by decide) (fun c114 => ?_) (fun c114 => ?_)
      · refine V.iconst dX2_join_121 (v := 0) (by decide) ?_
        rw [if_pos c114] at kJ114; exact kJ114
      · refine V.iconst dX2_join_117 (v := 1) (by decide) ?_
        refine V.goto dX2_join_118 (tgt := 122) (by decide) ?_
        rw [if_neg c114] at kJ114; exact kJ114
    exact V.ret dX2_join_122 rfl (Qi hQ (by simp only [joinF, s1_60, if_true, if_false, reduceIte]; try (unfold b2i; (repeat' split) <;> (try simp_all [Int32.not_le, Int32.not_lt]) <;> (try (simp only [Int32.lt_iff_toInt_lt, Int32.le_iff_toInt_le, ← Int32.toInt_inj, Int32.reduceToInt] at *; omega)))))
  by_cases s1_61 : s = (61 : Int32)
  · refine V.lookup (tgt := 123) dX2_join_1 (by decide) (by rw [s1_61] <;> rfl) (by decide) ?_
    refine V.iload_n dX2_join_123 rfl (i := 1) rfl ?_
    refine V.iload_n dX2_join_124 rfl (i := 2) rfl ?_
    suffices kJ125 : V cS g d mX2_join 133 [some (.int s), some (.int l), some (.int r)] [.int (if l = r then (1 : Int32) else (0 : Int32))] M Q by
      refine V.ic_ne (tgt := 132) dX2_join_125 (by decide) (fun c125 => ?_) (fun c125 => ?_)
      · refine V.iconst dX2_join_132 (v := 0) (by decide) ?_
        rw [if_neg c125] at kJ125; exact kJ125
      · refine V.iconst dX2_join_128 (v := 1) (by decide) ?_
        refine V.goto dX2_join_129 (tgt := 133) (by decide) ?_
        rw [if_pos c125] at kJ125; exact kJ125
    exact V.ret dX2_join_133 rfl (Qi hQ (by simp only [joinF, s1_61, if_true, if_false, reduceIte]; try (unfold b2i; (repeat' split) <;> (try simp_all [Int32.not_le, Int32.not_lt]) <;> (try (simp only [Int32.lt_iff_toInt_lt, Int32.le_iff_toInt_le, ← Int32.toInt_inj, Int32.reduceToInt] at *; omega)))))
  by_cases s1_62 : s = (62 : Int32)
  · refine V.lookup (tgt := 134) dX2_join_1 (by decide) (by rw [s1_62] <;> rfl) (by decide) ?_
    refine V.iload_n dX2_join_134 rfl (i := 1) rfl ?_
    refine V.iload_n dX2_join_135 rfl (i := 2) rfl ?_
    suffices kJ136 : V cS g d mX2_join 144 [some (.int s), some (.int l), some (.int r)] [.int (if l ≤ r then (0 : Int32) else (1 : Int32))] M Q by
      refine V.ic_le (tgt := 143) dX2_join_136 (by decide) (fun c136 => ?_) (fun c136 => ?_)
      · refine V.iconst dX2_join_143 (v := 0) (by decide) ?_
        rw [if_pos c136] at kJ136; exact kJ136
      · refine V.iconst dX2_join_139 (v := 1) (by decide) ?_
        refine V.goto dX2_join_140 (tgt := 144) (by decide) ?_
        rw [if_neg c136] at kJ136; exact kJ136
    exact V.ret dX2_join_144 rfl (Qi hQ (by simp only [joinF, s1_62, if_true, if_false, reduceIte]; try (unfold b2i; (repeat' split) <;> (try simp_all [Int32.not_le, Int32.not_lt]) <;> (try (simp only [Int32.lt_iff_toInt_lt, Int32.le_iff_toInt_le, ← Int32.toInt_inj, Int32.reduceToInt] at *; omega)))))
  by_cases s1_124 : s = (124 : Int32)
  · refine V.lookup (tgt := 84) dX2_join_1 (by decide) (by rw [s1_124] <;> rfl) (by decide) ?_
    refine V.iload_n dX2_join_84 rfl (i := 1) rfl ?_
    suffices kJ85 : V cS g d mX2_join 97 [some (.int s), some (.int l), some (.int r)] [.int (if l = (0 : Int32) then (if r = (0 : Int32) then (0 : Int32) else (1 : Int32)) else (1 : Int32))] M Q by
      refine V.if_ne (tgt := 92) dX2_join_85 (by decide) (fun c85 => ?_) (fun c85 => ?_)
      · refine V.iconst dX2_join_92 (v := 1) (by decide) ?_
        refine V.goto dX2_join_93 (tgt := 97) (by decide) ?_
        rw [if_neg c85] at kJ85; exact kJ85
      · refine V.iload_n dX2_join_88 rfl (i := 2) rfl ?_
        refine V.if_eq (tgt := 96) dX2_join_89 (by decide) (fun c89 => ?_) (fun c89 => ?_)
        · refine V.iconst dX2_join_96 (v := 0) (by decide) ?_
          rw [if_pos c85, if_pos c89] at kJ85; exact kJ85
        · refine V.iconst dX2_join_92 (v := 1) (by decide) ?_
          refine V.goto dX2_join_93 (tgt := 97) (by decide) ?_
          rw [if_pos c85, if_neg c89] at kJ85; exact kJ85
    exact V.ret dX2_join_97 rfl (Qi hQ (by simp only [joinF, s1_124, if_true, if_false, reduceIte]; try (unfold b2i; (repeat' split) <;> (try simp_all [Int32.not_le, Int32.not_lt]) <;> (try (simp only [Int32.lt_iff_toInt_lt, Int32.le_iff_toInt_le, ← Int32.toInt_inj, Int32.reduceToInt] at *; omega)))))
  · refine V.lookup (off := 168) (tgt := 169) dX2_join_1 (by decide) (by show Op.lookupswitch.offset [(38, 97), (42, 152), (43, 144), (45, 148), (47, 156), (60, 111), (61, 122), (62, 133), (124, 83)] _ _ = _; rw [lv_osw s1_38 (by decide), lv_osw s1_42 (by decide), lv_osw s1_43 (by decide), lv_osw s1_45 (by decide), lv_osw s1_47 (by decide), lv_osw s1_60 (by decide), lv_osw s1_61 (by decide), lv_osw s1_62 (by decide), lv_osw s1_124 (by decide)]; first | done | rfl) (by decide) ?_
    refine V.iload_n dX2_join_169 rfl (i := 2) rfl ?_
    refine V.if_ne (tgt := 177) dX2_join_170 (by decide) (fun c170 => ?_) (fun c170 => ?_)
    · refine V.iload_n dX2_join_177 rfl (i := 1) rfl ?_
      refine V.iload_n dX2_join_178 rfl (i := 2) rfl ?_
      refine V.irem dX2_join_179 (by first | assumption | decide | omega) ?_
      exact V.ret dX2_join_180 rfl (Qi hQ (by simp only [joinF, s1_38, s1_42, s1_43, s1_45, s1_47, s1_60, s1_61, s1_62, s1_124, c170, if_true, if_false, reduceIte]; try (unfold b2i; (repeat' split) <;> (try simp_all [Int32.not_le, Int32.not_lt]) <;> (try (simp only [Int32.lt_iff_toInt_lt, Int32.le_iff_toInt_le, ← Int32.toInt_inj, Int32.reduceToInt] at *; omega)))))
    · refine V.iconst dX2_join_173 (v := 0) (by decide) ?_
      refine V.goto dX2_join_174 (tgt := 180) (by decide) ?_
      exact V.ret dX2_join_180 rfl (Qi hQ (by simp only [joinF, s1_38, s1_42, s1_43, s1_45, s1_47, s1_60, s1_61, s1_62, s1_124, c170, if_true, if_false, reduceIte]; try (unfold b2i; (repeat' split) <;> (try simp_all [Int32.not_le, Int32.not_lt]) <;> (try (simp only [Int32.lt_iff_toInt_lt, Int32.le_iff_toInt_le, ← Int32.toInt_inj, Int32.reduceToInt] at *; omega)))))
set_option maxHeartbeats 4000000 in
set_option maxRecDepth 100000 in
theorem l_value14 {g : GG} {d : Nat} {M0 : Mem} {Q : Option Value → Mem → Prop} {a b c0 d0 e0 : Int32} {nm : Nat → Int32} {n : Nat} (hn : M0 14 1 = nI n) (h50 : n ≤ 50) : ∀ (rem : List Int32) (i : Nat) (stk : List Int32) (M : Mem) (l8 : Option Value), i + rem.length = n → (∀ j, j < rem.length → rem.getD j 0 = M0 68 (i + j)) → eqx [69, 70] M0 M → (∀ j, j < 5 → M 69 j = nm j) → stk.length ≤ 50 → StkOK (M 70) stk → (∀ M', eqx [69, 70] M0 M' → Q (some (.int (rpnRun nm rem stk))) M') → V cS g (d + 1) mX2_value 43 [some (.ref 14), some (.int a), some (.int b), some (.int c0), some (.int d0), some (.int e0), some (.int (nI stk.length)), some (.int (nI i)), l8] [] M Q := by
  intro rem
  induction rem with
  | nil =>
    intro i stk M l8 hi hr he hnm hl hs hQ
    have hz : M 14 1 = nI n := by rw [he 14 (by decide)]; exact hn
    rw [List.length_nil] at hi
    rcases stk with _ | ⟨x, _ | ⟨y, t⟩⟩
    · refine V.fg (ls' := [some (.ref 14), some (.int a), some (.int b), some (.int c0), some (.int d0), some (.int e0), some (.int (nI (0))), some (.int (nI i)), none]) ⟨rfl, rfl, rfl, rfl, rfl, rfl, rfl, rfl, trivial⟩ ?_
      refine V.iload dX2_value_43 rfl ?_
      refine V.aload_n dX2_value_45 rfl (i := 0) rfl ?_
      refine V.getI dX2_value_46 rfl flRX2_21 rfl ⟨by decide, by decide⟩ ?_
      refine V.top (x' := (nI n)) (hz) ?_
      refine V.ic_ge (tgt := 201) dX2_value_49 (by decide) (fun c49 => ?_) (fun q => absurd ((nI_le (a := n) (b := i) (by omega) (by omega))) q)
      refine V.iload dX2_value_201 rfl ?_
      refine V.iconst dX2_value_203 (v := 1) (by decide) ?_
      refine V.ic_ne (tgt := 216) dX2_value_204 (by decide) (fun c204 => ?_) (fun q => absurd q ((by decide)))
      refine V.iconst dX2_value_216 (v := 0) (by decide) ?_
      exact V.ret dX2_value_217 rfl (hQ M he)
    · refine V.fg (ls' := [some (.ref 14), some (.int a), some (.int b), some (.int c0), some (.int d0), some (.int e0), some (.int (nI (1))), some (.int (nI i)), none]) ⟨rfl, rfl, rfl, rfl, rfl, rfl, rfl, rfl, trivial⟩ ?_
      refine V.iload dX2_value_43 rfl ?_
      refine V.aload_n dX2_value_45 rfl (i := 0) rfl ?_
      refine V.getI dX2_value_46 rfl flRX2_21 rfl ⟨by decide, by decide⟩ ?_
      refine V.top (x' := (nI n)) (hz) ?_
      refine V.ic_ge (tgt := 201) dX2_value_49 (by decide) (fun c49 => ?_) (fun q => absurd ((nI_le (a := n) (b := i) (by omega) (by omega))) q)
      refine V.iload dX2_value_201 rfl ?_
      refine V.iconst dX2_value_203 (v := 1) (by decide) ?_
      refine V.ic_ne (tgt := 216) dX2_value_204 (by decide) (fun q => absurd ((by decide)) q) (fun c204 => ?_)
      refine V.aload_n dX2_value_207 rfl (i := 0) rfl ?_
      refine V.getR dX2_value_208 rfl flRX2_18 rfl ⟨by decide, by decide⟩ ?_
      refine V.iconst dX2_value_211 (v := 0) (by decide) ?_
      refine V.top (x' := nI 0) (by decide) ?_
      refine V.ialdN dX2_value_212 rfl ⟨by decide, by decide⟩ (by first | assumption | decide | omega) (by decide) ?_
      refine V.goto dX2_value_213 (tgt := 217) (by decide) ?_
      exact V.ret dX2_value_217 rfl (Qi (hQ M he) (by have := hs.at0; simpa [rpnRun] using this))
    · refine V.fg (ls' := [some (.ref 14), some (.int a), some (.int b), some (.int c0), some (.int d0), some (.int e0), some (.int (nI (t.length + 2))), some (.int (nI i)), none]) ⟨rfl, rfl, rfl, rfl, rfl, rfl, rfl, rfl, trivial⟩ ?_
      have hl2 : t.length + 1 + 1 ≤ 50 := hl
      refine V.iload dX2_value_43 rfl ?_
      refine V.aload_n dX2_value_45 rfl (i := 0) rfl ?_
      refine V.getI dX2_value_46 rfl flRX2_21 rfl ⟨by decide, by decide⟩ ?_
      refine V.top (x' := (nI n)) (hz) ?_
      refine V.ic_ge (tgt := 201) dX2_value_49 (by decide) (fun c49 => ?_) (fun q => absurd ((nI_le (a := n) (b := i) (by omega) (by omega))) q)
      refine V.iload dX2_value_201 rfl ?_
      refine V.iconst dX2_value_203 (v := 1) (by decide) ?_
      refine V.ic_ne (tgt := 216) dX2_value_204 (by decide) (fun c204 => ?_) (fun q => absurd q ((fun q => absurd ((nI_eq (a := t.length + 2) (b := 1) (by omega) (by omega)).mp q) (by omega))))
      refine V.iconst dX2_value_216 (v := 0) (by decide) ?_
      exact V.ret dX2_value_217 rfl (hQ M he)
  | cons s r ih =>
    intro i stk M l8 hi hr he hnm hl hs hQ
    have hz : M 14 1 = nI n := by rw [he 14 (by decide)]; exact hn
    rw [List.length_cons] at hi
    have hst : M 68 i = s := by
      rw [he 68 (by decide)]
      have := hr 0 (by simp)
      simpa using this.symm
    have hr' : ∀ j, j < r.length → r.getD j 0 = M0 68 (i + 1 + j) := fun j hj => by
      have := hr (j + 1) (by rw [List.length_cons]; omega)
      rw [List.getD_cons_succ] at this
      rw [this]
      congr 1
      omega
    by_cases h5 : s < -5
    · by_cases h33 : s = -33
      · rcases stk with _ | ⟨x, t⟩
        · refine V.fg (ls' := [some (.ref 14), some (.int a), some (.int b), some (.int c0), some (.int d0), some (.int e0), some (.int (nI (0))), some (.int (nI i)), none]) ⟨rfl, rfl, rfl, rfl, rfl, rfl, rfl, rfl, trivial⟩ ?_
          refine V.iload dX2_value_43 rfl ?_
          refine V.aload_n dX2_value_45 rfl (i := 0) rfl ?_
          refine V.getI dX2_value_46 rfl flRX2_21 rfl ⟨by decide, by decide⟩ ?_
          refine V.top (x' := (nI n)) (hz) ?_
          refine V.ic_ge (tgt := 201) dX2_value_49 (by decide) (fun q => absurd q ((nI_ge (a := i) (b := n) (by omega) (by omega)))) (fun c49 => ?_)
          refine V.aload_n dX2_value_52 rfl (i := 0) rfl ?_
          refine V.getR dX2_value_53 rfl flRX2_9 rfl ⟨by decide, by decide⟩ ?_
          refine V.iload dX2_value_56 rfl ?_
          refine V.ialdN dX2_value_58 rfl ⟨by decide, by decide⟩ (by first | assumption | decide | omega) (by decide) ?_
          refine V.top (x' := s) (hst) ?_
          refine V.istore dX2_value_59 (i := 8) (by decide) (fun _ h => by cases h; exact Or.inl rfl) rfl ?_
          refine V.iload dX2_value_61 rfl ?_
          refine V.bipush dX2_value_63 (v := (-5)) (by decide) ?_
          refine V.ic_lt (tgt := 109) dX2_value_65 (by decide) (fun c65 => ?_) (fun q => absurd (h5) q)
          refine V.iload dX2_value_109 rfl ?_
          refine V.bipush dX2_value_111 (v := (-33)) (by decide) ?_
          refine V.ic_ne (tgt := 153) dX2_value_113 (by decide) (fun q => absurd (h33) q) (fun c113 => ?_)
          refine V.iload dX2_value_116 rfl ?_
          refine V.iconst dX2_value_118 (v := 1) (by decide) ?_
          refine V.ic_ge (tgt := 124) dX2_value_119 (by decide) (fun q => absurd q ((by decide))) (fun c119 => ?_)
          refine V.iconst dX2_value_122 (v := 0) (by decide) ?_
          exact V.ret dX2_value_123 rfl (Qi (hQ M he) (by simp [rpnRun, h5, *]))
        · refine V.fg (ls' := [some (.ref 14), some (.int a), some (.int b), some (.int c0), some (.int d0), some (.int e0), some (.int (nI (t.length + 1))), some (.int (nI i)), none]) ⟨rfl, rfl, rfl, rfl, rfl, rfl, rfl, rfl, trivial⟩ ?_
          have hl2 : t.length + 1 ≤ 50 := hl
          refine V.iload dX2_value_43 rfl ?_
          refine V.aload_n dX2_value_45 rfl (i := 0) rfl ?_
          refine V.getI dX2_value_46 rfl flRX2_21 rfl ⟨by decide, by decide⟩ ?_
          refine V.top (x' := (nI n)) (hz) ?_
          refine V.ic_ge (tgt := 201) dX2_value_49 (by decide) (fun q => absurd q ((nI_ge (a := i) (b := n) (by omega) (by omega)))) (fun c49 => ?_)
          refine V.aload_n dX2_value_52 rfl (i := 0) rfl ?_
          refine V.getR dX2_value_53 rfl flRX2_9 rfl ⟨by decide, by decide⟩ ?_
          refine V.iload dX2_value_56 rfl ?_
          refine V.ialdN dX2_value_58 rfl ⟨by decide, by decide⟩ (by first | assumption | decide | omega) (by decide) ?_
          refine V.top (x' := s) (hst) ?_
          refine V.istore dX2_value_59 (i := 8) (by decide) (fun _ h => by cases h; exact Or.inl rfl) rfl ?_
          refine V.iload dX2_value_61 rfl ?_
          refine V.bipush dX2_value_63 (v := (-5)) (by decide) ?_
          refine V.ic_lt (tgt := 109) dX2_value_65 (by decide) (fun c65 => ?_) (fun q => absurd (h5) q)
          refine V.iload dX2_value_109 rfl ?_
          refine V.bipush dX2_value_111 (v := (-33)) (by decide) ?_
          refine V.ic_ne (tgt := 153) dX2_value_113 (by decide) (fun q => absurd (h33) q) (fun c113 => ?_)
          refine V.iload dX2_value_116 rfl ?_
          refine V.iconst dX2_value_118 (v := 1) (by decide) ?_
          refine V.ic_ge (tgt := 124) dX2_value_119 (by decide) (fun c119 => ?_) (fun q => absurd ((nI_le (a := 1) (b := (t.length + 1)) (by omega) (by omega))) q)
          refine V.aload_n dX2_value_124 rfl (i := 0) rfl ?_
          refine V.getR dX2_value_125 rfl flRX2_18 rfl ⟨by decide, by decide⟩ ?_
          refine V.iload dX2_value_128 rfl ?_
          refine V.iconst dX2_value_130 (v := 1) (by decide) ?_
          refine V.isub dX2_value_131 ?_
          refine V.top (x' := (nI t.length)) ((nI_pred _)) ?_
          refine V.aload_n dX2_value_132 rfl (i := 0) rfl ?_
          refine V.getR dX2_value_133 rfl flRX2_18 rfl ⟨by decide, by decide⟩ ?_
          refine V.iload dX2_value_136 rfl ?_
          refine V.iconst dX2_value_138 (v := 1) (by decide) ?_
          refine V.isub dX2_value_139 ?_
          refine V.top (x' := (nI t.length)) ((nI_pred _)) ?_
          refine V.ialdN dX2_value_140 rfl ⟨by decide, by decide⟩ (by first | assumption | decide | omega) (by decide) ?_
          refine V.top (x' := x) (hs.at0) ?_
          suffices kJ141 : V cS g (d + 1) mX2_value 149 [some (.ref 14), some (.int a), some (.int b), some (.int c0), some (.int d0), some (.int e0), some (.int (nI (t.length + 1))), some (.int (nI i)), some (.int s)] [.int (if x = (0 : Int32) then (1 : Int32) else (0 : Int32)), .int (nI t.length), .ref 70] M Q by
            refine V.if_ne (tgt := 148) dX2_value_141 (by decide) (fun c141 => ?_) (fun c141 => ?_)
            · refine V.iconst dX2_value_148 (v := 0) (by decide) ?_
              rw [if_neg c141] at kJ141; exact kJ141
            · refine V.iconst dX2_value_144 (v := 1) (by decide) ?_
              refine V.goto dX2_value_145 (tgt := 149) (by decide) ?_
              rw [if_pos c141] at kJ141; exact kJ141
          refine V.iastN dX2_value_149 rfl ⟨by decide, by decide⟩ (by first | assumption | decide | omega) (by decide) ?_
          refine V.goto dX2_value_150 (tgt := 195) (by decide) ?_
          refine V.iinc dX2_value_195 rfl (v := (nI (i + 1))) (nI_1 _) (by decide) (fun _ h => by cases h; exact Or.inl rfl) rfl ?_
          refine V.goto dX2_value_198 (tgt := 43) (by decide) ?_
          exact ih (i + 1) ((if x = 0 then 1 else 0) :: t) _ _ (by omega) hr' (he.put (by decide)) (fun j hj => by rw [put_cell (by decide)]; exact hnm j hj) hl (by rw [put_f]; exact hs.un) (fun M' h' => by have := hQ M' h'; simp [rpnRun, h5, h33] at this; exact this)
      · rcases stk with _ | ⟨y, _ | ⟨x, t⟩⟩
        · refine V.fg (ls' := [some (.ref 14), some (.int a), some (.int b), some (.int c0), some (.int d0), some (.int e0), some (.int (nI (0))), some (.int (nI i)), none]) ⟨rfl, rfl, rfl, rfl, rfl, rfl, rfl, rfl, trivial⟩ ?_
          refine V.iload dX2_value_43 rfl ?_
          refine V.aload_n dX2_value_45 rfl (i := 0) rfl ?_
          refine V.getI dX2_value_46 rfl flRX2_21 rfl ⟨by decide, by decide⟩ ?_
          refine V.top (x' := (nI n)) (hz) ?_
          refine V.ic_ge (tgt := 201) dX2_value_49 (by decide) (fun q => absurd q ((nI_ge (a := i) (b := n) (by omega) (by omega)))) (fun c49 => ?_)
          refine V.aload_n dX2_value_52 rfl (i := 0) rfl ?_
          refine V.getR dX2_value_53 rfl flRX2_9 rfl ⟨by decide, by decide⟩ ?_
          refine V.iload dX2_value_56 rfl ?_
          refine V.ialdN dX2_value_58 rfl ⟨by decide, by decide⟩ (by first | assumption | decide | omega) (by decide) ?_
          refine V.top (x' := s) (hst) ?_
          refine V.istore dX2_value_59 (i := 8) (by decide) (fun _ h => by cases h; exact Or.inl rfl) rfl ?_
          refine V.iload dX2_value_61 rfl ?_
          refine V.bipush dX2_value_63 (v := (-5)) (by decide) ?_
          refine V.ic_lt (tgt := 109) dX2_value_65 (by decide) (fun c65 => ?_) (fun q => absurd (h5) q)
          refine V.iload dX2_value_109 rfl ?_
          refine V.bipush dX2_value_111 (v := (-33)) (by decide) ?_
          refine V.ic_ne (tgt := 153) dX2_value_113 (by decide) (fun c113 => ?_) (fun q => absurd q (h33))
          refine V.iload dX2_value_153 rfl ?_
          refine V.iconst dX2_value_155 (v := 2) (by decide) ?_
          refine V.ic_ge (tgt := 161) dX2_value_156 (by decide) (fun q => absurd q ((by decide))) (fun c156 => ?_)
          refine V.iconst dX2_value_159 (v := 0) (by decide) ?_
          exact V.ret dX2_value_160 rfl (Qi (hQ M he) (by simp [rpnRun, h5, *]))
        · refine V.fg (ls' := [some (.ref 14), some (.int a), some (.int b), some (.int c0), some (.int d0), some (.int e0), some (.int (nI (1))), some (.int (nI i)), none]) ⟨rfl, rfl, rfl, rfl, rfl, rfl, rfl, rfl, trivial⟩ ?_
          refine V.iload dX2_value_43 rfl ?_
          refine V.aload_n dX2_value_45 rfl (i := 0) rfl ?_
          refine V.getI dX2_value_46 rfl flRX2_21 rfl ⟨by decide, by decide⟩ ?_
          refine V.top (x' := (nI n)) (hz) ?_
          refine V.ic_ge (tgt := 201) dX2_value_49 (by decide) (fun q => absurd q ((nI_ge (a := i) (b := n) (by omega) (by omega)))) (fun c49 => ?_)
          refine V.aload_n dX2_value_52 rfl (i := 0) rfl ?_
          refine V.getR dX2_value_53 rfl flRX2_9 rfl ⟨by decide, by decide⟩ ?_
          refine V.iload dX2_value_56 rfl ?_
          refine V.ialdN dX2_value_58 rfl ⟨by decide, by decide⟩ (by first | assumption | decide | omega) (by decide) ?_
          refine V.top (x' := s) (hst) ?_
          refine V.istore dX2_value_59 (i := 8) (by decide) (fun _ h => by cases h; exact Or.inl rfl) rfl ?_
          refine V.iload dX2_value_61 rfl ?_
          refine V.bipush dX2_value_63 (v := (-5)) (by decide) ?_
          refine V.ic_lt (tgt := 109) dX2_value_65 (by decide) (fun c65 => ?_) (fun q => absurd (h5) q)
          refine V.iload dX2_value_109 rfl ?_
          refine V.bipush dX2_value_111 (v := (-33)) (by decide) ?_
          refine V.ic_ne (tgt := 153) dX2_value_113 (by decide) (fun c113 => ?_) (fun q => absurd q (h33))
          refine V.iload dX2_value_153 rfl ?_
          refine V.iconst dX2_value_155 (v := 2) (by decide) ?_
          refine V.ic_ge (tgt := 161) dX2_value_156 (by decide) (fun q => absurd q ((by decide))) (fun c156 => ?_)
          refine V.iconst dX2_value_159 (v := 0) (by decide) ?_
          exact V.ret dX2_value_160 rfl (Qi (hQ M he) (by simp [rpnRun, h5, *]))
        · refine V.fg (ls' := [some (.ref 14), some (.int a), some (.int b), some (.int c0), some (.int d0), some (.int e0), some (.int (nI (t.length + 2))), some (.int (nI i)), none]) ⟨rfl, rfl, rfl, rfl, rfl, rfl, rfl, rfl, trivial⟩ ?_
          have hl2 : t.length + 1 + 1 ≤ 50 := hl
          refine V.iload dX2_value_43 rfl ?_
          refine V.aload_n dX2_value_45 rfl (i := 0) rfl ?_
          refine V.getI dX2_value_46 rfl flRX2_21 rfl ⟨by decide, by decide⟩ ?_
          refine V.top (x' := (nI n)) (hz) ?_
          refine V.ic_ge (tgt := 201) dX2_value_49 (by decide) (fun q => absurd q ((nI_ge (a := i) (b := n) (by omega) (by omega)))) (fun c49 => ?_)
          refine V.aload_n dX2_value_52 rfl (i := 0) rfl ?_
          refine V.getR dX2_value_53 rfl flRX2_9 rfl ⟨by decide, by decide⟩ ?_
          refine V.iload dX2_value_56 rfl ?_
          refine V.ialdN dX2_value_58 rfl ⟨by decide, by decide⟩ (by first | assumption | decide | omega) (by decide) ?_
          refine V.top (x' := s) (hst) ?_
          refine V.istore dX2_value_59 (i := 8) (by decide) (fun _ h => by cases h; exact Or.inl rfl) rfl ?_
          refine V.iload dX2_value_61 rfl ?_
          refine V.bipush dX2_value_63 (v := (-5)) (by decide) ?_
          refine V.ic_lt (tgt := 109) dX2_value_65 (by decide) (fun c65 => ?_) (fun q => absurd (h5) q)
          refine V.iload dX2_value_109 rfl ?_
          refine V.bipush dX2_value_111 (v := (-33)) (by decide) ?_
          refine V.ic_ne (tgt := 153) dX2_value_113 (by decide) (fun c113 => ?_) (fun q => absurd q (h33))
          refine V.iload dX2_value_153 rfl ?_
          refine V.iconst dX2_value_155 (v := 2) (by decide) ?_
          refine V.ic_ge (tgt := 161) dX2_value_156 (by decide) (fun c156 => ?_) (fun q => absurd ((nI_le (a := 2) (b := (t.length + 2)) (by omega) (by omega))) q)
          refine V.iinc dX2_value_161 rfl (v := (nI (t.length + 1))) (pk_m1 _) (by decide) (fun _ h => by cases h; exact Or.inl rfl) rfl ?_
          refine V.aload_n dX2_value_164 rfl (i := 0) rfl ?_
          refine V.getR dX2_value_165 rfl flRX2_18 rfl ⟨by decide, by decide⟩ ?_
          refine V.iload dX2_value_168 rfl ?_
          refine V.iconst dX2_value_170 (v := 1) (by decide) ?_
          refine V.isub dX2_value_171 ?_
          refine V.top (x' := (nI t.length)) ((nI_pred _)) ?_
          refine V.iload dX2_value_172 rfl ?_
          refine V.ineg dX2_value_174 ?_
          refine V.aload_n dX2_value_175 rfl (i := 0) rfl ?_
          refine V.getR dX2_value_176 rfl flRX2_18 rfl ⟨by decide, by decide⟩ ?_
          refine V.iload dX2_value_179 rfl ?_
          refine V.iconst dX2_value_181 (v := 1) (by decide) ?_
          refine V.isub dX2_value_182 ?_
          refine V.top (x' := (nI t.length)) ((nI_pred _)) ?_
          refine V.ialdN dX2_value_183 rfl ⟨by decide, by decide⟩ (by first | assumption | decide | omega) (by decide) ?_
          refine V.top (x' := x) (hs.at1) ?_
          refine V.aload_n dX2_value_184 rfl (i := 0) rfl ?_
          refine V.getR dX2_value_185 rfl flRX2_18 rfl ⟨by decide, by decide⟩ ?_
          refine V.iload dX2_value_188 rfl ?_
          refine V.ialdN dX2_value_190 rfl ⟨by decide, by decide⟩ (by first | assumption | decide | omega) (by decide) ?_
          refine V.top (x' := y) (hs.at0) ?_
          refine V.invs (z := mX2_join) (As := [_, _, _]) dX2_value_191 rfl mlRX2_35 okX2_join npX2_join rfl (Nat.le_of_ble_eq_true rfl) rfl (Nat.le_of_ble_eq_true rfl) (c_join   ?_)
          show V cS g (d + 1) mX2_value 194 [some (.ref 14), some (.int a), some (.int b), some (.int c0), some (.int d0), some (.int e0), some (.int (nI (t.length + 1))), some (.int (nI i)), some (.int s)] [.int (joinF (-s) x y), .int (nI t.length), .ref 70] (M) Q
          refine V.iastN dX2_value_194 rfl ⟨by decide, by decide⟩ (by first | assumption | decide | omega) (by decide) ?_
          refine V.iinc dX2_value_195 rfl (v := (nI (i + 1))) (nI_1 _) (by decide) (fun _ h => by cases h; exact Or.inl rfl) rfl ?_
          refine V.goto dX2_value_198 (tgt := 43) (by decide) ?_
          exact ih (i + 1) (joinF (-s) x y :: t) _ _ (by omega) hr' (he.put (by decide)) (fun j hj => by rw [put_cell (by decide)]; exact hnm j hj) (by rw [List.length_cons]; omega) (by rw [put_f]; exact hs.bin) (fun M' h' => by have := hQ M' h'; simp [rpnRun, h5, h33] at this; exact this)
    · refine V.fg (ls' := [some (.ref 14), some (.int a), some (.int b), some (.int c0), some (.int d0), some (.int e0), some (.int (nI (stk.length))), some (.int (nI i)), none]) ⟨rfl, rfl, rfl, rfl, rfl, rfl, rfl, rfl, trivial⟩ ?_
      by_cases h50' : stk.length < 50
      · by_cases h0 : s < 0
        · skip
          refine V.iload dX2_value_43 rfl ?_
          refine V.aload_n dX2_value_45 rfl (i := 0) rfl ?_
          refine V.getI dX2_value_46 rfl flRX2_21 rfl ⟨by decide, by decide⟩ ?_
          refine V.top (x' := (nI n)) (hz) ?_
          refine V.ic_ge (tgt := 201) dX2_value_49 (by decide) (fun q => absurd q ((nI_ge (a := i) (b := n) (by omega) (by omega)))) (fun c49 => ?_)
          refine V.aload_n dX2_value_52 rfl (i := 0) rfl ?_
          refine V.getR dX2_value_53 rfl flRX2_9 rfl ⟨by decide, by decide⟩ ?_
          refine V.iload dX2_value_56 rfl ?_
          refine V.ialdN dX2_value_58 rfl ⟨by decide, by decide⟩ (by first | assumption | decide | omega) (by decide) ?_
          refine V.top (x' := s) (hst) ?_
          refine V.istore dX2_value_59 (i := 8) (by decide) (fun _ h => by cases h; exact Or.inl rfl) rfl ?_
          refine V.iload dX2_value_61 rfl ?_
          refine V.bipush dX2_value_63 (v := (-5)) (by decide) ?_
          refine V.ic_lt (tgt := 109) dX2_value_65 (by decide) (fun q => absurd q (h5)) (fun c65 => ?_)
          refine V.iload dX2_value_68 rfl ?_
          refine V.bipush dX2_value_70 (v := 50) (by decide) ?_
          refine V.ic_lt (tgt := 77) dX2_value_72 (by decide) (fun c72 => ?_) (fun q => absurd ((nI_lt (b := 50) (by omega) (by omega))) q)
          refine V.aload_n dX2_value_77 rfl (i := 0) rfl ?_
          refine V.getR dX2_value_78 rfl flRX2_18 rfl ⟨by decide, by decide⟩ ?_
          refine V.iload dX2_value_81 rfl ?_
          refine V.iload dX2_value_83 rfl ?_
          refine V.if_lt (tgt := 93) dX2_value_85 (by decide) (fun c85 => ?_) (fun q => absurd (h0) q)
          refine V.aload_n dX2_value_93 rfl (i := 0) rfl ?_
          refine V.getR dX2_value_94 rfl flRX2_15 rfl ⟨by decide, by decide⟩ ?_
          refine V.iconst dX2_value_97 (v := (-1)) (by decide) ?_
          refine V.iload dX2_value_98 rfl ?_
          refine V.isub dX2_value_100 ?_
          refine V.iald dX2_value_101 rfl ⟨by decide, by decide⟩ (nm_ix h5 h0) ?_
          refine V.top (x' := (nm (Int32.toNatClampNeg (-1 - s)))) ((hnm _ (nm_lt h5 h0))) ?_
          refine V.iastN dX2_value_102 rfl ⟨by decide, by decide⟩ (by first | assumption | decide | omega) (by decide) ?_
          refine V.iinc dX2_value_103 rfl (v := (nI (stk.length + 1))) (nI_1 _) (by decide) (fun _ h => by cases h; exact Or.inl rfl) rfl ?_
          refine V.goto dX2_value_106 (tgt := 195) (by decide) ?_
          refine V.iinc dX2_value_195 rfl (v := (nI (i + 1))) (nI_1 _) (by decide) (fun _ h => by cases h; exact Or.inl rfl) rfl ?_
          refine V.goto dX2_value_198 (tgt := 43) (by decide) ?_
          exact ih (i + 1) (nm (Int32.toNatClampNeg (-1 - s)) :: stk) _ _ (by omega) hr' (he.put (by decide)) (fun j hj => by rw [put_cell (by decide)]; exact hnm j hj) (by rw [List.length_cons]; omega) (by rw [put_f]; exact hs.push) (fun M' h' => by have := hQ M' h'; simp [rpnRun, h5, h50', h0] at this; exact this)
        · skip
          refine V.iload dX2_value_43 rfl ?_
          refine V.aload_n dX2_value_45 rfl (i := 0) rfl ?_
          refine V.getI dX2_value_46 rfl flRX2_21 rfl ⟨by decide, by decide⟩ ?_
          refine V.top (x' := (nI n)) (hz) ?_
          refine V.ic_ge (tgt := 201) dX2_value_49 (by decide) (fun q => absurd q ((nI_ge (a := i) (b := n) (by omega) (by omega)))) (fun c49 => ?_)
          refine V.aload_n dX2_value_52 rfl (i := 0) rfl ?_
          refine V.getR dX2_value_53 rfl flRX2_9 rfl ⟨by decide, by decide⟩ ?_
          refine V.iload dX2_value_56 rfl ?_
          refine V.ialdN dX2_value_58 rfl ⟨by decide, by decide⟩ (by first | assumption | decide | omega) (by decide) ?_
          refine V.top (x' := s) (hst) ?_
          refine V.istore dX2_value_59 (i := 8) (by decide) (fun _ h => by cases h; exact Or.inl rfl) rfl ?_
          refine V.iload dX2_value_61 rfl ?_
          refine V.bipush dX2_value_63 (v := (-5)) (by decide) ?_
          refine V.ic_lt (tgt := 109) dX2_value_65 (by decide) (fun q => absurd q (h5)) (fun c65 => ?_)
          refine V.iload dX2_value_68 rfl ?_
          refine V.bipush dX2_value_70 (v := 50) (by decide) ?_
          refine V.ic_lt (tgt := 77) dX2_value_72 (by decide) (fun c72 => ?_) (fun q => absurd ((nI_lt (b := 50) (by omega) (by omega))) q)
          refine V.aload_n dX2_value_77 rfl (i := 0) rfl ?_
          refine V.getR dX2_value_78 rfl flRX2_18 rfl ⟨by decide, by decide⟩ ?_
          refine V.iload dX2_value_81 rfl ?_
          refine V.iload dX2_value_83 rfl ?_
          refine V.if_lt (tgt := 93) dX2_value_85 (by decide) (fun q => absurd q (h0)) (fun c85 => ?_)
          refine V.iload dX2_value_88 rfl ?_
          refine V.goto dX2_value_90 (tgt := 102) (by decide) ?_
          refine V.iastN dX2_value_102 rfl ⟨by decide, by decide⟩ (by first | assumption | decide | omega) (by decide) ?_
          refine V.iinc dX2_value_103 rfl (v := (nI (stk.length + 1))) (nI_1 _) (by decide) (fun _ h => by cases h; exact Or.inl rfl) rfl ?_
          refine V.goto dX2_value_106 (tgt := 195) (by decide) ?_
          refine V.iinc dX2_value_195 rfl (v := (nI (i + 1))) (nI_1 _) (by decide) (fun _ h => by cases h; exact Or.inl rfl) rfl ?_
          refine V.goto dX2_value_198 (tgt := 43) (by decide) ?_
          exact ih (i + 1) (s :: stk) _ _ (by omega) hr' (he.put (by decide)) (fun j hj => by rw [put_cell (by decide)]; exact hnm j hj) (by rw [List.length_cons]; omega) (by rw [put_f]; exact hs.push) (fun M' h' => by have := hQ M' h'; simp [rpnRun, h5, h50', h0] at this; exact this)
      · skip
        refine V.iload dX2_value_43 rfl ?_
        refine V.aload_n dX2_value_45 rfl (i := 0) rfl ?_
        refine V.getI dX2_value_46 rfl flRX2_21 rfl ⟨by decide, by decide⟩ ?_
        refine V.top (x' := (nI n)) (hz) ?_
        refine V.ic_ge (tgt := 201) dX2_value_49 (by decide) (fun q => absurd q ((nI_ge (a := i) (b := n) (by omega) (by omega)))) (fun c49 => ?_)
        refine V.aload_n dX2_value_52 rfl (i := 0) rfl ?_
        refine V.getR dX2_value_53 rfl flRX2_9 rfl ⟨by decide, by decide⟩ ?_
        refine V.iload dX2_value_56 rfl ?_
        refine V.ialdN dX2_value_58 rfl ⟨by decide, by decide⟩ (by first | assumption | decide | omega) (by decide) ?_
        refine V.top (x' := s) (hst) ?_
        refine V.istore dX2_value_59 (i := 8) (by decide) (fun _ h => by cases h; exact Or.inl rfl) rfl ?_
        refine V.iload dX2_value_61 rfl ?_
        refine V.bipush dX2_value_63 (v := (-5)) (by decide) ?_
        refine V.ic_lt (tgt := 109) dX2_value_65 (by decide) (fun q => absurd q (h5)) (fun c65 => ?_)
        refine V.iload dX2_value_68 rfl ?_
        refine V.bipush dX2_value_70 (v := 50) (by decide) ?_
        refine V.ic_lt (tgt := 77) dX2_value_72 (by decide) (fun q => absurd q ((nI_nlt (b := 50) (by omega) (by omega)))) (fun c72 => ?_)
        refine V.iconst dX2_value_75 (v := 0) (by decide) ?_
        exact V.ret dX2_value_76 rfl (Qi (hQ M he) (by simp [rpnRun, h5, h50']))
set_option maxHeartbeats 4000000 in
set_option maxRecDepth 100000 in
theorem c_value14 {g : GG} {d : Nat} {M : Mem} {Q : Option Value → Mem → Prop} {a b c0 d0 e0 : Int32} {n : Nat} (hn : M 14 1 = nI n) (h50 : n ≤ 50) (hQ : ∀ M', eqx [69, 70] M M' → Q (some (.int (rpnRun (fun j => [a, b, c0, d0, e0].getD j 0) ((List.range n).map (M 68)) []))) M') : V cS g (d + 1) mX2_value 0 [some (.ref 14), some (.int a), some (.int b), some (.int c0), some (.int d0), some (.int e0), none, none, none] [] M Q := by
  refine V.aload_n dX2_value_0 rfl (i := 0) rfl ?_
  refine V.getR dX2_value_1 rfl flRX2_15 rfl ⟨by decide, by decide⟩ ?_
  refine V.iconst dX2_value_4 (v := 0) (by decide) ?_
  refine V.iload_n dX2_value_5 rfl (i := 1) rfl ?_
  refine V.top1 (x' := nI 0) (by decide) ?_
  refine V.iastN dX2_value_6 rfl ⟨by decide, by decide⟩ (by first | assumption | decide | omega) (by decide) ?_
  refine V.aload_n dX2_value_7 rfl (i := 0) rfl ?_
  refine V.getR dX2_value_8 rfl flRX2_15 rfl ⟨by decide, by decide⟩ ?_
  refine V.iconst dX2_value_11 (v := 1) (by decide) ?_
  refine V.iload_n dX2_value_12 rfl (i := 2) rfl ?_
  refine V.top1 (x' := nI 1) (by decide) ?_
  refine V.iastN dX2_value_13 rfl ⟨by decide, by decide⟩ (by first | assumption | decide | omega) (by decide) ?_
  refine V.aload_n dX2_value_14 rfl (i := 0) rfl ?_
  refine V.getR dX2_value_15 rfl flRX2_15 rfl ⟨by decide, by decide⟩ ?_
  refine V.iconst dX2_value_18 (v := 2) (by decide) ?_
  refine V.iload_n dX2_value_19 rfl (i := 3) rfl ?_
  refine V.top1 (x' := nI 2) (by decide) ?_
  refine V.iastN dX2_value_20 rfl ⟨by decide, by decide⟩ (by first | assumption | decide | omega) (by decide) ?_
  refine V.aload_n dX2_value_21 rfl (i := 0) rfl ?_
  refine V.getR dX2_value_22 rfl flRX2_15 rfl ⟨by decide, by decide⟩ ?_
  refine V.iconst dX2_value_25 (v := 3) (by decide) ?_
  refine V.iload dX2_value_26 rfl ?_
  refine V.top1 (x' := nI 3) (by decide) ?_
  refine V.iastN dX2_value_28 rfl ⟨by decide, by decide⟩ (by first | assumption | decide | omega) (by decide) ?_
  refine V.aload_n dX2_value_29 rfl (i := 0) rfl ?_
  refine V.getR dX2_value_30 rfl flRX2_15 rfl ⟨by decide, by decide⟩ ?_
  refine V.iconst dX2_value_33 (v := 4) (by decide) ?_
  refine V.iload dX2_value_34 rfl ?_
  refine V.top1 (x' := nI 4) (by decide) ?_
  refine V.iastN dX2_value_36 rfl ⟨by decide, by decide⟩ (by first | assumption | decide | omega) (by decide) ?_
  refine V.iconst dX2_value_37 (v := 0) (by decide) ?_
  refine V.istore dX2_value_38 (i := 6) (by decide) (fun _ h => by cases h; exact Or.inl rfl) rfl ?_
  refine V.iconst dX2_value_40 (v := 0) (by decide) ?_
  refine V.istore dX2_value_41 (i := 7) (by decide) (fun _ h => by cases h; exact Or.inl rfl) rfl ?_
  exact l_value14 (M0 := M) hn h50 _ 0 [] _ _ (by simp) (fun j hj => by rw [List.length_map, List.length_range] at hj; simp [hj]) (((((eqx.rf.put (by decide)).put (by decide)).put (by decide)).put (by decide)).put (by decide)) (fun j hj => by rcases (show j = 0 ∨ j = 1 ∨ j = 2 ∨ j = 3 ∨ j = 4 by omega) with rfl | rfl | rfl | rfl | rfl <;> simp [put]) (by simp) (fun k hk => by simp at hk) hQ
set_option maxHeartbeats 4000000 in
set_option maxRecDepth 100000 in
theorem l_value15 {g : GG} {d : Nat} {M0 : Mem} {Q : Option Value → Mem → Prop} {a b c0 d0 e0 : Int32} {nm : Nat → Int32} {n : Nat} (hn : M0 15 1 = nI n) (h50 : n ≤ 50) : ∀ (rem : List Int32) (i : Nat) (stk : List Int32) (M : Mem) (l8 : Option Value), i + rem.length = n → (∀ j, j < rem.length → rem.getD j 0 = M0 71 (i + j)) → eqx [72, 73] M0 M → (∀ j, j < 5 → M 72 j = nm j) → stk.length ≤ 50 → StkOK (M 73) stk → (∀ M', eqx [72, 73] M0 M' → Q (some (.int (rpnRun nm rem stk))) M') → V cS g (d + 1) mX2_value 43 [some (.ref 15), some (.int a), some (.int b), some (.int c0), some (.int d0), some (.int e0), some (.int (nI stk.length)), some (.int (nI i)), l8] [] M Q := by
  intro rem
  induction rem with
  | nil =>
    intro i stk M l8 hi hr he hnm hl hs hQ
    have hz : M 15 1 = nI n := by rw [he 15 (by decide)]; exact hn
    rw [List.length_nil] at hi
    rcases stk with _ | ⟨x, _ | ⟨y, t⟩⟩
    · refine V.fg (ls' := [some (.ref 15), some (.int a), some (.int b), some (.int c0), some (.int d0), some (.int e0), some (.int (nI (0))), some (.int (nI i)), none]) ⟨rfl, rfl, rfl, rfl, rfl, rfl, rfl, rfl, trivial⟩ ?_
      refine V.iload dX2_value_43 rfl ?_
      refine V.aload_n dX2_value_45 rfl (i := 0) rfl ?_
      refine V.getI dX2_value_46 rfl flRX2_21 rfl ⟨by decide, by decide⟩ ?_
      refine V.top (x' := (nI n)) (hz) ?_
      refine V.ic_ge (tgt := 201) dX2_value_49 (by decide) (fun c49 => ?_) (fun q => absurd ((nI_le (a := n) (b := i) (by omega) (by omega))) q)
      refine V.iload dX2_value_201 rfl ?_
      refine V.iconst dX2_value_203 (v := 1) (by decide) ?_
      refine V.ic_ne (tgt := 216) dX2_value_204 (by decide) (fun c204 => ?_) (fun q => absurd q ((by decide)))
      refine V.iconst dX2_value_216 (v := 0) (by decide) ?_
      exact V.ret dX2_value_217 rfl (hQ M he)
    · refine V.fg (ls' := [some (.ref 15), some (.int a), some (.int b), some (.int c0), some (.int d0), some (.int e0), some (.int (nI (1))), some (.int (nI i)), none]) ⟨rfl, rfl, rfl, rfl, rfl, rfl, rfl, rfl, trivial⟩ ?_
      refine V.iload dX2_value_43 rfl ?_
      refine V.aload_n dX2_value_45 rfl (i := 0) rfl ?_
      refine V.getI dX2_value_46 rfl flRX2_21 rfl ⟨by decide, by decide⟩ ?_
      refine V.top (x' := (nI n)) (hz) ?_
      refine V.ic_ge (tgt := 201) dX2_value_49 (by decide) (fun c49 => ?_) (fun q => absurd ((nI_le (a := n) (b := i) (by omega) (by omega))) q)
      refine V.iload dX2_value_201 rfl ?_
      refine V.iconst dX2_value_203 (v := 1) (by decide) ?_
      refine V.ic_ne (tgt := 216) dX2_value_204 (by decide) (fun q => absurd ((by decide)) q) (fun c204 => ?_)
      refine V.aload_n dX2_value_207 rfl (i := 0) rfl ?_
      refine V.getR dX2_value_208 rfl flRX2_18 rfl ⟨by decide, by decide⟩ ?_
      refine V.iconst dX2_value_211 (v := 0) (by decide) ?_
      refine V.top (x' := nI 0) (by decide) ?_
      refine V.ialdN dX2_value_212 rfl ⟨by decide, by decide⟩ (by first | assumption | decide | omega) (by decide) ?_
      refine V.goto dX2_value_213 (tgt := 217) (by decide) ?_
      exact V.ret dX2_value_217 rfl (Qi (hQ M he) (by have := hs.at0; simpa [rpnRun] using this))
    · refine V.fg (ls' := [some (.ref 15), some (.int a), some (.int b), some (.int c0), some (.int d0), some (.int e0), some (.int (nI (t.length + 2))), some (.int (nI i)), none]) ⟨rfl, rfl, rfl, rfl, rfl, rfl, rfl, rfl, trivial⟩ ?_
      have hl2 : t.length + 1 + 1 ≤ 50 := hl
      refine V.iload dX2_value_43 rfl ?_
      refine V.aload_n dX2_value_45 rfl (i := 0) rfl ?_
      refine V.getI dX2_value_46 rfl flRX2_21 rfl ⟨by decide, by decide⟩ ?_
      refine V.top (x' := (nI n)) (hz) ?_
      refine V.ic_ge (tgt := 201) dX2_value_49 (by decide) (fun c49 => ?_) (fun q => absurd ((nI_le (a := n) (b := i) (by omega) (by omega))) q)
      refine V.iload dX2_value_201 rfl ?_
      refine V.iconst dX2_value_203 (v := 1) (by decide) ?_
      refine V.ic_ne (tgt := 216) dX2_value_204 (by decide) (fun c204 => ?_) (fun q => absurd q ((fun q => absurd ((nI_eq (a := t.length + 2) (b := 1) (by omega) (by omega)).mp q) (by omega))))
      refine V.iconst dX2_value_216 (v := 0) (by decide) ?_
      exact V.ret dX2_value_217 rfl (hQ M he)
  | cons s r ih =>
    intro i stk M l8 hi hr he hnm hl hs hQ
    have hz : M 15 1 = nI n := by rw [he 15 (by decide)]; exact hn
    rw [List.length_cons] at hi
    have hst : M 71 i = s := by
      rw [he 71 (by decide)]
      have := hr 0 (by simp)
      simpa using this.symm
    have hr' : ∀ j, j < r.length → r.getD j 0 = M0 71 (i + 1 + j) := fun j hj => by
      have := hr (j + 1) (by rw [List.length_cons]; omega)
      rw [List.getD_cons_succ] at this
      rw [this]
      congr 1
      omega
    by_cases h5 : s < -5
    · by_cases h33 : s = -33
      · rcases stk with _ | ⟨x, t⟩
        · refine V.fg (ls' := [some (.ref 15), some (.int a), some (.int b), some (.int c0), some (.int d0), some (.int e0), some (.int (nI (0))), some (.int (nI i)), none]) ⟨rfl, rfl, rfl, rfl, rfl, rfl, rfl, rfl, trivial⟩ ?_
          refine V.iload dX2_value_43 rfl ?_
          refine V.aload_n dX2_value_45 rfl (i := 0) rfl ?_
          refine V.getI dX2_value_46 rfl flRX2_21 rfl ⟨by decide, by decide⟩ ?_
          refine V.top (x' := (nI n)) (hz) ?_
          refine V.ic_ge (tgt := 201) dX2_value_49 (by decide) (fun q => absurd q ((nI_ge (a := i) (b := n) (by omega) (by omega)))) (fun c49 => ?_)
          refine V.aload_n dX2_value_52 rfl (i := 0) rfl ?_
          refine V.getR dX2_value_53 rfl flRX2_9 rfl ⟨by decide, by decide⟩ ?_
          refine V.iload dX2_value_56 rfl ?_
          refine V.ialdN dX2_value_58 rfl ⟨by decide, by decide⟩ (by first | assumption | decide | omega) (by decide) ?_
          refine V.top (x' := s) (hst) ?_
          refine V.istore dX2_value_59 (i := 8) (by decide) (fun _ h => by cases h; exact Or.inl rfl) rfl ?_
          refine V.iload dX2_value_61 rfl ?_
          refine V.bipush dX2_value_63 (v := (-5)) (by decide) ?_
          refine V.ic_lt (tgt := 109) dX2_value_65 (by decide) (fun c65 => ?_) (fun q => absurd (h5) q)
          refine V.iload dX2_value_109 rfl ?_
          refine V.bipush dX2_value_111 (v := (-33)) (by decide) ?_
          refine V.ic_ne (tgt := 153) dX2_value_113 (by decide) (fun q => absurd (h33) q) (fun c113 => ?_)
          refine V.iload dX2_value_116 rfl ?_
          refine V.iconst dX2_value_118 (v := 1) (by decide) ?_
          refine V.ic_ge (tgt := 124) dX2_value_119 (by decide) (fun q => absurd q ((by decide))) (fun c119 => ?_)
          refine V.iconst dX2_value_122 (v := 0) (by decide) ?_
          exact V.ret dX2_value_123 rfl (Qi (hQ M he) (by simp [rpnRun, h5, *]))
        · refine V.fg (ls' := [some (.ref 15), some (.int a), some (.int b), some (.int c0), some (.int d0), some (.int e0), some (.int (nI (t.length + 1))), some (.int (nI i)), none]) ⟨rfl, rfl, rfl, rfl, rfl, rfl, rfl, rfl, trivial⟩ ?_
          have hl2 : t.length + 1 ≤ 50 := hl
          refine V.iload dX2_value_43 rfl ?_
          refine V.aload_n dX2_value_45 rfl (i := 0) rfl ?_
          refine V.getI dX2_value_46 rfl flRX2_21 rfl ⟨by decide, by decide⟩ ?_
          refine V.top (x' := (nI n)) (hz) ?_
          refine V.ic_ge (tgt := 201) dX2_value_49 (by decide) (fun q => absurd q ((nI_ge (a := i) (b := n) (by omega) (by omega)))) (fun c49 => ?_)
          refine V.aload_n dX2_value_52 rfl (i := 0) rfl ?_
          refine V.getR dX2_value_53 rfl flRX2_9 rfl ⟨by decide, by decide⟩ ?_
          refine V.iload dX2_value_56 rfl ?_
          refine V.ialdN dX2_value_58 rfl ⟨by decide, by decide⟩ (by first | assumption | decide | omega) (by decide) ?_
          refine V.top (x' := s) (hst) ?_
          refine V.istore dX2_value_59 (i := 8) (by decide) (fun _ h => by cases h; exact Or.inl rfl) rfl ?_
          refine V.iload dX2_value_61 rfl ?_
          refine V.bipush dX2_value_63 (v := (-5)) (by decide) ?_
          refine V.ic_lt (tgt := 109) dX2_value_65 (by decide) (fun c65 => ?_) (fun q => absurd (h5) q)
          refine V.iload dX2_value_109 rfl ?_
          refine V.bipush dX2_value_111 (v := (-33)) (by decide) ?_
          refine V.ic_ne (tgt := 153) dX2_value_113 (by decide) (fun q => absurd (h33) q) (fun c113 => ?_)
          refine V.iload dX2_value_116 rfl ?_
          refine V.iconst dX2_value_118 (v := 1) (by decide) ?_
          refine V.ic_ge (tgt := 124) dX2_value_119 (by decide) (fun c119 => ?_) (fun q => absurd ((nI_le (a := 1) (b := (t.length + 1)) (by omega) (by omega))) q)
          refine V.aload_n dX2_value_124 rfl (i := 0) rfl ?_
          refine V.getR dX2_value_125 rfl flRX2_18 rfl ⟨by decide, by decide⟩ ?_
          refine V.iload dX2_value_128 rfl ?_
          refine V.iconst dX2_value_130 (v := 1) (by decide) ?_
          refine V.isub dX2_value_131 ?_
          refine V.top (x' := (nI t.length)) ((nI_pred _)) ?_
          refine V.aload_n dX2_value_132 rfl (i := 0) rfl ?_
          refine V.getR dX2_value_133 rfl flRX2_18 rfl ⟨by decide, by decide⟩ ?_
          refine V.iload dX2_value_136 rfl ?_
          refine V.iconst dX2_value_138 (v := 1) (by decide) ?_
          refine V.isub dX2_value_139 ?_
          refine V.top (x' := (nI t.length)) ((nI_pred _)) ?_
          refine V.ialdN dX2_value_140 rfl ⟨by decide, by decide⟩ (by first | assumption | decide | omega) (by decide) ?_
          refine V.top (x' := x) (hs.at0) ?_
          suffices kJ141 : V cS g (d + 1) mX2_value 149 [some (.ref 15), some (.int a), some (.int b), some (.int c0), some (.int d0), some (.int e0), some (.int (nI (t.length + 1))), some (.int (nI i)), some (.int s)] [.int (if x = (0 : Int32) then (1 : Int32) else (0 : Int32)), .int (nI t.length), .ref 73] M Q by
            refine V.if_ne (tgt := 148) dX2_value_141 (by decide) (fun c141 => ?_) (fun c141 => ?_)
            · refine V.iconst dX2_value_148 (v := 0) (by decide) ?_
              rw [if_neg c141] at kJ141; exact kJ141
            · refine V.iconst dX2_value_144 (v := 1) (by decide) ?_
              refine V.goto dX2_value_145 (tgt := 149) (by decide) ?_
              rw [if_pos c141] at kJ141; exact kJ141
          refine V.iastN dX2_value_149 rfl ⟨by decide, by decide⟩ (by first | assumption | decide | omega) (by decide) ?_
          refine V.goto dX2_value_150 (tgt := 195) (by decide) ?_
          refine V.iinc dX2_value_195 rfl (v := (nI (i + 1))) (nI_1 _) (by decide) (fun _ h => by cases h; exact Or.inl rfl) rfl ?_
          refine V.goto dX2_value_198 (tgt := 43) (by decide) ?_
          exact ih (i + 1) ((if x = 0 then 1 else 0) :: t) _ _ (by omega) hr' (he.put (by decide)) (fun j hj => by rw [put_cell (by decide)]; exact hnm j hj) hl (by rw [put_f]; exact hs.un) (fun M' h' => by have := hQ M' h'; simp [rpnRun, h5, h33] at this; exact this)
      · rcases stk with _ | ⟨y, _ | ⟨x, t⟩⟩
        · refine V.fg (ls' := [some (.ref 15), some (.int a), some (.int b), some (.int c0), some (.int d0), some (.int e0), some (.int (nI (0))), some (.int (nI i)), none]) ⟨rfl, rfl, rfl, rfl, rfl, rfl, rfl, rfl, trivial⟩ ?_
          refine V.iload dX2_value_43 rfl ?_
          refine V.aload_n dX2_value_45 rfl (i := 0) rfl ?_
          refine V.getI dX2_value_46 rfl flRX2_21 rfl ⟨by decide, by decide⟩ ?_
          refine V.top (x' := (nI n)) (hz) ?_
          refine V.ic_ge (tgt := 201) dX2_value_49 (by decide) (fun q => absurd q ((nI_ge (a := i) (b := n) (by omega) (by omega)))) (fun c49 => ?_)
          refine V.aload_n dX2_value_52 rfl (i := 0) rfl ?_
          refine V.getR dX2_value_53 rfl flRX2_9 rfl ⟨by decide, by decide⟩ ?_
          refine V.iload dX2_value_56 rfl ?_
          refine V.ialdN dX2_value_58 rfl ⟨by decide, by decide⟩ (by first | assumption | decide | omega) (by decide) ?_
          refine V.top (x' := s) (hst) ?_
          refine V.istore dX2_value_59 (i := 8) (by decide) (fun _ h => by cases h; exact Or.inl rfl) rfl ?_
          refine V.iload dX2_value_61 rfl ?_
          refine V.bipush dX2_value_63 (v := (-5)) (by decide) ?_
          refine V.ic_lt (tgt := 109) dX2_value_65 (by decide) (fun c65 => ?_) (fun q => absurd (h5) q)
          refine V.iload dX2_value_109 rfl ?_
          refine V.bipush dX2_value_111 (v := (-33)) (by decide) ?_
          refine V.ic_ne (tgt := 153) dX2_value_113 (by decide) (fun c113 => ?_) (fun q => absurd q (h33))
          refine V.iload dX2_value_153 rfl ?_
          refine V.iconst dX2_value_155 (v := 2) (by decide) ?_
          refine V.ic_ge (tgt := 161) dX2_value_156 (by decide) (fun q => absurd q ((by decide))) (fun c156 => ?_)
          refine V.iconst dX2_value_159 (v := 0) (by decide) ?_
          exact V.ret dX2_value_160 rfl (Qi (hQ M he) (by simp [rpnRun, h5, *]))
        · refine V.fg (ls' := [some (.ref 15), some (.int a), some (.int b), some (.int c0), some (.int d0), some (.int e0), some (.int (nI (1))), some (.int (nI i)), none]) ⟨rfl, rfl, rfl, rfl, rfl, rfl, rfl, rfl, trivial⟩ ?_
          refine V.iload dX2_value_43 rfl ?_
          refine V.aload_n dX2_value_45 rfl (i := 0) rfl ?_
          refine V.getI dX2_value_46 rfl flRX2_21 rfl ⟨by decide, by decide⟩ ?_
          refine V.top (x' := (nI n)) (hz) ?_
          refine V.ic_ge (tgt := 201) dX2_value_49 (by decide) (fun q => absurd q ((nI_ge (a := i) (b := n) (by omega) (by omega)))) (fun c49 => ?_)
          refine V.aload_n dX2_value_52 rfl (i := 0) rfl ?_
          refine V.getR dX2_value_53 rfl flRX2_9 rfl ⟨by decide, by decide⟩ ?_
          refine V.iload dX2_value_56 rfl ?_
          refine V.ialdN dX2_value_58 rfl ⟨by decide, by decide⟩ (by first | assumption | decide | omega) (by decide) ?_
          refine V.top (x' := s) (hst) ?_
          refine V.istore dX2_value_59 (i := 8) (by decide) (fun _ h => by cases h; exact Or.inl rfl) rfl ?_
          refine V.iload dX2_value_61 rfl ?_
          refine V.bipush dX2_value_63 (v := (-5)) (by decide) ?_
          refine V.ic_lt (tgt := 109) dX2_value_65 (by decide) (fun c65 => ?_) (fun q => absurd (h5) q)
          refine V.iload dX2_value_109 rfl ?_
          refine V.bipush dX2_value_111 (v := (-33)) (by decide) ?_
          refine V.ic_ne (tgt := 153) dX2_value_113 (by decide) (fun c113 => ?_) (fun q => absurd q (h33))
          refine V.iload dX2_value_153 rfl ?_
          refine V.iconst dX2_value_155 (v := 2) (by decide) ?_
          refine V.ic_ge (tgt := 161) dX2_value_156 (by decide) (fun q => absurd q ((by decide))) (fun c156 => ?_)
          refine V.iconst dX2_value_159 (v := 0) (by decide) ?_
          exact V.ret dX2_value_160 rfl (Qi (hQ M he) (by simp [rpnRun, h5, *]))
        · refine V.fg (ls' := [some (.ref 15), some (.int a), some (.int b), some (.int c0), some (.int d0), some (.int e0), some (.int (nI (t.length + 2))), some (.int (nI i)), none]) ⟨rfl, rfl, rfl, rfl, rfl, rfl, rfl, rfl, trivial⟩ ?_
          have hl2 : t.length + 1 + 1 ≤ 50 := hl
          refine V.iload dX2_value_43 rfl ?_
          refine V.aload_n dX2_value_45 rfl (i := 0) rfl ?_
          refine V.getI dX2_value_46 rfl flRX2_21 rfl ⟨by decide, by decide⟩ ?_
          refine V.top (x' := (nI n)) (hz) ?_
          refine V.ic_ge (tgt := 201) dX2_value_49 (by decide) (fun q => absurd q ((nI_ge (a := i) (b := n) (by omega) (by omega)))) (fun c49 => ?_)
          refine V.aload_n dX2_value_52 rfl (i := 0) rfl ?_
          refine V.getR dX2_value_53 rfl flRX2_9 rfl ⟨by decide, by decide⟩ ?_
          refine V.iload dX2_value_56 rfl ?_
          refine V.ialdN dX2_value_58 rfl ⟨by decide, by decide⟩ (by first | assumption | decide | omega) (by decide) ?_
          refine V.top (x' := s) (hst) ?_
          refine V.istore dX2_value_59 (i := 8) (by decide) (fun _ h => by cases h; exact Or.inl rfl) rfl ?_
          refine V.iload dX2_value_61 rfl ?_
          refine V.bipush dX2_value_63 (v := (-5)) (by decide) ?_
          refine V.ic_lt (tgt := 109) dX2_value_65 (by decide) (fun c65 => ?_) (fun q => absurd (h5) q)
          refine V.iload dX2_value_109 rfl ?_
          refine V.bipush dX2_value_111 (v := (-33)) (by decide) ?_
          refine V.ic_ne (tgt := 153) dX2_value_113 (by decide) (fun c113 => ?_) (fun q => absurd q (h33))
          refine V.iload dX2_value_153 rfl ?_
          refine V.iconst dX2_value_155 (v := 2) (by decide) ?_
          refine V.ic_ge (tgt := 161) dX2_value_156 (by decide) (fun c156 => ?_) (fun q => absurd ((nI_le (a := 2) (b := (t.length + 2)) (by omega) (by omega))) q)
          refine V.iinc dX2_value_161 rfl (v := (nI (t.length + 1))) (pk_m1 _) (by decide) (fun _ h => by cases h; exact Or.inl rfl) rfl ?_
          refine V.aload_n dX2_value_164 rfl (i := 0) rfl ?_
          refine V.getR dX2_value_165 rfl flRX2_18 rfl ⟨by decide, by decide⟩ ?_
          refine V.iload dX2_value_168 rfl ?_
          refine V.iconst dX2_value_170 (v := 1) (by decide) ?_
          refine V.isub dX2_value_171 ?_
          refine V.top (x' := (nI t.length)) ((nI_pred _)) ?_
          refine V.iload dX2_value_172 rfl ?_
          refine V.ineg dX2_value_174 ?_
          refine V.aload_n dX2_value_175 rfl (i := 0) rfl ?_
          refine V.getR dX2_value_176 rfl flRX2_18 rfl ⟨by decide, by decide⟩ ?_
          refine V.iload dX2_value_179 rfl ?_
          refine V.iconst dX2_value_181 (v := 1) (by decide) ?_
          refine V.isub dX2_value_182 ?_
          refine V.top (x' := (nI t.length)) ((nI_pred _)) ?_
          refine V.ialdN dX2_value_183 rfl ⟨by decide, by decide⟩ (by first | assumption | decide | omega) (by decide) ?_
          refine V.top (x' := x) (hs.at1) ?_
          refine V.aload_n dX2_value_184 rfl (i := 0) rfl ?_
          refine V.getR dX2_value_185 rfl flRX2_18 rfl ⟨by decide, by decide⟩ ?_
          refine V.iload dX2_value_188 rfl ?_
          refine V.ialdN dX2_value_190 rfl ⟨by decide, by decide⟩ (by first | assumption | decide | omega) (by decide) ?_
          refine V.top (x' := y) (hs.at0) ?_
          refine V.invs (z := mX2_join) (As := [_, _, _]) dX2_value_191 rfl mlRX2_35 okX2_join npX2_join rfl (Nat.le_of_ble_eq_true rfl) rfl (Nat.le_of_ble_eq_true rfl) (c_join   ?_)
          show V cS g (d + 1) mX2_value 194 [some (.ref 15), some (.int a), some (.int b), some (.int c0), some (.int d0), some (.int e0), some (.int (nI (t.length + 1))), some (.int (nI i)), some (.int s)] [.int (joinF (-s) x y), .int (nI t.length), .ref 73] (M) Q
          refine V.iastN dX2_value_194 rfl ⟨by decide, by decide⟩ (by first | assumption | decide | omega) (by decide) ?_
          refine V.iinc dX2_value_195 rfl (v := (nI (i + 1))) (nI_1 _) (by decide) (fun _ h => by cases h; exact Or.inl rfl) rfl ?_
          refine V.goto dX2_value_198 (tgt := 43) (by decide) ?_
          exact ih (i + 1) (joinF (-s) x y :: t) _ _ (by omega) hr' (he.put (by decide)) (fun j hj => by rw [put_cell (by decide)]; exact hnm j hj) (by rw [List.length_cons]; omega) (by rw [put_f]; exact hs.bin) (fun M' h' => by have := hQ M' h'; simp [rpnRun, h5, h33] at this; exact this)
    · refine V.fg (ls' := [some (.ref 15), some (.int a), some (.int b), some (.int c0), some (.int d0), some (.int e0), some (.int (nI (stk.length))), some (.int (nI i)), none]) ⟨rfl, rfl, rfl, rfl, rfl, rfl, rfl, rfl, trivial⟩ ?_
      by_cases h50' : stk.length < 50
      · by_cases h0 : s < 0
        · skip
          refine V.iload dX2_value_43 rfl ?_
          refine V.aload_n dX2_value_45 rfl (i := 0) rfl ?_
          refine V.getI dX2_value_46 rfl flRX2_21 rfl ⟨by decide, by decide⟩ ?_
          refine V.top (x' := (nI n)) (hz) ?_
          refine V.ic_ge (tgt := 201) dX2_value_49 (by decide) (fun q => absurd q ((nI_ge (a := i) (b := n) (by omega) (by omega)))) (fun c49 => ?_)
          refine V.aload_n dX2_value_52 rfl (i := 0) rfl ?_
          refine V.getR dX2_value_53 rfl flRX2_9 rfl ⟨by decide, by decide⟩ ?_
          refine V.iload dX2_value_56 rfl ?_
          refine V.ialdN dX2_value_58 rfl ⟨by decide, by decide⟩ (by first | assumption | decide | omega) (by decide) ?_
          refine V.top (x' := s) (hst) ?_
          refine V.istore dX2_value_59 (i := 8) (by decide) (fun _ h => by cases h; exact Or.inl rfl) rfl ?_
          refine V.iload dX2_value_61 rfl ?_
          refine V.bipush dX2_value_63 (v := (-5)) (by decide) ?_
          refine V.ic_lt (tgt := 109) dX2_value_65 (by decide) (fun q => absurd q (h5)) (fun c65 => ?_)
          refine V.iload dX2_value_68 rfl ?_
          refine V.bipush dX2_value_70 (v := 50) (by decide) ?_
          refine V.ic_lt (tgt := 77) dX2_value_72 (by decide) (fun c72 => ?_) (fun q => absurd ((nI_lt (b := 50) (by omega) (by omega))) q)
          refine V.aload_n dX2_value_77 rfl (i := 0) rfl ?_
          refine V.getR dX2_value_78 rfl flRX2_18 rfl ⟨by decide, by decide⟩ ?_
          refine V.iload dX2_value_81 rfl ?_
          refine V.iload dX2_value_83 rfl ?_
          refine V.if_lt (tgt := 93) dX2_value_85 (by decide) (fun c85 => ?_) (fun q => absurd (h0) q)
          refine V.aload_n dX2_value_93 rfl (i := 0) rfl ?_
          refine V.getR dX2_value_94 rfl flRX2_15 rfl ⟨by decide, by decide⟩ ?_
          refine V.iconst dX2_value_97 (v := (-1)) (by decide) ?_
          refine V.iload dX2_value_98 rfl ?_
          refine V.isub dX2_value_100 ?_
          refine V.iald dX2_value_101 rfl ⟨by decide, by decide⟩ (nm_ix h5 h0) ?_
          refine V.top (x' := (nm (Int32.toNatClampNeg (-1 - s)))) ((hnm _ (nm_lt h5 h0))) ?_
          refine V.iastN dX2_value_102 rfl ⟨by decide, by decide⟩ (by first | assumption | decide | omega) (by decide) ?_
          refine V.iinc dX2_value_103 rfl (v := (nI (stk.length + 1))) (nI_1 _) (by decide) (fun _ h => by cases h; exact Or.inl rfl) rfl ?_
          refine V.goto dX2_value_106 (tgt := 195) (by decide) ?_
          refine V.iinc dX2_value_195 rfl (v := (nI (i + 1))) (nI_1 _) (by decide) (fun _ h => by cases h; exact Or.inl rfl) rfl ?_
          refine V.goto dX2_value_198 (tgt := 43) (by decide) ?_
          exact ih (i + 1) (nm (Int32.toNatClampNeg (-1 - s)) :: stk) _ _ (by omega) hr' (he.put (by decide)) (fun j hj => by rw [put_cell (by decide)]; exact hnm j hj) (by rw [List.length_cons]; omega) (by rw [put_f]; exact hs.push) (fun M' h' => by have := hQ M' h'; simp [rpnRun, h5, h50', h0] at this; exact this)
        · skip
          refine V.iload dX2_value_43 rfl ?_
          refine V.aload_n dX2_value_45 rfl (i := 0) rfl ?_
          refine V.getI dX2_value_46 rfl flRX2_21 rfl ⟨by decide, by decide⟩ ?_
          refine V.top (x' := (nI n)) (hz) ?_
          refine V.ic_ge (tgt := 201) dX2_value_49 (by decide) (fun q => absurd q ((nI_ge (a := i) (b := n) (by omega) (by omega)))) (fun c49 => ?_)
          refine V.aload_n dX2_value_52 rfl (i := 0) rfl ?_
          refine V.getR dX2_value_53 rfl flRX2_9 rfl ⟨by decide, by decide⟩ ?_
          refine V.iload dX2_value_56 rfl ?_
          refine V.ialdN dX2_value_58 rfl ⟨by decide, by decide⟩ (by first | assumption | decide | omega) (by decide) ?_
          refine V.top (x' := s) (hst) ?_
          refine V.istore dX2_value_59 (i := 8) (by decide) (fun _ h => by cases h; exact Or.inl rfl) rfl ?_
          refine V.iload dX2_value_61 rfl ?_
          refine V.bipush dX2_value_63 (v := (-5)) (by decide) ?_
          refine V.ic_lt (tgt := 109) dX2_value_65 (by decide) (fun q => absurd q (h5)) (fun c65 => ?_)
          refine V.iload dX2_value_68 rfl ?_
          refine V.bipush dX2_value_70 (v := 50) (by decide) ?_
          refine V.ic_lt (tgt := 77) dX2_value_72 (by decide) (fun c72 => ?_) (fun q => absurd ((nI_lt (b := 50) (by omega) (by omega))) q)
          refine V.aload_n dX2_value_77 rfl (i := 0) rfl ?_
          refine V.getR dX2_value_78 rfl flRX2_18 rfl ⟨by decide, by decide⟩ ?_
          refine V.iload dX2_value_81 rfl ?_
          refine V.iload dX2_value_83 rfl ?_
          refine V.if_lt (tgt := 93) dX2_value_85 (by decide) (fun q => absurd q (h0)) (fun c85 => ?_)
          refine V.iload dX2_value_88 rfl ?_
          refine V.goto dX2_value_90 (tgt := 102) (by decide) ?_
          refine V.iastN dX2_value_102 rfl ⟨by decide, by decide⟩ (by first | assumption | decide | omega) (by decide) ?_
          refine V.iinc dX2_value_103 rfl (v := (nI (stk.length + 1))) (nI_1 _) (by decide) (fun _ h => by cases h; exact Or.inl rfl) rfl ?_
          refine V.goto dX2_value_106 (tgt := 195) (by decide) ?_
          refine V.iinc dX2_value_195 rfl (v := (nI (i + 1))) (nI_1 _) (by decide) (fun _ h => by cases h; exact Or.inl rfl) rfl ?_
          refine V.goto dX2_value_198 (tgt := 43) (by decide) ?_
          exact ih (i + 1) (s :: stk) _ _ (by omega) hr' (he.put (by decide)) (fun j hj => by rw [put_cell (by decide)]; exact hnm j hj) (by rw [List.length_cons]; omega) (by rw [put_f]; exact hs.push) (fun M' h' => by have := hQ M' h'; simp [rpnRun, h5, h50', h0] at this; exact this)
      · skip
        refine V.iload dX2_value_43 rfl ?_
        refine V.aload_n dX2_value_45 rfl (i := 0) rfl ?_
        refine V.getI dX2_value_46 rfl flRX2_21 rfl ⟨by decide, by decide⟩ ?_
        refine V.top (x' := (nI n)) (hz) ?_
        refine V.ic_ge (tgt := 201) dX2_value_49 (by decide) (fun q => absurd q ((nI_ge (a := i) (b := n) (by omega) (by omega)))) (fun c49 => ?_)
        refine V.aload_n dX2_value_52 rfl (i := 0) rfl ?_
        refine V.getR dX2_value_53 rfl flRX2_9 rfl ⟨by decide, by decide⟩ ?_
        refine V.iload dX2_value_56 rfl ?_
        refine V.ialdN dX2_value_58 rfl ⟨by decide, by decide⟩ (by first | assumption | decide | omega) (by decide) ?_
        refine V.top (x' := s) (hst) ?_
        refine V.istore dX2_value_59 (i := 8) (by decide) (fun _ h => by cases h; exact Or.inl rfl) rfl ?_
        refine V.iload dX2_value_61 rfl ?_
        refine V.bipush dX2_value_63 (v := (-5)) (by decide) ?_
        refine V.ic_lt (tgt := 109) dX2_value_65 (by decide) (fun q => absurd q (h5)) (fun c65 => ?_)
        refine V.iload dX2_value_68 rfl ?_
        refine V.bipush dX2_value_70 (v := 50) (by decide) ?_
        refine V.ic_lt (tgt := 77) dX2_value_72 (by decide) (fun q => absurd q ((nI_nlt (b := 50) (by omega) (by omega)))) (fun c72 => ?_)
        refine V.iconst dX2_value_75 (v := 0) (by decide) ?_
        exact V.ret dX2_value_76 rfl (Qi (hQ M he) (by simp [rpnRun, h5, h50']))
set_option maxHeartbeats 4000000 in
set_option maxRecDepth 100000 in
theorem c_value15 {g : GG} {d : Nat} {M : Mem} {Q : Option Value → Mem → Prop} {a b c0 d0 e0 : Int32} {n : Nat} (hn : M 15 1 = nI n) (h50 : n ≤ 50) (hQ : ∀ M', eqx [72, 73] M M' → Q (some (.int (rpnRun (fun j => [a, b, c0, d0, e0].getD j 0) ((List.range n).map (M 71)) []))) M') : V cS g (d + 1) mX2_value 0 [some (.ref 15), some (.int a), some (.int b), some (.int c0), some (.int d0), some (.int e0), none, none, none] [] M Q := by
  refine V.aload_n dX2_value_0 rfl (i := 0) rfl ?_
  refine V.getR dX2_value_1 rfl flRX2_15 rfl ⟨by decide, by decide⟩ ?_
  refine V.iconst dX2_value_4 (v := 0) (by decide) ?_
  refine V.iload_n dX2_value_5 rfl (i := 1) rfl ?_
  refine V.top1 (x' := nI 0) (by decide) ?_
  refine V.iastN dX2_value_6 rfl ⟨by decide, by decide⟩ (by first | assumption | decide | omega) (by decide) ?_
  refine V.aload_n dX2_value_7 rfl (i := 0) rfl ?_
  refine V.getR dX2_value_8 rfl flRX2_15 rfl ⟨by decide, by decide⟩ ?_
  refine V.iconst dX2_value_11 (v := 1) (by decide) ?_
  refine V.iload_n dX2_value_12 rfl (i := 2) rfl ?_
  refine V.top1 (x' := nI 1) (by decide) ?_
  refine V.iastN dX2_value_13 rfl ⟨by decide, by decide⟩ (by first | assumption | decide | omega) (by decide) ?_
  refine V.aload_n dX2_value_14 rfl (i := 0) rfl ?_
  refine V.getR dX2_value_15 rfl flRX2_15 rfl ⟨by decide, by decide⟩ ?_
  refine V.iconst dX2_value_18 (v := 2) (by decide) ?_
  refine V.iload_n dX2_value_19 rfl (i := 3) rfl ?_
  refine V.top1 (x' := nI 2) (by decide) ?_
  refine V.iastN dX2_value_20 rfl ⟨by decide, by decide⟩ (by first | assumption | decide | omega) (by decide) ?_
  refine V.aload_n dX2_value_21 rfl (i := 0) rfl ?_
  refine V.getR dX2_value_22 rfl flRX2_15 rfl ⟨by decide, by decide⟩ ?_
  refine V.iconst dX2_value_25 (v := 3) (by decide) ?_
  refine V.iload dX2_value_26 rfl ?_
  refine V.top1 (x' := nI 3) (by decide) ?_
  refine V.iastN dX2_value_28 rfl ⟨by decide, by decide⟩ (by first | assumption | decide | omega) (by decide) ?_
  refine V.aload_n dX2_value_29 rfl (i := 0) rfl ?_
  refine V.getR dX2_value_30 rfl flRX2_15 rfl ⟨by decide, by decide⟩ ?_
  refine V.iconst dX2_value_33 (v := 4) (by decide) ?_
  refine V.iload dX2_value_34 rfl ?_
  refine V.top1 (x' := nI 4) (by decide) ?_
  refine V.iastN dX2_value_36 rfl ⟨by decide, by decide⟩ (by first | assumption | decide | omega) (by decide) ?_
  refine V.iconst dX2_value_37 (v := 0) (by decide) ?_
  refine V.istore dX2_value_38 (i := 6) (by decide) (fun _ h => by cases h; exact Or.inl rfl) rfl ?_
  refine V.iconst dX2_value_40 (v := 0) (by decide) ?_
  refine V.istore dX2_value_41 (i := 7) (by decide) (fun _ h => by cases h; exact Or.inl rfl) rfl ?_
  exact l_value15 (M0 := M) hn h50 _ 0 [] _ _ (by simp) (fun j hj => by rw [List.length_map, List.length_range] at hj; simp [hj]) (((((eqx.rf.put (by decide)).put (by decide)).put (by decide)).put (by decide)).put (by decide)) (fun j hj => by rcases (show j = 0 ∨ j = 1 ∨ j = 2 ∨ j = 3 ∨ j = 4 by omega) with rfl | rfl | rfl | rfl | rfl <;> simp [put]) (by simp) (fun k hk => by simp at hk) hQ

