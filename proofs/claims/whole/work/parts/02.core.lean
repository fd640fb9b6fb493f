/-! ===== THE JUDGEMENT V: the machine over a fixed layout of cells; memory is one function Mem ===== -/
abbrev vwCl : List vw_C := [(RX0, TX0, 7), (RX1, TX1, 4), (RX2, TX2, 4), (RX3, TX3, 5), (RX4, TX4, 3), (RX5, TX5, 5), (RX6, TX6, 5), (RX7, TX7, 16), (RX8, TX8, 5), (RX9, TX9, 10), (RX10, TX10, 28)]
/-- a method: name, bytes, locals, return type -/
abbrev XM : Type := MethodName × ByteArray × Nat × Option FieldType
/-- what the cells hold: cell, place -/
abbrev Mem : Type := Nat → Nat → Int32
/-- a cell's layout: an object (class number, kinds of slots) or an array (kind, length, first cell of its rows) -/
abbrev LD : Type := (Nat × List Nat) ⊕ (Nat × Nat × Nat)
abbrev GG : Type := Launch × va_G × (Nat → Nat) × (Nat → ClassId)
def put (M : Mem) (a j : Nat) (x : Int32) : Mem := fun k i => if k = a ∧ i = j then x else M k i
def um (M : Mem) (a : Nat) (f : Nat → Int32) : Mem := fun k => if k = a then f else M k
theorem um_s {M : Mem} {a : Nat} {f : Nat → Int32} : um M a f a = f := if_pos rfl
theorem um_n {M : Mem} {a b : Nat} {f : Nat → Int32} (h : b ≠ a) : um M a f b = M b := if_neg h
theorem put_um (M : Mem) (a j : Nat) (x : Int32) : um M a (upd (M a) j x) = put M a j x := by
  funext k i
  unfold um put upd
  by_cases h : k = a
  · subst h
    by_cases h2 : i = j <;> simp [h2]
  · simp [h]
def cvv (ad : Nat → Nat) : Value → Value
  | .ref k => .ref (ad k)
  | v => v
theorem cvv_cat (ad : Nat → Nat) (v : Value) : (cvv ad v).category = v.category := by cases v <;> rfl
def slv (t : Nat) (x : Int32) : Value := match t with
  | 0 => .int x
  | 1 => .int x
  | 2 => .ref (210 + x.toNatClampNeg)
  | k + 3 => .ref k
def slvs : List Nat → Nat → (Nat → Int32) → List Value
  | [], _, _ => []
  | t :: ts, i, f => slv t (f i) :: slvs ts (i + 1) f
theorem slvs_len : ∀ (ts : List Nat) (i : Nat) (f : Nat → Int32), (slvs ts i f).length = ts.length
  | [], _, _ => rfl
  | _ :: ts, i, f => by rw [slvs, List.length_cons, List.length_cons, slvs_len ts]
theorem slvs_get : ∀ (ts : List Nat) (i : Nat) (f : Nat → Int32) (j t : Nat), ts[j]? = some t → (slvs ts i f)[j]? = some (slv t (f (i + j)))
  | [], _, _, j, t, h => by simp at h
  | a :: ts, i, f, 0, t, h => by
    simp at h
    subst h
    simp [slvs]
  | a :: ts, i, f, j + 1, t, h => by
    rw [List.getElem?_cons_succ] at h
    rw [slvs, List.getElem?_cons_succ, slvs_get ts (i + 1) f j t h, show i + 1 + j = i + (j + 1) by omega]
theorem slvs_set : ∀ (ts : List Nat) (i : Nat) (f : Nat → Int32) (j t : Nat) (x : Int32), ts[j]? = some t → (slvs ts i f).set j (slv t x) = slvs ts i (upd f (i + j) x)
  | [], _, _, j, t, x, h => by simp at h
  | a :: ts, i, f, 0, t, x, h => by
    simp at h
    subst h
    rw [slvs, List.set_cons_zero, slvs]
    have e : ∀ (ts : List Nat) (k : Nat), i < k → slvs ts k f = slvs ts k (upd f (i + 0) x) := by
      intro ts
      induction ts with
      | nil => intro k _; rfl
      | cons b ts ih =>
        intro k hk
        rw [slvs, slvs, ih (k + 1) (by omega)]
        congr 2
        unfold upd
        rw [if_neg (by omega)]
    rw [e ts (i + 1) (by omega)]
    congr 2
    unfold upd
    rw [if_pos (by omega)]
  | a :: ts, i, f, j + 1, t, x, h => by
    rw [List.getElem?_cons_succ] at h
    rw [slvs, List.set_cons_succ, slvs_set ts (i + 1) f j t x h, slvs, show i + 1 + j = i + (j + 1) by omega]
    congr 2
    unfold upd
    rw [if_neg (by omega)]
def lyt : List LD := [.inl (9, [4, 5, 6, 7, 8, 9, 10, 11, 12, 0]), .inl (7, [13, 14, 0, 15, 0, 0, 0, 0, 16, 0, 17, 18, 0, 19, 0, 20]), .inl (7, [21, 22, 0, 23, 0, 0, 0, 0, 24, 0, 25, 26, 0, 27, 0, 28]), .inl (3, [29, 30, 0, 0, 2]), .inl (1, [4, 31, 32, 57]), .inl (5, [4, 7, 58, 0, 59]), .inl (6, [4, 7, 60, 61, 62]), .inl (8, [63, 0, 0, 0, 0]), .inl (4, [64, 65, 66]), .inr (0, 6, 0), .inr (0, 101, 0), .inr (2, 8, 30), .inr (0, 10, 0), .inr (0, 50, 0), .inl (2, [71, 0, 72, 73]), .inl (2, [74, 0, 75, 76]), .inr (0, 20, 0), .inr (0, 8, 0), .inr (0, 101, 0), .inr (2, 8, 38), .inr (0, 10, 0), .inr (0, 50, 0), .inl (2, [77, 0, 78, 79]), .inl (2, [80, 0, 81, 82]), .inr (0, 20, 0), .inr (0, 8, 0), .inl (2, [83, 0, 84, 85]), .inr (0, 50, 0), .inr (3, 8, 46), .inr (0, 10, 0), .inl (0, [0, 0, 0, 0, 0, 0, 0]), .inl (0, [0, 0, 0, 0, 0, 0, 0]), .inl (0, [0, 0, 0, 0, 0, 0, 0]), .inl (0, [0, 0, 0, 0, 0, 0, 0]), .inl (0, [0, 0, 0, 0, 0, 0, 0]), .inl (0, [0, 0, 0, 0, 0, 0, 0]), .inl (0, [0, 0, 0, 0, 0, 0, 0]), .inl (0, [0, 0, 0, 0, 0, 0, 0]), .inl (0, [0, 0, 0, 0, 0, 0, 0]), .inl (0, [0, 0, 0, 0, 0, 0, 0]), .inl (0, [0, 0, 0, 0, 0, 0, 0]), .inl (0, [0, 0, 0, 0, 0, 0, 0]), .inl (0, [0, 0, 0, 0, 0, 0, 0]), .inl (0, [0, 0, 0, 0, 0, 0, 0]), .inl (0, [0, 0, 0, 0, 0, 0, 0]), .inl (0, [0, 0, 0, 0, 0, 0, 0]), .inr (0, 10, 0), .inr (0, 10, 0), .inr (0, 10, 0), .inr (0, 10, 0), .inr (0, 10, 0), .inr (0, 10, 0), .inr (0, 10, 0), .inr (0, 10, 0), .inr (0, 24, 0), .inr (0, 8, 0), .inr (0, 8, 0), .inr (0, 8, 0), .inr (0, 10, 0), .inr (0, 601, 0), .inr (0, 40, 0), .inr (3, 4, 64), .inr (0, 4, 0), .inr (0, 4, 0), .inr (0, 40, 0), .inr (0, 40, 0), .inr (0, 40, 0), .inr (0, 40, 0), .inr (0, 50, 0), .inr (0, 5, 0), .inr (0, 50, 0), .inr (0, 50, 0), .inr (0, 5, 0), .inr (0, 50, 0), .inr (0, 50, 0), .inr (0, 5, 0), .inr (0, 50, 0), .inr (0, 50, 0), .inr (0, 5, 0), .inr (0, 50, 0), .inr (0, 50, 0), .inr (0, 5, 0), .inr (0, 50, 0), .inl (10, [87, 88, 89, 0, 90, 0, 0, 0, 0, 0, 1, 91, 92, 93, 94, 0, 95, 96, 97, 98, 99, 100, 0, 0, 101, 102, 103, 104]), .inr (0, 360, 0), .inr (0, 360, 0), .inr (0, 360, 0), .inr (0, 6, 0), .inr (0, 5, 0), .inr (0, 90, 0), .inr (1, 90, 0), .inr (0, 8, 0), .inr (0, 64, 0), .inr (0, 8, 0), .inr (0, 8, 0), .inr (0, 8, 0), .inr (0, 601, 0), .inr (0, 40, 0), .inr (0, 4, 0), .inr (0, 4, 0), .inr (0, 160, 0), .inr (0, 40, 0)]
def lay (k : Nat) : LD := lyt.getD k (.inr (9, 0, 0))
def cel (g : GG) (M : Mem) (k : Nat) : va_E := match lay k with
  | .inl o => .inr (o.1, (slvs o.2 0 (M k)).map (cvv g.2.2.1))
  | .inr a => if a.1 ≤ 1 then .inl (g.2.2.2 a.1, a.2.1, .inl (M k)) else .inl (g.2.2.2 a.1, a.2.1, .inr (.inr (.inr (.inr (fun j => some (g.2.2.1 (a.2.2 + j)))))))
theorem cel_o {g : GG} {M : Mem} {k ci : Nat} {sk : List Nat} (h : lay k = .inl (ci, sk)) : cel g M k = .inr (ci, (slvs sk 0 (M k)).map (cvv g.2.2.1)) := by unfold cel; rw [h]
theorem cel_a {g : GG} {M : Mem} {k t n b : Nat} (h : lay k = .inr (t, n, b)) (ht : t ≤ 1) : cel g M k = .inl (g.2.2.2 t, n, .inl (M k)) := by unfold cel; rw [h]; exact if_pos ht
theorem cel_q {g : GG} {M : Mem} {k t n b : Nat} (h : lay k = .inr (t, n, b)) (ht : ¬ t ≤ 1) : cel g M k = .inl (g.2.2.2 t, n, .inr (.inr (.inr (.inr (fun j => some (g.2.2.1 (b + j))))))) := by unfold cel; rw [h]; exact if_neg ht
/-- the world of the cells lo .. lo + n - 1 -/
def wdl (sd : Nat × Nat) (g : GG) (M : Mem) : va_W := (List.range sd.2).map fun k => (g.2.2.1 (sd.1 + k), cel g M (sd.1 + k))
def inS (sd : Nat × Nat) (a : Nat) : Prop := sd.1 ≤ a ∧ a < sd.1 + sd.2
def AA (sd : Nat × Nat) (g : GG) : Nat → Prop := fun q => ∃ k, k < sd.2 ∧ q = g.2.2.1 (sd.1 + k)
theorem wdl_get {sd : Nat × Nat} {g : GG} {M : Mem} {a : Nat} (h : inS sd a) : (wdl sd g M)[a - sd.1]? = some (g.2.2.1 a, cel g M a) := by
  obtain ⟨h1, h2⟩ := h
  unfold wdl
  rw [List.getElem?_map, List.getElem?_range (by omega)]
  simp [show sd.1 + (a - sd.1) = a by omega]
theorem wdl_inv {sd : Nat × Nat} {g : GG} {M : Mem} {k : Nat} {q : Nat × va_E} (h : (wdl sd g M)[k]? = some q) : k < sd.2 ∧ q = (g.2.2.1 (sd.1 + k), cel g M (sd.1 + k)) := by
  unfold wdl at h
  rw [List.getElem?_map] at h
  by_cases hk : k < sd.2
  · rw [List.getElem?_range hk] at h
    exact ⟨hk, (Option.some.inj h).symm⟩
  · rw [List.getElem?_eq_none (by rw [List.length_range]; omega)] at h
    cases h
theorem wdl_set {sd : Nat × Nat} {g : GG} {M : Mem} {a : Nat} {f : Nat → Int32} {e : va_E} (h : inS sd a) (he : cel g (um M a f) a = e) : (wdl sd g M).set (a - sd.1) (g.2.2.1 a, e) = wdl sd g (um M a f) := by
  obtain ⟨h1, h2⟩ := h
  apply List.ext_getElem?
  intro k
  by_cases hk : k = a - sd.1
  · subst hk
    rw [List.getElem?_set_self (by unfold wdl; rw [List.length_map, List.length_range]; omega), wdl_get ⟨h1, h2⟩, he]
  · rw [List.getElem?_set_ne (Ne.symm hk)]
    unfold wdl
    rw [List.getElem?_map, List.getElem?_map]
    by_cases hk2 : k < sd.2
    · rw [List.getElem?_range hk2]
      show some (_, _) = some (_, _)
      have e : cel g M (sd.1 + k) = cel g (um M a f) (sd.1 + k) := by
        unfold cel
        rw [um_n (show sd.1 + k ≠ a by omega)]
      rw [e]
    · rw [List.getElem?_eq_none (by rw [List.length_range]; omega)]
      rfl
def inj (sd : Nat × Nat) (g : GG) : Prop := ∀ i j, i < sd.2 → j < sd.2 → g.2.2.1 (sd.1 + i) = g.2.2.1 (sd.1 + j) → i = j
theorem wdl_D {sd : Nat × Nat} {g : GG} {M : Mem} (h : inj sd g) : va_D (AA sd g) (wdl sd g M) := by
  refine ⟨fun i j p q hp hq hpq => ?_, fun k q hq => ?_⟩
  · obtain ⟨h1, rfl⟩ := wdl_inv hp
    obtain ⟨h2, rfl⟩ := wdl_inv hq
    exact h i j h1 h2 hpq
  · obtain ⟨h1, rfl⟩ := wdl_inv hq
    exact ⟨k, h1, rfl⟩
/-- locals: what is listed is held -/
def Lc (ad : Nat → Nat) (nL : Nat) (ls : List (Option Value)) (lC : Array Slot) : Prop := lC.size = nL ∧ lv_wf lC ∧ ∀ (i : Nat) (v : Value), ls[i]? = some (some v) → lC[i]? = some (.val (cvv ad v))
def psl : Nat → List (Option Value) → List (Nat × Value)
  | _, [] => []
  | k, none :: t => psl (k + 1) t
  | k, some v :: t => (k, v) :: psl (k + 1) t
theorem psl_mem : ∀ (ls : List (Option Value)) (k i : Nat) (v : Value), (i, v) ∈ psl k ls ↔ k ≤ i ∧ ls[i - k]? = some (some v)
  | [], k, i, v => by simp [psl]
  | none :: t, k, i, v => by
    rw [psl, psl_mem t (k + 1) i v]
    constructor
    · rintro ⟨h1, h2⟩
      refine ⟨by omega, ?_⟩
      rw [show i - k = (i - (k + 1)) + 1 by omega, List.getElem?_cons_succ]
      exact h2
    · rintro ⟨h1, h2⟩
      by_cases h : i = k
      · subst h
        rw [Nat.sub_self, List.getElem?_cons_zero] at h2
        cases h2
      · rw [show i - k = (i - (k + 1)) + 1 by omega, List.getElem?_cons_succ] at h2
        exact ⟨by omega, h2⟩
  | some w :: t, k, i, v => by
    rw [psl, List.mem_cons, psl_mem t (k + 1) i v]
    constructor
    · rintro (h | ⟨h1, h2⟩)
      · cases h
        exact ⟨Nat.le_refl _, by rw [Nat.sub_self, List.getElem?_cons_zero]⟩
      · refine ⟨by omega, ?_⟩
        rw [show i - k = (i - (k + 1)) + 1 by omega, List.getElem?_cons_succ]
        exact h2
    · rintro ⟨h1, h2⟩
      by_cases h : i = k
      · subst h
        rw [Nat.sub_self, List.getElem?_cons_zero] at h2
        cases h2
        exact Or.inl rfl
      · rw [show i - k = (i - (k + 1)) + 1 by omega, List.getElem?_cons_succ] at h2
        exact Or.inr ⟨by omega, h2⟩
theorem Lc.has {ad : Nat → Nat} {nL : Nat} {ls : List (Option Value)} {lC : Array Slot} (h : Lc ad nL ls lC) : lv_has lC nL ((psl 0 ls).map fun q => (q.1, cvv ad q.2)) := by
  refine ⟨h.1, h.2.1, fun q hq => ?_⟩
  obtain ⟨⟨i, v⟩, hm, rfl⟩ := List.mem_map.mp hq
  exact h.2.2 i v ((psl_mem ls 0 i v).mp hm).2
/-- a value of one slot is stored -/
theorem Lc.st1 {ad : Nat → Nat} {nL : Nat} {ls : List (Option Value)} {lC lC' : Array Slot} {i : Nat} {v : Value} {l : List (Nat × Value)} (h : Lc ad nL ls lC) (hn : ∀ w, ls[i - 1]? = some (some w) → w.category = 1 ∨ i = 0)
    (hh : lv_has lC' nL ((i, cvv ad v) :: ((psl 0 ls).map fun q => (q.1, cvv ad q.2)).filter (fun q => !(q.1 == i) && !(q.1 + 1 == i && q.2.category == 2)))) : Lc ad nL (ls.set i (some v)) lC' := by
  refine ⟨hh.1, hh.2.1, fun j w hj => ?_⟩
  by_cases hji : j = i
  · subst hji
    by_cases hl : j < ls.length
    · rw [List.getElem?_set_self hl] at hj
      cases hj
      exact hh.2.2 (j, cvv ad v) List.mem_cons_self
    · rw [List.getElem?_eq_none (by rw [List.length_set]; omega)] at hj
      cases hj
  · rw [List.getElem?_set_ne (Ne.symm hji)] at hj
    refine hh.2.2 (j, cvv ad w) (List.mem_cons_of_mem _ (List.mem_filter.mpr ⟨List.mem_map.mpr ⟨(j, w), (psl_mem ls 0 j w).mpr ⟨Nat.zero_le _, hj⟩, rfl⟩, ?_⟩))
    simp only [Bool.and_eq_true, Bool.not_eq_true', beq_eq_false_iff_ne, ne_eq, Bool.and_eq_false_iff]
    refine ⟨hji, ?_⟩
    by_cases h1 : j + 1 = i
    · right
      have : i - 1 = j := by omega
      rw [← this] at hj
      rcases hn w hj with h2 | h2
      · rw [cvv_cat, h2]; decide
      · omega
    · exact Or.inl h1
theorem Lc.st2 {ad : Nat → Nat} {nL : Nat} {ls : List (Option Value)} {lC lC' : Array Slot} {i : Nat} {v : Value} (h : Lc ad nL ls lC) (hn : ∀ w, ls[i - 1]? = some (some w) → w.category = 1 ∨ i = 0)
    (hh : lv_has lC' nL ((i, cvv ad v) :: ((psl 0 ls).map fun q => (q.1, cvv ad q.2)).filter (fun q => !(q.1 == i) && (!(q.1 == i + 1) && !(q.1 + 1 == i && q.2.category == 2))))) : Lc ad nL ((ls.set i (some v)).set (i + 1) none) lC' := by
  refine ⟨hh.1, hh.2.1, fun j w hj => ?_⟩
  by_cases hj2 : j = i + 1
  · subst hj2
    by_cases hl : i + 1 < (ls.set i (some v)).length
    · rw [List.getElem?_set_self hl] at hj
      cases hj
    · rw [List.getElem?_eq_none (by rw [List.length_set]; omega)] at hj
      cases hj
  · rw [List.getElem?_set_ne (Ne.symm hj2)] at hj
    by_cases hji : j = i
    · subst hji
      by_cases hl : j < ls.length
      · rw [List.getElem?_set_self hl] at hj
        cases hj
        exact hh.2.2 (j, cvv ad v) List.mem_cons_self
      · rw [List.getElem?_eq_none (by rw [List.length_set]; omega)] at hj
        cases hj
    · rw [List.getElem?_set_ne (Ne.symm hji)] at hj
      refine hh.2.2 (j, cvv ad w) (List.mem_cons_of_mem _ (List.mem_filter.mpr ⟨List.mem_map.mpr ⟨(j, w), (psl_mem ls 0 j w).mpr ⟨Nat.zero_le _, hj⟩, rfl⟩, ?_⟩))
      simp only [Bool.and_eq_true, Bool.not_eq_true', beq_eq_false_iff_ne, ne_eq, Bool.and_eq_false_iff]
      refine ⟨hji, hj2, ?_⟩
      by_cases h1 : j + 1 = i
      · right
        have : i - 1 = j := by omega
        rw [← this] at hj
        rcases hn w hj with h2 | h2
        · rw [cvv_cat, h2]; decide
        · omega
      · exact Or.inl h1
/-! ===== words ===== -/
def lwG : List Cond := lw_tbl.filter goodWord
theorem lwg {w : Cond} (i : Nat) (h : lw_tbl[i]? = some w) (hg : goodWord w = true) : w ∈ lwG := List.mem_filter.mpr ⟨List.mem_of_getElem? h, hg⟩
theorem lwgs (ws : List Cond) (ps : List Nat) (hp : ws = ps.filterMap (fun i => lw_tbl[i]?)) (h : ws.all goodWord = true) : ∀ w ∈ ws, w ∈ lwG := by
  intro w hw
  refine List.mem_filter.mpr ⟨?_, List.all_eq_true.mp h w hw⟩
  rw [hp] at hw
  obtain ⟨i, -, hi⟩ := List.mem_filterMap.mp hw
  exact List.mem_of_getElem? hi
def wsG (y : XM) : List Cond := Cond.code y.1 y.2.1 y.2.2.1 y.2.2.2 :: lwG
theorem wsG_in {y : XM} {w : Cond} (h : w ∈ lwG) : w ∈ wsG y := List.mem_cons_of_mem _ h
def MOK (z : XM) : Prop := Cond.code z.1 z.2.1 z.2.2.1 z.2.2.2 ∈ lwG ∧ Cond.initialized z.1.cls ∈ lwG ∧ (z.1.cls ≠ "java/lang/invoke/MethodHandle" ∧ z.1.cls ≠ "java/lang/invoke/VarHandle") ∧ plainName z.1.cls = true ∧ z.2.2.1 ≤ 40
theorem wsG_good {y z : XM} (hz : MOK z) : GoodIn (wsG y) (wsG z) := by
  intro w hw
  rcases List.mem_cons.mp hw with rfl | hw
  · exact ⟨wsG_in hz.1, good_of_word (List.mem_filter.mp hz.1).2⟩
  · exact ⟨wsG_in hw, good_of_word (List.mem_filter.mp hw).2⟩
/-! ===== what stands fixed: classes, statics, strings, words of the nest ===== -/
def tysG (g : GG) : List (ClassId × FieldType) := [(g.2.2.2 0, .int), (g.2.2.2 1, .boolean), (g.2.2.2 2, .object "OneBreath$Bell"), (g.2.2.2 3, .array .int)]
def saT : List (String × String × List Int32) := [("OneBreath", "ABOVE", [-1, 0, 0, 0, 1, 1, 3]), ("OneBreath$Bell", "LOWEST", [0, 0, 0, 0, -900, 0, 0]), ("OneBreath$Bell", "HIGHEST", [6, 23, 99, 99, 900, 99, 1]), ("OneBreath$Voices", "BODIES", [10, 11, 12, 13, 0, 20, 0, 0, 30, 0, 0, 0, 0, 0, 40, 0, 0, 50, 0, 0, 0, 0, 0, 60, 0, 0, 70, 71])]
def srT : List (String × Nat × String × Nat) := [("OneBreath", 365, "ldhwk", 0), ("OneBreath", 367, "srm", 1), ("OneBreath", 69, "l-d-5*h+w", 2), ("OneBreath", 75, "s+r-3", 3), ("OneBreath$Reader", 22, "ldhwk", 0)]
def strL : List Nat := [5, 3, 9, 5]
def strB : List (List Int32) := [[108, 100, 104, 119, 107], [115, 114, 109], [108, 45, 100, 45, 53, 42, 104, 43, 119], [115, 43, 114, 45, 51]]
def nwF : List (String × Nat × String × String × String × String) := [("OneBreath$Bell", 44, "OneBreath", "ABOVE", "[I", "OneBreath"), ("OneBreath$Voices", 43, "OneBreath", "ABOVE", "[I", "OneBreath")]
def nwM : List (String × Nat × MethodName × String) := [("OneBreath$Hearing", 107, yX9_wayBetween, "OneBreath"), ("OneBreath$Reader", 34, yX9_heldWithin, "OneBreath"), ("OneBreath$Slate", 74, yX9_heldWithin, "OneBreath"), ("OneBreath$Trials", 81, yX9_wayBetween, "OneBreath"), ("OneBreath$Valley", 111, yX9_heldWithin, "OneBreath")]
def Cx (sd : Nat × Nat) (g : GG) (s : State) : Prop :=
  va_K g.2.1 vwCl (tysG g) s ∧ inj sd g ∧
  (∀ (j : Nat) (q : String × String × List Int32), saT[j]? = some q → va_Z q.1 q.2.1 "[I" (.ref (g.2.2.1 (200 + j))) (AA sd g) s s.heap ∧ va_T .int (g.2.2.1 (200 + j)) q.2.2.length (fun i => .int (q.2.2.getD i 0)) (AA sd g) s s.heap) ∧
  vk_S 4 strL strB (fun i => g.2.2.1 (210 + i)) (fun i => g.2.2.1 (220 + i)) (AA sd g) s s.heap ∧
  (va_Z "java/lang/String" "COMPACT_STRINGS" "Z" (.int 1) (AA sd g) s s.heap ∧ ∃ v, (v = .null ∨ v = .ref 230) ∧ va_Z "jdk/internal/util/Preconditions" "SIOOBE_FORMATTER" "Ljava/util/function/BiFunction;" (cvv g.2.2.1 v) (AA sd g) s s.heap) ∧
  (∀ q ∈ srT, vk_R q.1 q.2.1 q.2.2.1 (g.2.2.1 (210 + q.2.2.2)) s) ∧
  (∀ q ∈ nwF, va_Nw (.fieldLinkNest q.1 q.2.1 q.2.2.1 q.2.2.2.1 q.2.2.2.2.1 q.2.2.2.2.2) s) ∧
  (∀ q ∈ nwM, va_Nw (.methodLinkNest q.1 q.2.1 q.2.2.1 q.2.2.2) s)
theorem Cx.go {sd : Nat × Nat} {g : GG} {s U : State} {H : Heap} {locs : List Loc} (h : Cx sd g s) (hS : va_S (AA sd g) s.heap H locs) (hU : U.heap = H) (hW : s.WarmedH U.vm) : Cx sd g U := by
  obtain ⟨h1, h2, h3, h4, h5, h6, h7, h8⟩ := h
  have k : ∀ a : Nat, a < s.heap.size → ¬ AA sd g a → U.heap[a]? = s.heap[a]? := fun a ha hn => by rw [hU]; exact hS.2.1 a ha hn
  refine ⟨h1.moved hW.alike, h2, fun j q hq => ⟨((h3 j q hq).1.kept k).moved hW.alike, ((h3 j q hq).2.kept k).moved hW.alike⟩, (h4.kept k).moved hW.alike, ⟨(h5.1.kept k).moved hW.alike, h5.2.elim fun v hv => ⟨v, hv.1, (hv.2.kept k).moved hW.alike⟩⟩, fun q hq => (h6 q hq).warm hW, fun q hq => va_Nw.warmF hW (h7 q hq), fun q hq => va_Nw.warmM hW (h8 q hq)⟩
theorem Cx.same {sd : Nat × Nat} {g : GG} {s U : State} (h : Cx sd g s) (hU : U.heap = s.heap) (hv : U.vm = s.vm) : Cx sd g U := by
  obtain ⟨h1, h2, h3, h4, h5, h6, h7, h8⟩ := h
  have al : s.vm.Alike U.vm := by rw [hv]; exact Vm.Alike.refl _
  refine ⟨h1.moved al, h2, fun j q hq => ?_, ?_, ?_, fun q hq => (h6 q hq).same hv, fun q hq => (h7 q hq).same rfl hv.symm, fun q hq => (h8 q hq).same rfl hv.symm⟩
  · rw [hU]; exact ⟨(h3 j q hq).1.moved al, (h3 j q hq).2.moved al⟩
  · rw [hU]; exact h4.moved al
  · rw [hU]; exact ⟨h5.1.moved al, h5.2.elim fun v hv => ⟨v, hv.1, hv.2.moved al⟩⟩
/-! ===== V ===== -/
def rmG (d : Nat) : Room := { frames := d, cells := 0, slots := 0, locals := 60 * d }
def QG (sd : Nat × Nat) (g : GG) (Q : Option Value → Mem → Prop) : Array Value → State → Outcome → State → Prop := fun _ st o t =>
  ∃ (r : Option Value) (M : Mem), o = .returned (r.map (cvv g.2.2.1)) ∧ Q r M ∧ va_P g.2.1 vwCl (wdl sd g M) t.heap ∧ va_F (AA sd g) st t
/-- what is known of the machine within method y -/
def Cc (sd : Nat × Nat) (g : GG) (y : XM) (ls : List (Option Value)) (M : Mem) (p : Program) (s : State) (m : MethodId) (args : Array Value) (meth : Method) (c : Code) (H : Heap) (locs : List Loc) (lC : Array Slot) : Prop :=
  p.tables.exec = Jvm.exec ∧ c.code = y.2.1 ∧ meth.sig.returnType = y.2.2.2 ∧ c.maxLocals = y.2.2.1 ∧ s.vm.findClass y.1.cls = some m.cls ∧ meth.locks = false ∧ (∀ w ∈ wsG y, w.before args s = true) ∧ Cx sd g s ∧ va_P g.2.1 vwCl (wdl sd g M) H ∧ va_S (AA sd g) s.heap H locs ∧ Lc g.2.2.1 y.2.2.1 ls lC
def V (sd : Nat × Nat) (g : GG) (d : Nat) (y : XM) (pc : Nat) (ls : List (Option Value)) (st : List Value) (M : Mem) (Q : Option Value → Mem → Prop) : Prop :=
  ∀ (p : Program) (e : Env) (s : State) (m : MethodId) (args : Array Value) (below : List Frame) (meth : Method) (c : Code) (H : Heap) (locs : List Loc) (lC : Array Slot), Cc sd g y ls M p s m args meth c H locs lC →
    W p g.1 e (rmG d) s m args below meth c H locs 0 0 (MQ below (QG sd g Q) args s 0 0 (AA sd g)) (F0 m pc lC (st.map (cvv g.2.2.1)))
section VR
variable {sd : Nat × Nat} {g : GG} {d : Nat} {y : XM} {pc : Nat} {ls : List (Option Value)} {st : List Value} {M : Mem} {Q : Option Value → Mem → Prop}
theorem Cc.lg {p : Program} {s : State} {m : MethodId} {args : Array Value} {meth : Method} {c : Code} {H : Heap} {locs : List Loc} {lC : Array Slot} (h : Cc sd g y ls M p s m args meth c H locs lC) {i : Nat} {v : Value} (hv : ls[i]? = some (some v)) : lC[i]? = some (.val (cvv g.2.2.1 v)) := h.2.2.2.2.2.2.2.2.2.2.2.2 i v hv
theorem V.iconst {n : Int} {v : Int32} (hd : decode y.2.1 pc = .ok (.iconst n, 1)) (hv : Int32.ofInt n = v) (k : V sd g d y (pc + 1) ls (.int v :: st) M Q) : V sd g d y pc ls st M Q :=
  fun p e s m ar be me c H lo lC h => lv_iconst h.1 h.2.1 hd hv (k p e s m ar be me c H lo lC h)
theorem V.bipush {n : Int} {v : Int32} (hd : decode y.2.1 pc = .ok (.bipush n, 2)) (hv : (Int8.ofInt n).toInt32 = v) (k : V sd g d y (pc + 2) ls (.int v :: st) M Q) : V sd g d y pc ls st M Q :=
  fun p e s m ar be me c H lo lC h => lv_bipush h.1 h.2.1 hd hv (k p e s m ar be me c H lo lC h)
theorem V.sipush {n : Int} {v : Int32} (hd : decode y.2.1 pc = .ok (.sipush n, 3)) (hv : (Int16.ofInt n).toInt32 = v) (k : V sd g d y (pc + 3) ls (.int v :: st) M Q) : V sd g d y pc ls st M Q :=
  fun p e s m ar be me c H lo lC h => lv_sipush h.1 h.2.1 hd hv (k p e s m ar be me c H lo lC h)
theorem V.lconst {n : Fin 2} {v : Int64} (hd : decode y.2.1 pc = .ok (.lconst n, 1)) (hv : Int64.ofNat (n : Nat) = v) (k : V sd g d y (pc + 1) ls (.long v :: st) M Q) : V sd g d y pc ls st M Q :=
  fun p e s m ar be me c H lo lC h => lv_lconst h.1 h.2.1 hd hv (k p e s m ar be me c H lo lC h)
theorem V.ldc {own : String} {i : Nat} {v : Int32} (hd : decode y.2.1 pc = .ok (.ldc i, 2)) (ho : y.1.cls = own) (hw : Cond.constant own i v ∈ lwG) (k : V sd g d y (pc + 2) ls (.int v :: st) M Q) : V sd g d y pc ls st M Q :=
  fun p e s m ar be me c H lo lC h => lv_ldc h.1 h.2.1 (ho ▸ h.2.2.2.2.1) (h.2.2.2.2.2.2.1 _ (wsG_in hw)) hd (k p e s m ar be me c H lo lC h)
theorem V.ldcw {own : String} {i : Nat} {v : Int32} (hd : decode y.2.1 pc = .ok (.ldc_w i, 3)) (ho : y.1.cls = own) (hw : Cond.constant own i v ∈ lwG) (k : V sd g d y (pc + 3) ls (.int v :: st) M Q) : V sd g d y pc ls st M Q :=
  fun p e s m ar be me c H lo lC h => lv_ldcw h.1 h.2.1 (ho ▸ h.2.2.2.2.1) (h.2.2.2.2.2.2.1 _ (wsG_in hw)) hd (k p e s m ar be me c H lo lC h)
theorem V.ldc2 {own : String} {i : Nat} {v : Int64} (hd : decode y.2.1 pc = .ok (.ldc2_w i, 3)) (ho : y.1.cls = own) (hw : Cond.constantLong own i v ∈ lwG) (k : V sd g d y (pc + 3) ls (.long v :: st) M Q) : V sd g d y pc ls st M Q :=
  fun p e s m ar be me c H lo lC h => lv_ldc2 h.1 h.2.1 (ho ▸ h.2.2.2.2.1) (h.2.2.2.2.2.2.1 _ (wsG_in hw)) hd (k p e s m ar be me c H lo lC h)
theorem V.ldcS {own tx : String} {i j : Nat} (hd : decode y.2.1 pc = .ok (.ldc i, 2)) (ho : y.1.cls = own) (hw : (own, i, tx, j) ∈ srT) (k : V sd g d y (pc + 2) ls (.ref (210 + j) :: st) M Q) : V sd g d y pc ls st M Q :=
  fun p e s m ar be me c H lo lC h => va_ldcS h.1 h.2.1 (ho ▸ h.2.2.2.2.1) (h.2.2.2.2.2.2.2.1.2.2.2.2.2.1 _ hw) hd (k p e s m ar be me c H lo lC h)
theorem V.iload_n {k : Fin 4} {i : Nat} {x : Int32} (hd : decode y.2.1 pc = .ok (.iload_n k, 1)) (hi : (k : Nat) = i) (hl : ls[i]? = some (some (.int x))) (k : V sd g d y (pc + 1) ls (.int x :: st) M Q) : V sd g d y pc ls st M Q :=
  fun p e s m ar be me c H lo lC h => lv_iload_n h.1 h.2.1 hd hi (h.lg hl) (k p e s m ar be me c H lo lC h)
theorem V.iload {i : Nat} {x : Int32} (hd : decode y.2.1 pc = .ok (.iload i, 2)) (hl : ls[i]? = some (some (.int x))) (k : V sd g d y (pc + 2) ls (.int x :: st) M Q) : V sd g d y pc ls st M Q :=
  fun p e s m ar be me c H lo lC h => lv_iload h.1 h.2.1 hd (h.lg hl) (k p e s m ar be me c H lo lC h)
theorem V.lload_n {k : Fin 4} {i : Nat} {x : Int64} (hd : decode y.2.1 pc = .ok (.lload_n k, 1)) (hi : (k : Nat) = i) (hl : ls[i]? = some (some (.long x))) (k : V sd g d y (pc + 1) ls (.long x :: st) M Q) : V sd g d y pc ls st M Q :=
  fun p e s m ar be me c H lo lC h => lv_lload_n h.1 h.2.1 hd hi (h.lg hl) (k p e s m ar be me c H lo lC h)
theorem V.lload {i : Nat} {x : Int64} (hd : decode y.2.1 pc = .ok (.lload i, 2)) (hl : ls[i]? = some (some (.long x))) (k : V sd g d y (pc + 2) ls (.long x :: st) M Q) : V sd g d y pc ls st M Q :=
  fun p e s m ar be me c H lo lC h => lv_lload h.1 h.2.1 hd (h.lg hl) (k p e s m ar be me c H lo lC h)
theorem V.aload_n {k : Fin 4} {i a : Nat} (hd : decode y.2.1 pc = .ok (.aload_n k, 1)) (hi : (k : Nat) = i) (hl : ls[i]? = some (some (.ref a))) (k : V sd g d y (pc + 1) ls (.ref a :: st) M Q) : V sd g d y pc ls st M Q :=
  fun p e s m ar be me c H lo lC h => lv_aload_n h.1 h.2.1 hd hi (h.lg hl) (k p e s m ar be me c H lo lC h)
theorem V.aload {i a : Nat} (hd : decode y.2.1 pc = .ok (.aload i, 2)) (hl : ls[i]? = some (some (.ref a))) (k : V sd g d y (pc + 2) ls (.ref a :: st) M Q) : V sd g d y pc ls st M Q :=
  fun p e s m ar be me c H lo lC h => lv_aload h.1 h.2.1 hd (h.lg hl) (k p e s m ar be me c H lo lC h)
theorem V.iadd {x y0 : Int32} (hd : decode y.2.1 pc = .ok (.iadd, 1)) (k : V sd g d y (pc + 1) ls (.int (x + y0) :: st) M Q) : V sd g d y pc ls (.int y0 :: .int x :: st) M Q :=
  fun p e s m ar be me c H lo lC h => lv_iadd h.1 h.2.1 hd (k p e s m ar be me c H lo lC h)
theorem V.isub {x y0 : Int32} (hd : decode y.2.1 pc = .ok (.isub, 1)) (k : V sd g d y (pc + 1) ls (.int (x - y0) :: st) M Q) : V sd g d y pc ls (.int y0 :: .int x :: st) M Q :=
  fun p e s m ar be me c H lo lC h => lv_isub h.1 h.2.1 hd (k p e s m ar be me c H lo lC h)
theorem V.imul {x y0 : Int32} (hd : decode y.2.1 pc = .ok (.imul, 1)) (k : V sd g d y (pc + 1) ls (.int (x * y0) :: st) M Q) : V sd g d y pc ls (.int y0 :: .int x :: st) M Q :=
  fun p e s m ar be me c H lo lC h => lv_imul h.1 h.2.1 hd (k p e s m ar be me c H lo lC h)
theorem V.iand {x y0 : Int32} (hd : decode y.2.1 pc = .ok (.iand, 1)) (k : V sd g d y (pc + 1) ls (.int (x &&& y0) :: st) M Q) : V sd g d y pc ls (.int y0 :: .int x :: st) M Q :=
  fun p e s m ar be me c H lo lC h => lv_iand h.1 h.2.1 hd (k p e s m ar be me c H lo lC h)
theorem V.ior {x y0 : Int32} (hd : decode y.2.1 pc = .ok (.ior, 1)) (k : V sd g d y (pc + 1) ls (.int (x ||| y0) :: st) M Q) : V sd g d y pc ls (.int y0 :: .int x :: st) M Q :=
  fun p e s m ar be me c H lo lC h => lv_ior h.1 h.2.1 hd (k p e s m ar be me c H lo lC h)
theorem V.ixor {x y0 : Int32} (hd : decode y.2.1 pc = .ok (.ixor, 1)) (k : V sd g d y (pc + 1) ls (.int (x ^^^ y0) :: st) M Q) : V sd g d y pc ls (.int y0 :: .int x :: st) M Q :=
  fun p e s m ar be me c H lo lC h => lv_ixor h.1 h.2.1 hd (k p e s m ar be me c H lo lC h)
theorem V.ishl {x y0 : Int32} (hd : decode y.2.1 pc = .ok (.ishl, 1)) (k : V sd g d y (pc + 1) ls (.int (x <<< (y0 &&& 31)) :: st) M Q) : V sd g d y pc ls (.int y0 :: .int x :: st) M Q :=
  fun p e s m ar be me c H lo lC h => lv_ishl h.1 h.2.1 hd (k p e s m ar be me c H lo lC h)
theorem V.ishr {x y0 : Int32} (hd : decode y.2.1 pc = .ok (.ishr, 1)) (k : V sd g d y (pc + 1) ls (.int (x >>> (y0 &&& 31)) :: st) M Q) : V sd g d y pc ls (.int y0 :: .int x :: st) M Q :=
  fun p e s m ar be me c H lo lC h => lv_ishr h.1 h.2.1 hd (k p e s m ar be me c H lo lC h)
theorem V.idiv {x y0 : Int32} (hd : decode y.2.1 pc = .ok (.idiv, 1)) (hne : ¬ y0 = 0) (k : V sd g d y (pc + 1) ls (.int (x / y0) :: st) M Q) : V sd g d y pc ls (.int y0 :: .int x :: st) M Q :=
  fun p e s m ar be me c H lo lC h => lv_idiv h.1 h.2.1 hd hne (k p e s m ar be me c H lo lC h)
theorem V.irem {x y0 : Int32} (hd : decode y.2.1 pc = .ok (.irem, 1)) (hne : ¬ y0 = 0) (k : V sd g d y (pc + 1) ls (.int (x - x / y0 * y0) :: st) M Q) : V sd g d y pc ls (.int y0 :: .int x :: st) M Q :=
  fun p e s m ar be me c H lo lC h => lv_irem h.1 h.2.1 hd hne (k p e s m ar be me c H lo lC h)
theorem V.land {x y0 : Int64} (hd : decode y.2.1 pc = .ok (.land, 1)) (k : V sd g d y (pc + 1) ls (.long (x &&& y0) :: st) M Q) : V sd g d y pc ls (.long y0 :: .long x :: st) M Q :=
  fun p e s m ar be me c H lo lC h => lv_land h.1 h.2.1 hd (k p e s m ar be me c H lo lC h)
theorem V.lor {x y0 : Int64} (hd : decode y.2.1 pc = .ok (.lor, 1)) (k : V sd g d y (pc + 1) ls (.long (x ||| y0) :: st) M Q) : V sd g d y pc ls (.long y0 :: .long x :: st) M Q :=
  fun p e s m ar be me c H lo lC h => lv_lor h.1 h.2.1 hd (k p e s m ar be me c H lo lC h)
theorem V.lrem {x y0 : Int64} (hd : decode y.2.1 pc = .ok (.lrem, 1)) (hne : ¬ y0 = 0) (k : V sd g d y (pc + 1) ls (.long (x - x / y0 * y0) :: st) M Q) : V sd g d y pc ls (.long y0 :: .long x :: st) M Q :=
  fun p e s m ar be me c H lo lC h => lv_lrem h.1 h.2.1 hd hne (k p e s m ar be me c H lo lC h)
theorem V.lcmp {x y0 : Int64} (hd : decode y.2.1 pc = .ok (.lcmp, 1)) (k : V sd g d y (pc + 1) ls (.int (lg_cmp x y0) :: st) M Q) : V sd g d y pc ls (.long y0 :: .long x :: st) M Q :=
  fun p e s m ar be me c H lo lC h => W.lcmp h.1 h.2.1 hd (k p e s m ar be me c H lo lC h)
theorem V.ineg {x : Int32} (hd : decode y.2.1 pc = .ok (.ineg, 1)) (k : V sd g d y (pc + 1) ls (.int (-x) :: st) M Q) : V sd g d y pc ls (.int x :: st) M Q :=
  fun p e s m ar be me c H lo lC h => lv_ineg h.1 h.2.1 hd (k p e s m ar be me c H lo lC h)
theorem V.i2l {x : Int32} (hd : decode y.2.1 pc = .ok (.i2l, 1)) (k : V sd g d y (pc + 1) ls (.long (x.toInt64) :: st) M Q) : V sd g d y pc ls (.int x :: st) M Q :=
  fun p e s m ar be me c H lo lC h => lv_i2l h.1 h.2.1 hd rfl (k p e s m ar be me c H lo lC h)
theorem V.l2i {x : Int64} (hd : decode y.2.1 pc = .ok (.l2i, 1)) (k : V sd g d y (pc + 1) ls (.int (x.toInt32) :: st) M Q) : V sd g d y pc ls (.long x :: st) M Q :=
  fun p e s m ar be me c H lo lC h => lv_l2i h.1 h.2.1 hd rfl (k p e s m ar be me c H lo lC h)
theorem V.i2b {x : Int32} (hd : decode y.2.1 pc = .ok (.i2b, 1)) (k : V sd g d y (pc + 1) ls (.int (x.toInt8.toInt32) :: st) M Q) : V sd g d y pc ls (.int x :: st) M Q :=
  fun p e s m ar be me c H lo lC h => lv_i2b h.1 h.2.1 hd rfl (k p e s m ar be me c H lo lC h)
theorem V.i2s {x : Int32} (hd : decode y.2.1 pc = .ok (.i2s, 1)) (k : V sd g d y (pc + 1) ls (.int (x.toInt16.toInt32) :: st) M Q) : V sd g d y pc ls (.int x :: st) M Q :=
  fun p e s m ar be me c H lo lC h => lv_i2s h.1 h.2.1 hd rfl (k p e s m ar be me c H lo lC h)
theorem V.i2c {x : Int32} (hd : decode y.2.1 pc = .ok (.i2c, 1)) (k : V sd g d y (pc + 1) ls (.int ((x.toUInt32 % 65536).toInt32) :: st) M Q) : V sd g d y pc ls (.int x :: st) M Q :=
  fun p e s m ar be me c H lo lC h => lv_i2c h.1 h.2.1 hd rfl (k p e s m ar be me c H lo lC h)
theorem V.iushr {x : Int32} {y0 : Int32} (hd : decode y.2.1 pc = .ok (.iushr, 1)) (k : V sd g d y (pc + 1) ls (.int ((x.toUInt32 >>> (y0.toUInt32 &&& Int32.toUInt32 31)).toInt32) :: st) M Q) : V sd g d y pc ls (.int y0 :: .int x :: st) M Q :=
  fun p e s m ar be me c H lo lC h => lv_iushr h.1 h.2.1 hd rfl (k p e s m ar be me c H lo lC h)
theorem V.lushr {x : Int64} {y0 : Int32} (hd : decode y.2.1 pc = .ok (.lushr, 1)) (k : V sd g d y (pc + 1) ls (.long ((x.toUInt64 >>> (y0.toInt64.toUInt64 &&& Int64.toUInt64 63)).toInt64) :: st) M Q) : V sd g d y pc ls (.int y0 :: .long x :: st) M Q :=
  fun p e s m ar be me c H lo lC h => lv_lushr h.1 h.2.1 hd rfl (k p e s m ar be me c H lo lC h)
theorem V.lshl {x : Int64} {y0 : Int32} (hd : decode y.2.1 pc = .ok (.lshl, 1)) (k : V sd g d y (pc + 1) ls (.long (x <<< (y0.toInt64 &&& 63)) :: st) M Q) : V sd g d y pc ls (.int y0 :: .long x :: st) M Q :=
  fun p e s m ar be me c H lo lC h => lv_lshl h.1 h.2.1 hd rfl (k p e s m ar be me c H lo lC h)
theorem V.lshr {x : Int64} {y0 : Int32} (hd : decode y.2.1 pc = .ok (.lshr, 1)) (k : V sd g d y (pc + 1) ls (.long (x >>> (y0.toInt64 &&& 63)) :: st) M Q) : V sd g d y pc ls (.int y0 :: .long x :: st) M Q :=
  fun p e s m ar be me c H lo lC h => lv_lshr h.1 h.2.1 hd rfl (k p e s m ar be me c H lo lC h)
theorem V.if_eq {x : Int32} {off : Int} {tgt : Nat} (hd : decode y.2.1 pc = .ok (.ifCond .eq off, 3)) (ht : (pc : Int) + off = (tgt : Int)) (kt : x = 0 → V sd g d y tgt ls st M Q) (kf : ¬ (x = 0) → V sd g d y (pc + 3) ls st M Q) : V sd g d y pc ls (.int x :: st) M Q :=
  fun p e s m ar be me c H lo lC h => lv_if_eq h.1 h.2.1 hd ht (fun q => kt q p e s m ar be me c H lo lC h) (fun q => kf q p e s m ar be me c H lo lC h)
theorem V.ic_eq {x y0 : Int32} {off : Int} {tgt : Nat} (hd : decode y.2.1 pc = .ok (.if_icmp .eq off, 3)) (ht : (pc : Int) + off = (tgt : Int)) (kt : x = y0 → V sd g d y tgt ls st M Q) (kf : ¬ (x = y0) → V sd g d y (pc + 3) ls st M Q) : V sd g d y pc ls (.int y0 :: .int x :: st) M Q :=
  fun p e s m ar be me c H lo lC h => lv_icmp_eq h.1 h.2.1 hd ht (fun q => kt q p e s m ar be me c H lo lC h) (fun q => kf q p e s m ar be me c H lo lC h)
theorem V.if_ne {x : Int32} {off : Int} {tgt : Nat} (hd : decode y.2.1 pc = .ok (.ifCond .ne off, 3)) (ht : (pc : Int) + off = (tgt : Int)) (kt : ¬ x = 0 → V sd g d y tgt ls st M Q) (kf : x = 0 → V sd g d y (pc + 3) ls st M Q) : V sd g d y pc ls (.int x :: st) M Q :=
  fun p e s m ar be me c H lo lC h => lv_if_ne h.1 h.2.1 hd ht (fun q => kt q p e s m ar be me c H lo lC h) (fun q => kf q p e s m ar be me c H lo lC h)
theorem V.ic_ne {x y0 : Int32} {off : Int} {tgt : Nat} (hd : decode y.2.1 pc = .ok (.if_icmp .ne off, 3)) (ht : (pc : Int) + off = (tgt : Int)) (kt : ¬ x = y0 → V sd g d y tgt ls st M Q) (kf : x = y0 → V sd g d y (pc + 3) ls st M Q) : V sd g d y pc ls (.int y0 :: .int x :: st) M Q :=
  fun p e s m ar be me c H lo lC h => lv_icmp_ne h.1 h.2.1 hd ht (fun q => kt q p e s m ar be me c H lo lC h) (fun q => kf q p e s m ar be me c H lo lC h)
theorem V.if_lt {x : Int32} {off : Int} {tgt : Nat} (hd : decode y.2.1 pc = .ok (.ifCond .lt off, 3)) (ht : (pc : Int) + off = (tgt : Int)) (kt : x < 0 → V sd g d y tgt ls st M Q) (kf : ¬ (x < 0) → V sd g d y (pc + 3) ls st M Q) : V sd g d y pc ls (.int x :: st) M Q :=
  fun p e s m ar be me c H lo lC h => lv_if_lt h.1 h.2.1 hd ht (fun q => kt q p e s m ar be me c H lo lC h) (fun q => kf q p e s m ar be me c H lo lC h)
theorem V.ic_lt {x y0 : Int32} {off : Int} {tgt : Nat} (hd : decode y.2.1 pc = .ok (.if_icmp .lt off, 3)) (ht : (pc : Int) + off = (tgt : Int)) (kt : x < y0 → V sd g d y tgt ls st M Q) (kf : ¬ (x < y0) → V sd g d y (pc + 3) ls st M Q) : V sd g d y pc ls (.int y0 :: .int x :: st) M Q :=
  fun p e s m ar be me c H lo lC h => lv_icmp_lt h.1 h.2.1 hd ht (fun q => kt q p e s m ar be me c H lo lC h) (fun q => kf q p e s m ar be me c H lo lC h)
theorem V.if_ge {x : Int32} {off : Int} {tgt : Nat} (hd : decode y.2.1 pc = .ok (.ifCond .ge off, 3)) (ht : (pc : Int) + off = (tgt : Int)) (kt : 0 ≤ x → V sd g d y tgt ls st M Q) (kf : ¬ (0 ≤ x) → V sd g d y (pc + 3) ls st M Q) : V sd g d y pc ls (.int x :: st) M Q :=
  fun p e s m ar be me c H lo lC h => lv_if_ge h.1 h.2.1 hd ht (fun q => kt q p e s m ar be me c H lo lC h) (fun q => kf q p e s m ar be me c H lo lC h)
theorem V.ic_ge {x y0 : Int32} {off : Int} {tgt : Nat} (hd : decode y.2.1 pc = .ok (.if_icmp .ge off, 3)) (ht : (pc : Int) + off = (tgt : Int)) (kt : y0 ≤ x → V sd g d y tgt ls st M Q) (kf : ¬ (y0 ≤ x) → V sd g d y (pc + 3) ls st M Q) : V sd g d y pc ls (.int y0 :: .int x :: st) M Q :=
  fun p e s m ar be me c H lo lC h => lv_icmp_ge h.1 h.2.1 hd ht (fun q => kt q p e s m ar be me c H lo lC h) (fun q => kf q p e s m ar be me c H lo lC h)
theorem V.if_gt {x : Int32} {off : Int} {tgt : Nat} (hd : decode y.2.1 pc = .ok (.ifCond .gt off, 3)) (ht : (pc : Int) + off = (tgt : Int)) (kt : 0 < x → V sd g d y tgt ls st M Q) (kf : ¬ (0 < x) → V sd g d y (pc + 3) ls st M Q) : V sd g d y pc ls (.int x :: st) M Q :=
  fun p e s m ar be me c H lo lC h => lv_if_gt h.1 h.2.1 hd ht (fun q => kt q p e s m ar be me c H lo lC h) (fun q => kf q p e s m ar be me c H lo lC h)
theorem V.ic_gt {x y0 : Int32} {off : Int} {tgt : Nat} (hd : decode y.2.1 pc = .ok (.if_icmp .gt off, 3)) (ht : (pc : Int) + off = (tgt : Int)) (kt : y0 < x → V sd g d y tgt ls st M Q) (kf : ¬ (y0 < x) → V sd g d y (pc + 3) ls st M Q) : V sd g d y pc ls (.int y0 :: .int x :: st) M Q :=
  fun p e s m ar be me c H lo lC h => lv_icmp_gt h.1 h.2.1 hd ht (fun q => kt q p e s m ar be me c H lo lC h) (fun q => kf q p e s m ar be me c H lo lC h)
theorem V.if_le {x : Int32} {off : Int} {tgt : Nat} (hd : decode y.2.1 pc = .ok (.ifCond .le off, 3)) (ht : (pc : Int) + off = (tgt : Int)) (kt : x ≤ 0 → V sd g d y tgt ls st M Q) (kf : ¬ (x ≤ 0) → V sd g d y (pc + 3) ls st M Q) : V sd g d y pc ls (.int x :: st) M Q :=
  fun p e s m ar be me c H lo lC h => lv_if_le h.1 h.2.1 hd ht (fun q => kt q p e s m ar be me c H lo lC h) (fun q => kf q p e s m ar be me c H lo lC h)
theorem V.ic_le {x y0 : Int32} {off : Int} {tgt : Nat} (hd : decode y.2.1 pc = .ok (.if_icmp .le off, 3)) (ht : (pc : Int) + off = (tgt : Int)) (kt : x ≤ y0 → V sd g d y tgt ls st M Q) (kf : ¬ (x ≤ y0) → V sd g d y (pc + 3) ls st M Q) : V sd g d y pc ls (.int y0 :: .int x :: st) M Q :=
  fun p e s m ar be me c H lo lC h => lv_icmp_le h.1 h.2.1 hd ht (fun q => kt q p e s m ar be me c H lo lC h) (fun q => kf q p e s m ar be me c H lo lC h)
theorem V.goto {off : Int} {tgt : Nat} (hd : decode y.2.1 pc = .ok (.goto off, 3)) (ht : (pc : Int) + off = (tgt : Int)) (k : V sd g d y tgt ls st M Q) : V sd g d y pc ls st M Q :=
  fun p e s m ar be me c H lo lC h => lv_goto h.1 h.2.1 hd ht (k p e s m ar be me c H lo lC h)
theorem V.dup {v : Value} (hd : decode y.2.1 pc = .ok (.dup, 1)) (hc : v.category = 1) (k : V sd g d y (pc + 1) ls (v :: v :: st) M Q) : V sd g d y pc ls (v :: st) M Q :=
  fun p e s m ar be me c H lo lC h => lv_dup h.1 h.2.1 hd (by rw [cvv_cat]; exact hc) (k p e s m ar be me c H lo lC h)
theorem V.dup2 {v w : Value} (hd : decode y.2.1 pc = .ok (.dup2, 1)) (hc : v.category = 1) (hc2 : w.category = 1) (k : V sd g d y (pc + 1) ls (v :: w :: v :: w :: st) M Q) : V sd g d y pc ls (v :: w :: st) M Q :=
  fun p e s m ar be me c H lo lC h => lv_dup2_11 h.1 h.2.1 hd (by rw [cvv_cat]; exact hc) (by rw [cvv_cat]; exact hc2) (k p e s m ar be me c H lo lC h)
theorem V.pop {v : Value} (hd : decode y.2.1 pc = .ok (.pop, 1)) (hc : v.category = 1) (k : V sd g d y (pc + 1) ls st M Q) : V sd g d y pc ls (v :: st) M Q :=
  fun p e s m ar be me c H lo lC h => lv_pop h.1 h.2.1 hd (by rw [cvv_cat]; exact hc) (k p e s m ar be me c H lo lC h)
theorem Cc.sl {p : Program} {s : State} {m : MethodId} {args : Array Value} {meth : Method} {c : Code} {H : Heap} {locs : List Loc} {lC lC' : Array Slot} {ls' : List (Option Value)} (h : Cc sd g y ls M p s m args meth c H locs lC) (hl : Lc g.2.2.1 y.2.2.1 ls' lC') : Cc sd g y ls' M p s m args meth c H locs lC' := by
  obtain ⟨h1, h2, h3, h4, h5, h6, h7, h8, h9, h10, -⟩ := h
  exact ⟨h1, h2, h3, h4, h5, h6, h7, h8, h9, h10, hl⟩
theorem Cc.lc {p : Program} {s : State} {m : MethodId} {args : Array Value} {meth : Method} {c : Code} {H : Heap} {locs : List Loc} {lC : Array Slot} (h : Cc sd g y ls M p s m args meth c H locs lC) : Lc g.2.2.1 y.2.2.1 ls lC := h.2.2.2.2.2.2.2.2.2.2
/-- nothing of two slots stands right ahead of place i -/
def nol (ls : List (Option Value)) (i : Nat) : Prop := ∀ w, ls[i - 1]? = some (some w) → w.category = 1 ∨ i = 0
theorem V.istore_n {k : Fin 4} {i : Nat} {x : Int32} {ls' : List (Option Value)} (hd : decode y.2.1 pc = .ok (.istore_n k, 1)) (hi : (k : Nat) = i) (hn : i < y.2.2.1) (hz : nol ls i) (hl : ls.set i (some (.int x)) = ls') (k : V sd g d y (pc + 1) ls' st M Q) : V sd g d y pc ls (.int x :: st) M Q := by
  subst hl
  exact fun p e s m ar be me c H lo lC h => lv_istore_n h.1 h.2.1 hd hi h.lc.has hn rfl (fun lC' hl' => k p e s m ar be me c H lo lC' (h.sl (h.lc.st1 (l := []) (v := .int x) hz hl')))
theorem V.istore {i : Nat} {x : Int32} {ls' : List (Option Value)} (hd : decode y.2.1 pc = .ok (.istore i, 2)) (hn : i < y.2.2.1) (hz : nol ls i) (hl : ls.set i (some (.int x)) = ls') (k : V sd g d y (pc + 2) ls' st M Q) : V sd g d y pc ls (.int x :: st) M Q := by
  subst hl
  exact fun p e s m ar be me c H lo lC h => lv_istore h.1 h.2.1 hd h.lc.has hn rfl (fun lC' hl' => k p e s m ar be me c H lo lC' (h.sl (h.lc.st1 (l := []) (v := .int x) hz hl')))
theorem V.astore_n {k : Fin 4} {i a : Nat} {ls' : List (Option Value)} (hd : decode y.2.1 pc = .ok (.astore_n k, 1)) (hi : (k : Nat) = i) (hn : i < y.2.2.1) (hz : nol ls i) (hl : ls.set i (some (.ref a)) = ls') (k : V sd g d y (pc + 1) ls' st M Q) : V sd g d y pc ls (.ref a :: st) M Q := by
  subst hl
  exact fun p e s m ar be me c H lo lC h => lv_astore_n h.1 h.2.1 hd hi h.lc.has hn rfl (fun lC' hl' => k p e s m ar be me c H lo lC' (h.sl (h.lc.st1 (l := []) (v := .ref a) hz hl')))
theorem V.astore {i a : Nat} {ls' : List (Option Value)} (hd : decode y.2.1 pc = .ok (.astore i, 2)) (hn : i < y.2.2.1) (hz : nol ls i) (hl : ls.set i (some (.ref a)) = ls') (k : V sd g d y (pc + 2) ls' st M Q) : V sd g d y pc ls (.ref a :: st) M Q := by
  subst hl
  exact fun p e s m ar be me c H lo lC h => lv_astore h.1 h.2.1 hd h.lc.has hn rfl (fun lC' hl' => k p e s m ar be me c H lo lC' (h.sl (h.lc.st1 (l := []) (v := .ref a) hz hl')))
theorem V.lstore {i : Nat} {x : Int64} {ls' : List (Option Value)} (hd : decode y.2.1 pc = .ok (.lstore i, 2)) (hn : i + 1 < y.2.2.1) (hz : nol ls i) (hl : (ls.set i (some (.long x))).set (i + 1) none = ls') (k : V sd g d y (pc + 2) ls' st M Q) : V sd g d y pc ls (.long x :: st) M Q := by
  subst hl
  exact fun p e s m ar be me c H lo lC h => lv_lstore h.1 h.2.1 hd h.lc.has hn rfl (fun lC' hl' => k p e s m ar be me c H lo lC' (h.sl (h.lc.st2 (v := .long x) hz hl')))
theorem V.iinc {i : Nat} {n : Int} {x v : Int32} {ls' : List (Option Value)} (hd : decode y.2.1 pc = .ok (.iinc i n, 3)) (hx : ls[i]? = some (some (.int x))) (hv : x + Int32.ofInt n = v) (hn : i < y.2.2.1) (hz : nol ls i) (hl : ls.set i (some (.int v)) = ls') (k : V sd g d y (pc + 3) ls' st M Q) : V sd g d y pc ls st M Q := by
  subst hl
  intro p e s m ar be me c H lo lC h
  obtain ⟨k0, hk0⟩ := List.getElem?_of_mem (List.mem_map.mpr ⟨(i, .int x), (psl_mem ls 0 i (.int x)).mpr ⟨Nat.zero_le _, hx⟩, rfl⟩ : (i, Value.int x) ∈ ((psl 0 ls).map fun q => (q.1, cvv g.2.2.1 q.2)))
  exact lv_iinc h.1 h.2.1 hd h.lc.has hk0 hv hn rfl (fun lC' hl' => k p e s m ar be me c H lo lC' (h.sl (h.lc.st1 (l := []) (v := .int v) hz hl')))
/-- fewer locals are known -/
def lsub : List (Option Value) → List (Option Value) → Prop
  | [], _ => True
  | none :: t, [] => lsub t []
  | none :: t, _ :: u => lsub t u
  | some _ :: _, [] => False
  | some v :: t, x :: u => x = some v ∧ lsub t u
theorem lsub_get : ∀ {t u : List (Option Value)}, lsub t u → ∀ (i : Nat) (v : Value), t[i]? = some (some v) → u[i]? = some (some v)
  | [], _, _, i, v, h => by simp at h
  | none :: t, [], hs, i, v, h => by
    cases i with
    | zero => simp at h
    | succ i =>
      rw [List.getElem?_cons_succ] at h
      have := lsub_get (t := t) (u := []) hs i v h
      simp at this
  | none :: t, x :: u, hs, i, v, h => by
    cases i with
    | zero => simp at h
    | succ i =>
      rw [List.getElem?_cons_succ] at h ⊢
      exact lsub_get (t := t) (u := u) hs i v h
  | some w :: t, [], hs, i, v, h => hs.elim
  | some w :: t, x :: u, hs, i, v, h => by
    obtain ⟨rfl, hs⟩ := hs
    cases i with
    | zero => simpa using h
    | succ i =>
      rw [List.getElem?_cons_succ] at h ⊢
      exact lsub_get (t := t) (u := u) hs i v h
theorem V.fg {ls' : List (Option Value)} (hs : lsub ls' ls) (k : V sd g d y pc ls' st M Q) : V sd g d y pc ls st M Q :=
  fun p e s m ar be me c H lo lC h => k p e s m ar be me c H lo lC (h.sl ⟨h.lc.1, h.lc.2.1, fun i v hv => h.lc.2.2 i v (lsub_get hs i v hv)⟩)
theorem V.lookup {dflt : Int} {ps : Array (Int × Int)} {len : Nat} {x : Int32} {off : Int} {tgt : Nat} (hd : decode y.2.1 pc = .ok (.lookupswitch dflt ps, len)) (hp : (ps.toList.zip (ps.toList.drop 1)).all (fun (a, next) => a.1 < next.1) = true) (ho : Op.lookupswitch.offset ps.toList dflt x.toInt = off) (ht : (pc : Int) + off = (tgt : Int)) (k : V sd g d y tgt ls st M Q) : V sd g d y pc ls (.int x :: st) M Q :=
  fun p e s m ar be me c H lo lC h => lv_lookup h.1 h.2.1 hd hp ho ht (k p e s m ar be me c H lo lC h)
theorem V.tabOut {dflt l0 hi : Int} {offs : Array Int} {len : Nat} {x : Int32} {tgt : Nat} (hd : decode y.2.1 pc = .ok (.tableswitch dflt l0 hi offs, len)) (hx : x.toInt < l0 ∨ hi < x.toInt) (ht : (pc : Int) + dflt = (tgt : Int)) (k : V sd g d y tgt ls st M Q) : V sd g d y pc ls (.int x :: st) M Q :=
  fun p e s m ar be me c H lo lC h => lv_tableOut h.1 h.2.1 hd hx ht (k p e s m ar be me c H lo lC h)
theorem V.tabIn {dflt l0 hi : Int} {offs : Array Int} {len : Nat} {x : Int32} {off : Int} {tgt : Nat} (hd : decode y.2.1 pc = .ok (.tableswitch dflt l0 hi offs, len)) (h1 : ¬ x.toInt < l0) (h2 : ¬ hi < x.toInt) (ho : offs[(x.toInt - l0).toNat]? = some off) (ht : (pc : Int) + off = (tgt : Int)) (k : V sd g d y tgt ls st M Q) : V sd g d y pc ls (.int x :: st) M Q :=
  fun p e s m ar be me c H lo lC h => lv_tableIn h.1 h.2.1 hd h1 h2 ho ht (k p e s m ar be me c H lo lC h)
/-! fields -/
def fk (a ci j : Nat) : Option Nat := match lay a with
  | .inl o => if o.1 = ci then o.2[j]? else none
  | .inr _ => none
theorem fk_lay {a ci j t : Nat} (h : fk a ci j = some t) : ∃ sk, lay a = .inl (ci, sk) ∧ sk[j]? = some t := by
  unfold fk at h
  cases hl : lay a with
  | inr q => rw [hl] at h; cases h
  | inl o =>
    rw [hl] at h
    obtain ⟨c0, sk⟩ := o
    by_cases hc : c0 = ci
    · subst hc
      exact ⟨sk, rfl, by simpa using h⟩
    · simp [hc] at h
def FL (own : String) (idx ci j : Nat) : Prop := ∃ (C : String) (T : u_T) (N : Nat), vwCl[ci]? = some (C, T, N) ∧ (∀ w ∈ u_ws C T N, w ∈ lwG) ∧ j < N ∧ Cond.fieldLink own idx (T j).1 (T j).2.1 (T j).2.2.1 ∈ lwG
theorem V.get {own : String} {idx ci j a t : Nat} (hd : decode y.2.1 pc = .ok (.getfield idx, 3)) (ho : y.1.cls = own) (hl : FL own idx ci j) (ha : fk a ci j = some t) (hs : inS sd a) (k : V sd g d y (pc + 3) ls (slv t (M a j) :: st) M Q) : V sd g d y pc ls (.ref a :: st) M Q := by
  intro p e s m ar be me c H lo lC h
  obtain ⟨sk, h1, h2⟩ := fk_lay ha
  obtain ⟨C, T, N, q1, q2, q3, q4⟩ := hl
  have hg := wdl_get (g := g) (M := M) hs
  rw [cel_o h1] at hg
  refine va_get h.1 h.2.1 h.2.2.2.2.2.2.1 (fun w hw => wsG_in (q2 w hw)) (ho ▸ h.2.2.2.2.1) h.2.2.2.2.2.2.2.1.1 h.2.2.2.2.2.2.2.2.1 (a - sd.1) hg q1 j q3 (h.2.2.2.2.2.2.1 _ (wsG_in q4)) (fun _ hx => hx) (v := cvv g.2.2.1 (slv t (M a j))) ?_ hd (k p e s m ar be me c H lo lC h)
  rw [List.getElem?_map, slvs_get _ _ _ _ _ h2, Nat.zero_add]
  rfl
theorem V.getI {own : String} {idx ci j a : Nat} (hd : decode y.2.1 pc = .ok (.getfield idx, 3)) (ho : y.1.cls = own) (hl : FL own idx ci j) (ha : fk a ci j = some 0) (hs : inS sd a) (k : V sd g d y (pc + 3) ls (.int (M a j) :: st) M Q) : V sd g d y pc ls (.ref a :: st) M Q := V.get hd ho hl ha hs k
theorem V.getZ {own : String} {idx ci j a : Nat} (hd : decode y.2.1 pc = .ok (.getfield idx, 3)) (ho : y.1.cls = own) (hl : FL own idx ci j) (ha : fk a ci j = some 1) (hs : inS sd a) (k : V sd g d y (pc + 3) ls (.int (M a j) :: st) M Q) : V sd g d y pc ls (.ref a :: st) M Q := V.get hd ho hl ha hs k
theorem V.getR {own : String} {idx ci j a b : Nat} (hd : decode y.2.1 pc = .ok (.getfield idx, 3)) (ho : y.1.cls = own) (hl : FL own idx ci j) (ha : fk a ci j = some (b + 3)) (hs : inS sd a) (k : V sd g d y (pc + 3) ls (.ref b :: st) M Q) : V sd g d y pc ls (.ref a :: st) M Q := V.get hd ho hl ha hs k
theorem V.getS {own : String} {idx ci j a : Nat} (hd : decode y.2.1 pc = .ok (.getfield idx, 3)) (ho : y.1.cls = own) (hl : FL own idx ci j) (ha : fk a ci j = some 2) (hs : inS sd a) (k : V sd g d y (pc + 3) ls (.ref (210 + (M a j).toNatClampNeg) :: st) M Q) : V sd g d y pc ls (.ref a :: st) M Q := V.get hd ho hl ha hs k
def FP (own : String) (idx ci j : Nat) (ty : FieldType) : Prop := ∃ (C : String) (T : u_T) (N : Nat) (ty0 : Nat → FieldType), vwCl[ci]? = some (C, T, N) ∧ (∀ w ∈ u_ws C T N, w ∈ lwG) ∧ (∀ k, k < N → parseFieldDescriptor (T k).2.2.1 = some (ty0 k)) ∧ (∀ a, a < N → ∀ b, b < N → a ≠ b → (T a).2.1 ≠ (T b).2.1) ∧ j < N ∧ Cond.fieldLink own idx (T j).1 (T j).2.1 (T j).2.2.1 ∈ lwG ∧ (T j).2.2.2 = false ∧ ty0 j = ty
theorem V.put {own : String} {idx ci j a t : Nat} {ty : FieldType} {x : Int32} {v : Value} (hd : decode y.2.1 pc = .ok (.putfield idx, 3)) (ho : y.1.cls = own) (hl : FP own idx ci j ty) (ha : fk a ci j = some t) (hs : inS sd a) (hv : slv t x = v) (hn : narrow ty (cvv g.2.2.1 v) = cvv g.2.2.1 v) (hf : fits ty (cvv g.2.2.1 v) = true) (k : V sd g d y (pc + 3) ls st (Jvm.Pilot.@@N@@.put M a j x) Q) : V sd g d y pc ls (v :: .ref a :: st) M Q := by
  intro p e s m ar be me c H lo lC h
  obtain ⟨sk, h1, h2⟩ := fk_lay ha
  obtain ⟨C, T, N, ty0, q1, q2, q3, q4, q5, q6, q7, q8⟩ := hl
  have hg := wdl_get (g := g) (M := M) hs
  rw [cel_o h1] at hg
  have hlen : j < ((slvs sk 0 (M a)).map (cvv g.2.2.1)).length := by
    rw [List.length_map, slvs_len]
    exact (List.getElem?_eq_some_iff.mp h2).1
  refine va_put h.1 h.2.1 h.2.2.2.2.2.2.1 (fun w hw => wsG_in (q2 w hw)) ty0 q3 q4 (ho ▸ h.2.2.2.2.1) h.2.2.2.2.2.2.2.1.1 h.2.2.2.2.2.2.2.2.1 (wdl_D h.2.2.2.2.2.2.2.1.2.1) h.2.2.2.2.2.2.2.2.2.1 (a - sd.1) hg q1 j q5 (h.2.2.2.2.2.2.1 _ (wsG_in q6)) (fun _ hx => hx) q7 (by rw [q3 j q5, q8]) hn hf hlen hd (fun H1 locs1 hP1 hD1 hS1 => ?_)
  have e1 : cel g (um M a (upd (M a) j x)) a = .inr (ci, ((slvs sk 0 (M a)).map (cvv g.2.2.1)).set j (cvv g.2.2.1 v)) := by
    rw [cel_o h1, um_s, ← List.map_set, ← hv, slvs_set _ _ _ _ _ _ h2, Nat.zero_add]
  rw [wdl_set hs e1, put_um] at hP1
  obtain ⟨g1, g2, g3, g4, g5, g6, g7, g8, -, -, g11⟩ := h
  exact k p e s m ar be me c H1 locs1 lC ⟨g1, g2, g3, g4, g5, g6, g7, g8, hP1, hS1, g11⟩
theorem V.putI {own : String} {idx ci j a : Nat} {x : Int32} (hd : decode y.2.1 pc = .ok (.putfield idx, 3)) (ho : y.1.cls = own) (hl : FP own idx ci j .int) (ha : fk a ci j = some 0) (hs : inS sd a) (k : V sd g d y (pc + 3) ls st (Jvm.Pilot.@@N@@.put M a j x) Q) : V sd g d y pc ls (.int x :: .ref a :: st) M Q := V.put hd ho hl ha hs rfl rfl rfl k
theorem V.putZ {own : String} {idx ci j a : Nat} {x : Int32} (hd : decode y.2.1 pc = .ok (.putfield idx, 3)) (ho : y.1.cls = own) (hl : FP own idx ci j .boolean) (ha : fk a ci j = some 1) (hs : inS sd a) (hx : x = 0 ∨ x = 1) (k : V sd g d y (pc + 3) ls st (Jvm.Pilot.@@N@@.put M a j x) Q) : V sd g d y pc ls (.int x :: .ref a :: st) M Q := V.put (t := 1) hd ho hl ha hs rfl (by rcases hx with rfl | rfl <;> rfl) (by rcases hx with rfl | rfl <;> rfl) k
theorem V.putS {own : String} {idx ci j a q : Nat} (hd : decode y.2.1 pc = .ok (.putfield idx, 3)) (ho : y.1.cls = own) (hl : FP own idx ci j (.object "java/lang/String")) (ha : fk a ci j = some 2) (hs : inS sd a) (hq : q < 4) (k : V sd g d y (pc + 3) ls st (Jvm.Pilot.@@N@@.put M a j (nI q)) Q) : V sd g d y pc ls (.ref (210 + q) :: .ref a :: st) M Q := V.put (x := nI q) hd ho hl ha hs (by show Value.ref _ = _; rw [nI_clamp (by omega)]) rfl rfl k
/-! arrays -/
theorem Cc.mem {p : Program} {s : State} {m : MethodId} {args : Array Value} {meth : Method} {c : Code} {H H1 : Heap} {locs locs1 : List Loc} {lC : Array Slot} {M' : Mem} (h : Cc sd g y ls M p s m args meth c H locs lC) (hP : va_P g.2.1 vwCl (wdl sd g M') H1) (hS : va_S (AA sd g) s.heap H1 locs1) : Cc sd g y ls M' p s m args meth c H1 locs1 lC := by
  obtain ⟨g1, g2, g3, g4, g5, g6, g7, g8, -, -, g11⟩ := h
  exact ⟨g1, g2, g3, g4, g5, g6, g7, g8, hP, hS, g11⟩
theorem V.iald {a n b : Nat} {i : Int32} (hd : decode y.2.1 pc = .ok (.iaload, 1)) (ha : lay a = .inr (0, n, b)) (hs : inS sd a) (hi : vp_in i n) (k : V sd g d y (pc + 1) ls (.int (M a i.toNatClampNeg) :: st) M Q) : V sd g d y pc ls (.int i :: .ref a :: st) M Q := by
  intro p e s m ar be me c H lo lC h
  have hg := wdl_get (g := g) (M := M) hs
  rw [cel_a ha (by decide)] at hg
  exact va_iald h.1 h.2.1 h.2.2.2.2.2.2.2.1.1 h.2.2.2.2.2.2.2.2.1 (a - sd.1) 0 hg rfl hi hd (k p e s m ar be me c H lo lC h)
theorem V.zald {a n b : Nat} {i : Int32} (hd : decode y.2.1 pc = .ok (.baload, 1)) (ha : lay a = .inr (1, n, b)) (hs : inS sd a) (hi : vp_in i n) (k : V sd g d y (pc + 1) ls (.int (M a i.toNatClampNeg) :: st) M Q) : V sd g d y pc ls (.int i :: .ref a :: st) M Q := by
  intro p e s m ar be me c H lo lC h
  have hg := wdl_get (g := g) (M := M) hs
  rw [cel_a ha (by decide)] at hg
  exact va_zald h.1 h.2.1 h.2.2.2.2.2.2.2.1.1 h.2.2.2.2.2.2.2.2.1 (a - sd.1) 1 hg rfl hi hd (k p e s m ar be me c H lo lC h)
theorem V.iast {a n b : Nat} {i x : Int32} (hd : decode y.2.1 pc = .ok (.iastore, 1)) (ha : lay a = .inr (0, n, b)) (hs : inS sd a) (hi : vp_in i n) (k : V sd g d y (pc + 1) ls st (Jvm.Pilot.@@N@@.put M a i.toNatClampNeg x) Q) : V sd g d y pc ls (.int x :: .int i :: .ref a :: st) M Q := by
  intro p e s m ar be me c H lo lC h
  have hg := wdl_get (g := g) (M := M) hs
  rw [cel_a ha (by decide)] at hg
  refine va_iast h.1 h.2.1 h.2.2.2.2.2.2.2.1.1 h.2.2.2.2.2.2.2.2.1 (wdl_D h.2.2.2.2.2.2.2.1.2.1) h.2.2.2.2.2.2.2.2.2.1 (a - sd.1) 0 hg rfl hi hd (fun H1 locs1 hP1 hD1 hS1 => ?_)
  have e1 : cel g (um M a (upd (M a) i.toNatClampNeg x)) a = .inl (g.2.2.2 0, n, .inl (upd (M a) i.toNatClampNeg x)) := by rw [cel_a ha (by decide), um_s]
  rw [wdl_set hs e1, put_um] at hP1
  exact k p e s m ar be me c H1 locs1 lC (h.mem hP1 hS1)
theorem V.zast {a n b : Nat} {i x : Int32} (hd : decode y.2.1 pc = .ok (.bastore, 1)) (ha : lay a = .inr (1, n, b)) (hs : inS sd a) (hi : vp_in i n) (hx : x = 0 ∨ x = 1) (k : V sd g d y (pc + 1) ls st (Jvm.Pilot.@@N@@.put M a i.toNatClampNeg x) Q) : V sd g d y pc ls (.int x :: .int i :: .ref a :: st) M Q := by
  intro p e s m ar be me c H lo lC h
  have hg := wdl_get (g := g) (M := M) hs
  rw [cel_a ha (by decide)] at hg
  refine va_zast h.1 h.2.1 h.2.2.2.2.2.2.2.1.1 h.2.2.2.2.2.2.2.2.1 (wdl_D h.2.2.2.2.2.2.2.1.2.1) h.2.2.2.2.2.2.2.2.2.1 (a - sd.1) 1 hg rfl hi hd (fun H1 locs1 hP1 hD1 hS1 => ?_)
  have hnx : vp_nar .boolean x = x := by rcases hx with rfl | rfl <;> rfl
  rw [hnx] at hP1
  have e1 : cel g (um M a (upd (M a) i.toNatClampNeg x)) a = .inl (g.2.2.2 1, n, .inl (upd (M a) i.toNatClampNeg x)) := by rw [cel_a ha (by decide), um_s]
  rw [wdl_set hs e1, put_um] at hP1
  exact k p e s m ar be me c H1 locs1 lC (h.mem hP1 hS1)
theorem V.alen {a t n b : Nat} (hd : decode y.2.1 pc = .ok (.arraylength, 1)) (ha : lay a = .inr (t, n, b)) (ht : t ≤ 1) (hs : inS sd a) (k : V sd g d y (pc + 1) ls (.int (nI n) :: st) M Q) : V sd g d y pc ls (.ref a :: st) M Q := by
  intro p e s m ar be me c H lo lC h
  have hg := wdl_get (g := g) (M := M) hs
  rw [cel_a ha ht] at hg
  have ht' : ∃ ty, (tysG g)[t]? = some (g.2.2.2 t, ty) := by
    rcases (show t = 0 ∨ t = 1 by omega) with rfl | rfl
    · exact ⟨_, rfl⟩
    · exact ⟨_, rfl⟩
  obtain ⟨ty, hty⟩ := ht'
  exact va_alen h.1 h.2.1 h.2.2.2.2.2.2.2.1.1 h.2.2.2.2.2.2.2.2.1 (a - sd.1) t hg hty rfl hd (k p e s m ar be me c H lo lC h)
theorem V.aaldB {a n b : Nat} {i : Int32} (hd : decode y.2.1 pc = .ok (.aaload, 1)) (ha : lay a = .inr (2, n, b)) (hs : inS sd a) (hi : vp_in i n) (k : V sd g d y (pc + 1) ls (.ref (b + i.toNatClampNeg) :: st) M Q) : V sd g d y pc ls (.int i :: .ref a :: st) M Q := by
  intro p e s m ar be me c H lo lC h
  have hg := wdl_get (g := g) (M := M) hs
  rw [cel_q ha (by decide)] at hg
  exact va_aldq h.1 h.2.1 h.2.2.2.2.2.2.2.1.1 h.2.2.2.2.2.2.2.2.1 (a - sd.1) 2 hg rfl hi hd (k p e s m ar be me c H lo lC h)
theorem V.aaldI {a n b : Nat} {i : Int32} (hd : decode y.2.1 pc = .ok (.aaload, 1)) (ha : lay a = .inr (3, n, b)) (hs : inS sd a) (hi : vp_in i n) (k : V sd g d y (pc + 1) ls (.ref (b + i.toNatClampNeg) :: st) M Q) : V sd g d y pc ls (.int i :: .ref a :: st) M Q := by
  intro p e s m ar be me c H lo lC h
  have hg := wdl_get (g := g) (M := M) hs
  rw [cel_q ha (by decide)] at hg
  have hlt : i.toNatClampNeg < n := Nat.not_le.mp fun q => hi (Or.inr q)
  have hA := (h.2.2.2.2.2.2.2.1.1.2 3 (g.2.2.2 3, .array .int) rfl).1 n (fun j => va_rf (some (g.2.2.1 (b + j))))
  exact W.aald (v := .ref (g.2.2.1 (b + i.toNatClampNeg))) (ty := .array .int) h.1 h.2.1 (h.2.2.2.2.2.2.2.2.1 _ _ hg) hA rfl (fun q => by cases q) (by show ¬ (i < 0 ∨ (arrV _ _ _).slots.size ≤ _); rw [arrV_size]; exact hi) (by show (arrV _ _ _).slots[_]? = _; rw [arrV_read _ _ hlt]; rfl) rfl rfl hd (k p e s m ar be me c H lo lC h)
/-! statics -/
theorem V.gets {own C n : String} {idx j : Nat} {l : List Int32} (hd : decode y.2.1 pc = .ok (.getstatic idx, 3)) (ho : y.1.cls = own) (hj : saT[j]? = some (C, n, l)) (hw : Cond.fieldLink own idx C n "[I" ∈ lwG) (k : V sd g d y (pc + 3) ls (.ref (200 + j) :: st) M Q) : V sd g d y pc ls st M Q :=
  fun p e s m ar be me c H lo lC h => va_gets h.1 h.2.1 (h.2.2.2.2.2.2.2.1.2.2.1 j _ hj).1 h.2.2.2.2.2.2.2.2.2.1 (ho ▸ h.2.2.2.2.1) (h.2.2.2.2.2.2.1 _ (wsG_in hw)) (fun _ hx => hx) hd (k p e s m ar be me c H lo lC h)
theorem V.getsN {own C n host : String} {idx j : Nat} {l : List Int32} (hd : decode y.2.1 pc = .ok (.getstatic idx, 3)) (ho : y.1.cls = own) (hj : saT[j]? = some (C, n, l)) (hw : (own, idx, C, n, "[I", host) ∈ nwF) (k : V sd g d y (pc + 3) ls (.ref (200 + j) :: st) M Q) : V sd g d y pc ls st M Q :=
  fun p e s m ar be me c H lo lC h => va_getsN h.1 h.2.1 (h.2.2.2.2.2.2.2.1.2.2.1 j _ hj).1 h.2.2.2.2.2.2.2.2.2.1 (ho ▸ h.2.2.2.2.1) (va_Nw.use rfl (h.2.2.2.2.2.2.2.1.2.2.2.2.2.2.1 _ hw)) (fun _ hx => hx) hd (k p e s m ar be me c H lo lC h)
theorem V.iaTb {C n : String} {j : Nat} {l : List Int32} {i : Int32} (hd : decode y.2.1 pc = .ok (.iaload, 1)) (hj : saT[j]? = some (C, n, l)) (hi : vp_in i l.length) (k : V sd g d y (pc + 1) ls (.int (l.getD i.toNatClampNeg 0) :: st) M Q) : V sd g d y pc ls (.int i :: .ref (200 + j) :: st) M Q :=
  fun p e s m ar be me c H lo lC h => va_ti h.1 h.2.1 (h.2.2.2.2.2.2.2.1.2.2.1 j _ hj).2 h.2.2.2.2.2.2.2.2.2.1 hi rfl hd (k p e s m ar be me c H lo lC h)
/-! returns -/
theorem V.ret {x : Int32} (hd : decode y.2.1 pc = .ok (.ireturn, 1)) (hr : y.2.2.2 = some .int) (hq : Q (some (.int x)) M) : V sd g d y pc ls [.int x] M Q :=
  fun p e s m ar be me c H lo lC h => W.iret h.1 h.2.1 (h.2.2.1.trans hr) (fun t ht hW => ⟨some (.int x), M, rfl, hq, by rw [ht]; exact h.2.2.2.2.2.2.2.2.1, h.2.2.2.2.2.2.2.2.2.1.F ht⟩) h.2.2.2.2.2.2.2.2.2.1.2.2 hd (hlocks := h.2.2.2.2.2.1)
theorem V.zret {x : Int32} (hd : decode y.2.1 pc = .ok (.ireturn, 1)) (hr : y.2.2.2 = some .boolean) (hx : x = 0 ∨ x = 1) (hq : Q (some (.int x)) M) : V sd g d y pc ls [.int x] M Q :=
  fun p e s m ar be me c H lo lC h => W.zret h.1 h.2.1 (h.2.2.1.trans hr) (by rcases hx with rfl | rfl <;> rfl) (fun t ht hW => ⟨some (.int x), M, rfl, hq, by rw [ht]; exact h.2.2.2.2.2.2.2.2.1, h.2.2.2.2.2.2.2.2.2.1.F ht⟩) h.2.2.2.2.2.2.2.2.2.1.2.2 hd (hlocks := h.2.2.2.2.2.1)
theorem V.lret {x : Int64} (hd : decode y.2.1 pc = .ok (.lreturn, 1)) (hr : y.2.2.2 = some .long) (hq : Q (some (.long x)) M) : V sd g d y pc ls [.long x] M Q :=
  fun p e s m ar be me c H lo lC h => W.lret h.1 h.2.1 (h.2.2.1.trans hr) (fun t ht hW => ⟨some (.long x), M, rfl, hq, by rw [ht]; exact h.2.2.2.2.2.2.2.2.1, h.2.2.2.2.2.2.2.2.2.1.F ht⟩) h.2.2.2.2.2.2.2.2.2.1.2.2 hd (hlocks := h.2.2.2.2.2.1)
theorem V.vret (hd : decode y.2.1 pc = .ok (.return_, 1)) (hr : y.2.2.2 = none) (hq : Q none M) : V sd g d y pc ls [] M Q :=
  fun p e s m ar be me c H lo lC h => W.vret h.1 h.2.1 (h.2.2.1.trans hr) (fun t ht hW => ⟨none, M, rfl, hq, by rw [ht]; exact h.2.2.2.2.2.2.2.2.1, h.2.2.2.2.2.2.2.2.2.1.F ht⟩) h.2.2.2.2.2.2.2.2.2.1.2.2 hd (hlocks := h.2.2.2.2.2.1)
/-! calls -/
end VR
def entL : List Value → List (Option Value)
  | [] => []
  | v :: t => match v.category with
    | 2 => some v :: none :: entL t
    | _ => some v :: entL t
section VC
variable {sd : Nat × Nat} {g : GG} {d : Nat} {y : XM} {pc : Nat} {ls : List (Option Value)} {st : List Value} {M : Mem} {Q : Option Value → Mem → Prop}
theorem entL_2 {v : Value} {t : List Value} (h : v.category = 2) : entL (v :: t) = some v :: none :: entL t := by rw [entL, h]; rfl
theorem entL_1 {v : Value} {t : List Value} (h : ¬ v.category = 2) : entL (v :: t) = some v :: entL t := by
  rcases lv_cat v with h1 | h1
  · rw [entL, h1]; rfl
  · exact absurd h1 h
theorem entL_len (ad : Nat → Nat) : ∀ vs : List Value, (lg_sl (vs.map (cvv ad))).length = (entL vs).length
  | [] => rfl
  | v :: t => by
    have ih := entL_len ad t
    unfold lg_sl at ih ⊢
    rw [List.map_cons, List.flatMap_cons, List.length_append, ih, cvv_cat]
    by_cases h : v.category = 2
    · rw [entL_2 h, if_pos h]; simp; omega
    · rw [entL_1 h, if_neg h]; simp; omega
theorem entL_mem (ad : Nat → Nat) : ∀ (vs : List Value) (k i : Nat) (v : Value), (entL vs)[i]? = some (some v) → (k + i, cvv ad v) ∈ lv_args k (vs.map (cvv ad))
  | [], k, i, v, h => by simp [entL] at h
  | w :: t, k, i, v, h => by
    rw [List.map_cons, lv_args, cvv_cat]
    by_cases hw : w.category = 2
    · rw [entL_2 hw] at h
      match i, h with
      | 0, h => simp at h; subst h; exact List.mem_cons_self
      | 1, h => simp at h
      | i + 2, h =>
        rw [List.getElem?_cons_succ, List.getElem?_cons_succ] at h
        have := entL_mem ad t (k + 2) i v h
        refine List.mem_cons_of_mem _ ?_
        rw [if_pos hw, show k + (i + 2) = k + 2 + i by omega]
        exact this
    · rw [entL_1 hw] at h
      match i, h with
      | 0, h => simp at h; subst h; exact List.mem_cons_self
      | i + 1, h =>
        rw [List.getElem?_cons_succ] at h
        have := entL_mem ad t (k + 1) i v h
        refine List.mem_cons_of_mem _ ?_
        rw [if_neg hw, show k + (i + 1) = k + 1 + i by omega]
        exact this
/-- the locals at a method's start -/
def ent (n : Nat) (vs : List Value) : List (Option Value) := entL vs ++ List.replicate (n - (entL vs).length) none
theorem ent_mem {ad : Nat → Nat} {n : Nat} {vs : List Value} {i : Nat} {v : Value} (h : (ent n vs)[i]? = some (some v)) : (i, cvv ad v) ∈ lv_args 0 (vs.map (cvv ad)) := by
  unfold ent at h
  by_cases hi : i < (entL vs).length
  · rw [List.getElem?_append_left hi] at h
    have := entL_mem ad vs 0 i v h
    rw [Nat.zero_add] at this
    exact this
  · rw [List.getElem?_append_right (by omega), List.getElem?_replicate] at h
    split at h <;> cases h
def PG (sd : Nat × Nat) (g : GG) (av : List Value) (M : Mem) : Array Value → State → Prop := fun a U => a = (av.map (cvv g.2.2.1)).toArray ∧ va_P g.2.1 vwCl (wdl sd g M) U.heap ∧ Cx sd g U
theorem PG_blind {av : List Value} : FrameBlind (PG sd g av M) := fun a U g' mk h => ⟨h.1, h.2.1, h.2.2.same rfl rfl⟩
/-- a method's contract out of V at its start -/
theorem V.met {av : List Value} {ls0 : List (Option Value)} (hz : MOK y) (hl : ent y.2.2.1 av = ls0) (hn : (entL av).length ≤ y.2.2.1) (h : V sd g d y 0 ls0 [] M Q) : Met g.1 y.1 (wsG y) (rmG d) (PG sd g av M) (QG sd g Q) 0 0 (AA sd g) := by
  refine Met.ofW (cc := y.2.1) (maxL := y.2.2.1) (ret := y.2.2.2) hz.2.2.2.1 rfl ?_
  intro p e s m args below meth c s₁ B hml hv
  obtain ⟨rfl, hP, hC⟩ := hv
  rw [lg_entry_eq]
  have hen := lv_entry (av.map (cvv g.2.2.1)) (n := y.2.2.1) (by rw [entL_len]; exact hn)
  refine h p e s m _ below meth c s.heap [] _ ⟨B.exec, B.bytes, B.returns, hml, findClass_of_methodNamed B.named, B.notSynchronized, atoms_spec (ws := wsG y) B.pre, hC, hP, va_S.rf, ?_⟩
  refine ⟨hen.1, hen.2.1, fun i v hi => ?_⟩
  rw [← hl] at hi
  exact hen.2.2 _ (ent_mem hi)
def rst : Option Value → List Value → List Value
  | none, st => st
  | some v, st => v :: st
theorem V.after {Qz : Option Value → Mem → Prop} {d1 : Nat} {p : Program} {e : Env} {s : State} {m : MethodId} {args a : Array Value} {below : List Frame} {meth : Method} {c : Code} {H : Heap} {locs : List Loc} {lC : Array Slot} {st0 : List Value}
    (h : Cc sd g y ls M p s m args meth c H locs lC) (hr : va_Run p g.1 e (rmG d1) s m args below meth c H locs 0 0 0 0 (F0 m pc lC st0) (st.map (cvv g.2.2.1)) (QG sd g Qz a) (AA sd g))
    (k : ∀ (r : Option Value) (M' : Mem), Qz r M' → V sd g d1 y (pc + 3) ls (rst r st) M' Q) : W p g.1 e (rmG d1) s m args below meth c H locs 0 0 (MQ below (QG sd g Q) args s 0 0 (AA sd g)) (F0 m pc lC st0) := by
  intro T hT X
  obtain ⟨v, st₀, t, T', L, h0, X', hL, e1, e2, ⟨r, M', ho, hq, hP, hz, hk⟩, stp⟩ := hr T hT X
  have hv : v = r.map (cvv g.2.2.1) := by injection ho
  subst hv
  rw [h0] at hz hk
  have hS := h.2.2.2.2.2.2.2.2.2.1
  have hS' : va_S (AA sd g) s.heap T'.heap (locs ++ L) := by
    refine ⟨Nat.le_trans hS.1 (by rw [e1]; exact hz), fun q h1 h2 => ?_, fun q hq => ?_⟩
    · rw [e1, hk q (Nat.lt_of_lt_of_le h1 hS.1) h2]
      exact hS.2.1 q h1 h2
    · rcases List.mem_append.mp hq with h1 | h1
      · exact hS.2.2 q h1
      · exact hL q h1
  have hst : (r.map (cvv g.2.2.1)).toList ++ st.map (cvv g.2.2.1) = (rst r st).map (cvv g.2.2.1) := by cases r <;> rfl
  obtain ⟨t2, a1, b1⟩ := k r M' hq p e s m args below meth c T'.heap (locs ++ L) lC (h.mem (by rw [e1]; exact hP) hS') T' rfl X'
  rw [← hst] at a1
  exact ⟨t2, stp t2 a1, b1⟩
theorem Cc.pre {p : Program} {s : State} {m : MethodId} {args : Array Value} {meth : Method} {c : Code} {H : Heap} {locs : List Loc} {lC : Array Slot} (h : Cc sd g y ls M p s m args meth c H locs lC) (av : List Value) : ∀ U : State, U.heap = H → s.WarmedH U.vm → PG sd g av M (av.map (cvv g.2.2.1)).toArray U :=
  fun U hU hW => ⟨rfl, by rw [hU]; exact h.2.2.2.2.2.2.2.2.1, h.2.2.2.2.2.2.2.1.go h.2.2.2.2.2.2.2.2.2.1 hU hW⟩
theorem V.rm {z : XM} (hz : MOK z) : (rmG d).frames + 1 ≤ (rmG (d + 1)).frames ∧ 8 + (z.2.2.1 + 11) + (rmG d).locals ≤ (rmG (d + 1)).locals := by
  have := hz.2.2.2.2
  refine ⟨Nat.le_refl _, ?_⟩
  show 8 + (z.2.2.1 + 11) + 60 * d ≤ 60 * (d + 1)
  omega
abbrev np (z : XM) (n : Nat) : Prop := (parseMethodDescriptor z.1.desc).map (fun d => d.parameters.length) = some n
def stS (st : List Value) : Nat := (st.map fun v => v.category).sum
theorem stS_cv (ad : Nat → Nat) (st : List Value) : ((st.map (cvv ad)).map fun v => v.category).sum = stS st := by
  unfold stS
  rw [List.map_map]
  congr 1
  exact List.map_congr_left fun v _ => cvv_cat ad v
/-- an instance method -/
def MV (z : XM) : Prop := MOK z ∧ Cond.instanceMethod z.1 ∈ lwG ∧ Cond.selects z.1.cls z.1 z.1 ∈ lwG
/-- a static method -/
def MS (z : XM) : Prop := MOK z ∧ Cond.static z.1 ∈ lwG
theorem V.invv {z : XM} {own : String} {idx b n ci : Nat} {sk : List Nat} {As : List Value} {ls0 : List (Option Value)} {T : u_T} {N : Nat} (hd : decode y.2.1 pc = .ok (.invokevirtual idx, 3)) (ho : y.1.cls = own) (hw : Cond.methodLink own idx z.1 ∈ lwG) (hz : MV z) (hn : np z n) (hl : As.length = n) (hb : lay b = .inl (ci, sk)) (hc : vwCl[ci]? = some (z.1.cls, T, N)) (hs : inS sd b) (hst : stS st ≤ 8) (h0 : ent z.2.2.1 (.ref b :: As) = ls0) (hlen : (entL (.ref b :: As)).length ≤ z.2.2.1)
    (k : V sd g d z 0 ls0 [] M (fun r M' => V sd g (d + 1) y (pc + 3) ls (rst r st) M' Q)) : V sd g (d + 1) y pc ls (As.reverse ++ .ref b :: st) M Q := by
  subst ho
  intro p e s m ar be me c H lo lC h
  have hg := wdl_get (g := g) (M := M) hs
  rw [cel_o hb] at hg
  have ht := h.2.2.2.2.2.2.1
  refine V.after h (va_runV (As := As.map (cvv g.2.2.1)) (rest := st.map (cvv g.2.2.1)) ⟨h.1, h.2.1, h.2.2.2.1, h.2.2.2.2.1, ht⟩ (k.met (av := .ref b :: As) hz.1 h0 hlen)
    ⟨callB_of n ht (wsG_good hz.1) rfl rfl rfl (ht _ (wsG_in hz.1.2.1)) (ht _ (wsG_in hw)) ⟨hz.1.2.2.1.1, hz.1.2.2.1.2, hn⟩ (V.rm hz.1), ht _ (wsG_in hz.2.1), ht _ (wsG_in hz.2.2)⟩
    ⟨PG_blind, va_recv h.2.2.2.2.2.2.2.1.1 h.2.2.2.2.2.2.2.2.1 hc hg, h.pre (.ref b :: As)⟩ rfl (by rw [List.length_map]; exact hl) h.lc.1 (by simp [cvv]) (lv_room (by rw [stS_cv]; exact hst)) hd ⟨Nat.le_refl _, Nat.le_refl _⟩) (fun r M' h => h)
theorem V.invs {z : XM} {own : String} {idx n : Nat} {As : List Value} {ls0 : List (Option Value)} (hd : decode y.2.1 pc = .ok (.invokestatic idx, 3)) (ho : y.1.cls = own) (hw : Cond.methodLink own idx z.1 ∈ lwG) (hz : MS z) (hn : np z n) (hl : As.length = n) (hst : stS st ≤ 8) (h0 : ent z.2.2.1 As = ls0) (hlen : (entL As).length ≤ z.2.2.1)
    (k : V sd g d z 0 ls0 [] M (fun r M' => V sd g (d + 1) y (pc + 3) ls (rst r st) M' Q)) : V sd g (d + 1) y pc ls (As.reverse ++ st) M Q := by
  subst ho
  intro p e s m ar be me c H lo lC h
  have ht := h.2.2.2.2.2.2.1
  refine V.after h (va_runS (As := As.map (cvv g.2.2.1)) (rest := st.map (cvv g.2.2.1)) ⟨h.1, h.2.1, h.2.2.2.1, h.2.2.2.2.1, ht⟩ (k.met (av := As) hz.1 h0 hlen)
    ⟨callB_of n ht (wsG_good hz.1) rfl rfl rfl (ht _ (wsG_in hz.1.2.1)) (ht _ (wsG_in hw)) ⟨hz.1.2.2.1.1, hz.1.2.2.1.2, hn⟩ (V.rm hz.1), ht _ (wsG_in hz.2)⟩
    ⟨PG_blind, h.pre As⟩ rfl (by rw [List.length_map]; exact hl) h.lc.1 (by simp) (lv_room (by rw [stS_cv]; exact hst)) hd ⟨Nat.le_refl _, Nat.le_refl _⟩) (fun r M' h => h)
theorem V.invsN {z : XM} {own host : String} {idx n : Nat} {As : List Value} {ls0 : List (Option Value)} (hd : decode y.2.1 pc = .ok (.invokestatic idx, 3)) (ho : y.1.cls = own) (hw : (own, idx, z.1, host) ∈ nwM) (hz : MS z) (hn : np z n) (hl : As.length = n) (hst : stS st ≤ 8) (h0 : ent z.2.2.1 As = ls0) (hlen : (entL As).length ≤ z.2.2.1)
    (k : V sd g d z 0 ls0 [] M (fun r M' => V sd g (d + 1) y (pc + 3) ls (rst r st) M' Q)) : V sd g (d + 1) y pc ls (As.reverse ++ st) M Q := by
  subst ho
  intro p e s m ar be me c H lo lC h
  have ht := h.2.2.2.2.2.2.1
  refine V.after h (va_runSN (host := host) (As := As.map (cvv g.2.2.1)) (rest := st.map (cvv g.2.2.1)) ⟨h.1, h.2.1, h.2.2.2.1, h.2.2.2.2.1, ht⟩ (k.met (av := As) hz.1 h0 hlen)
    ⟨va_cnB n ht (wsG_good hz.1) rfl rfl rfl (h.2.2.2.2.2.2.2.1.2.2.2.2.2.2.2 _ hw) (ht _ (wsG_in hz.1.2.1)) ⟨hz.1.2.2.1.1, hz.1.2.2.1.2, hn⟩ (V.rm hz.1), ht _ (wsG_in hz.2), trivial⟩
    ⟨PG_blind, h.pre As⟩ rfl (by rw [List.length_map]; exact hl) h.lc.1 (by simp) (lv_room (by rw [stS_cv]; exact hst)) hd ⟨Nat.le_refl _, Nat.le_refl _⟩) (fun r M' h => h)
theorem V.copy {own : String} {idx a a0 n0 n1 b0 b1 : Nat} {sp dp n : Int32} (hd : decode y.2.1 pc = .ok (.invokestatic idx, 3)) (ho : y.1.cls = own) (hw : Cond.methodLink own idx arraycopyName ∈ lwG) (h1 : Cond.native arraycopyName ∈ lwG) (h2 : Cond.static arraycopyName ∈ lwG) (h3 : Cond.initialized "java/lang/System" ∈ lwG)
    (ha0 : lay a0 = .inr (0, n0, b0)) (hs0 : inS sd a0) (ha : lay a = .inr (0, n1, b1)) (hs : inS sd a) (c1 : ¬ sp < 0) (c2 : ¬ dp < 0) (c3 : ¬ n < 0) (c4 : sp.toNatClampNeg + n.toNatClampNeg ≤ n0) (c5 : dp.toNatClampNeg + n.toNatClampNeg ≤ n1) (hst : stS st ≤ 8)
    (k : V sd g (d + 1) y (pc + 3) ls st (um M a (va_cpy (M a0) (M a) sp.toNatClampNeg dp.toNatClampNeg n.toNatClampNeg)) Q) : V sd g (d + 1) y pc ls (.int n :: .int dp :: .ref a :: .int sp :: .ref a0 :: st) M Q := by
  subst ho
  intro p e s m ar be me c H lo lC h
  have ht := h.2.2.2.2.2.2.1
  have hg := wdl_get (g := g) (M := M) hs
  rw [cel_a ha (by decide)] at hg
  have hg0 := wdl_get (g := g) (M := M) hs0
  rw [cel_a ha0 (by decide)] at hg0
  refine va_copyi h.1 h.2.1 (by rw [h.2.2.2.1, h.lc.1]) h.2.2.2.2.1 (ht _ (wsG_in hw)) (ht _ (wsG_in h1)) (ht _ (wsG_in h2)) (ht _ (wsG_in h3)) h.2.2.2.2.2.2.2.1.1 h.2.2.2.2.2.2.2.2.1 (wdl_D h.2.2.2.2.2.2.2.1.2.1) h.2.2.2.2.2.2.2.2.2.1 (a0 - sd.1) (a - sd.1) 0 0 hg0 hg rfl rfl rfl c1 c2 c3 c4 c5 (fun _ _ => rfl) (Nat.succ_le_succ (Nat.zero_le _)) ?_ hd (fun H1 locs1 hP1 hD1 hS1 => ?_)
  · rw [stS_cv]
    show stS st + (nativeFrameWords "java/lang/System" "arraycopy" 5 + 11) ≤ 60 * (d + 1)
    have : nativeFrameWords "java/lang/System" "arraycopy" 5 ≤ 20 := by decide +kernel
    omega
  · have e1 : cel g (um M a (va_cpy (M a0) (M a) sp.toNatClampNeg dp.toNatClampNeg n.toNatClampNeg)) a = .inl (g.2.2.2 0, n1, .inl (va_cpy (M a0) (M a) sp.toNatClampNeg dp.toNatClampNeg n.toNatClampNeg)) := by rw [cel_a ha (by decide), um_s]
    rw [wdl_set hs e1] at hP1
    exact k p e s m ar be me c H1 locs1 lC (h.mem hP1 hS1)
end VC
