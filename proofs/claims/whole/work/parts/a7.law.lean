/-! ===== the law: the skeleton's words (kit/laws/SKELETON.whole) ===== -/
def R_law : String := "OneBreathLaw"
def lw_P (b : Addr) (xs : List Int32) (args : Array Value) (s : State) : Prop := args = #[.ref b] ∧ s.IntsAt b xs ∧ xs.length ≤ 384 ∧ (Jvm.Cond.and given_1 narrow_1).before args s = true
def lw_Q (_ : Array Value) (s : State) (o : Outcome) (t : State) : Prop := o = .returned (some (.int 1)) ∧ Framed s o t [] 600000 7302250
def lw_Z (below : List Frame) (a : Array Value) (s : State) : State → Prop := fun t => ∃ o, t.status = .running ∧ Ended t below o ∧ lw_Q a s o t
/-- the law's own end, with 1 on the stack, nothing written that was there before, its room as the claim has it -/
theorem lw_ret {p : Program} {l : Launch} {e : Env} {s : State} {m : MethodId} {below : List Frame} {meth : Method} {c : Code} {b : Nat} (hx : p.tables.exec = Jvm.exec) (hb : c.code = code) (hr : meth.sig.returnType = ret) (hlocks : meth.locks = false) {pc : Nat} {H : Heap} {ls : Array Slot} (hdg : decode code pc = .ok (.ireturn, 1)) : W p l e room_1 s m #[Value.ref b] below meth c H [] 600000 7302250 (lw_Z below #[Value.ref b] s) (F0 m pc ls [.int 1]) := by
  intro T hT X
  obtain ⟨fs, hret, hrun, hended, hW, hframe⟩ := X.leave (v := some (.int 1)) (hlocks := hlocks) (fun h => by rw [hr] at h; cases h)
  have hmeth' : T.vm.method? m = some meth := X.method'
  refine ⟨T.setFrames fs, ?_, .returned (some (.int 1)), hrun, hended, rfl, ⟨_, rfl⟩, hW, hframe⟩
  jvm_step X.here [X.here.top, hx, hb, hdg, hmeth', hr, ret, narrow_b1]
  (try refine ⟨rfl, ?_⟩); (try refine ⟨rfl, ?_⟩)
  first | (intro acts; rw [hret _ acts rfl rfl rfl]) | rw [hret _ _ rfl rfl rfl]
  exact Steps.refl _
/-- what holds at the law's entry: the machine, the code, the tables' words (any of lw_tbl by 'hts w (by decide +kernel)'), the script of L ints xs at the cell b, what the Statement gives of the start (any of its parts by flat_of_before) -/
def lw_At (p : Program) (s : State) (m : MethodId) (meth : Method) (c : Code) (b L : Nat) (xs : Nat → Int32) : Prop :=
  p.tables.exec = Jvm.exec ∧ c.code = code ∧ meth.sig.returnType = ret ∧ c.maxLocals = 4 ∧ s.vm.findClass R_law = some m.cls ∧ (∀ w ∈ lw_tbl, w.before #[Value.ref b] s = true) ∧ va_X b L xs s s.heap ∧ b < s.heap.size ∧ meth.locks = false ∧ (Jvm.Cond.and given_1 narrow_1).before #[Value.ref b] s = true

/-! ===== the law: its own judgement ===== -/
/-- class and reference stand, apart, above the start's heap -/
def LK (p : Program) (s : State) (m : MethodId) (meth : Method) (c : Code) (b n : Nat) (xs : Nat → Int32) (g : GG) : Prop :=
  lw_At p s m meth c b n xs ∧ Cx cS g s ∧ Cx rS g s ∧ (∀ q, AA cS g q → s.heap.size ≤ q) ∧ (∀ q, AA rS g q → s.heap.size ≤ q) ∧ ∀ q, AA cS g q → ¬ AA rS g q
abbrev KA : Type := Program × Env × State × MethodId × List Frame × Method × Code × Nat
def LJ (k : KA) (g : GG) (pc : Nat) (ls : List (Option Value)) (st : List Value) (M1 M2 : Mem) : Prop :=
  ∀ (H : Heap) (locs : List Loc) (lC : Array Slot), va_P g.2.1 vwCl (wdl cS g M1) H → va_P g.2.1 vwCl (wdl rS g M2) H → va_S (fun q => k.2.2.1.heap.size ≤ q) k.2.2.1.heap H locs → Lc id 4 ls lC →
    W k.1 g.1 k.2.1 room_1 k.2.2.1 k.2.2.2.1 #[Value.ref k.2.2.2.2.2.2.2] k.2.2.2.2.1 k.2.2.2.2.2.1 k.2.2.2.2.2.2.1 H locs 600000 7302250 (lw_Z k.2.2.2.2.1 #[Value.ref k.2.2.2.2.2.2.2] k.2.2.1) (F0 k.2.2.2.1 pc lC st)
abbrev LKk (k : KA) (n : Nat) (xs : Nat → Int32) (g : GG) : Prop := LK k.1 k.2.2.1 k.2.2.2.1 k.2.2.2.2.2.1 k.2.2.2.2.2.2.1 k.2.2.2.2.2.2.2 n xs g
section LW
variable {k : KA} {g : GG} {n : Nat} {xs : Nat → Int32} {pc : Nat} {ls : List (Option Value)} {st : List Value} {M1 M2 : Mem}
theorem lwG_tb {w : Cond} (h : w ∈ lwG) : w ∈ lw_tbl := (List.mem_filter.mp h).1
theorem lwG_good {z : XM} (hz : MOK z) : GoodIn lw_tbl (wsG z) := by
  intro w hw
  rcases List.mem_cons.mp hw with rfl | hw
  · exact ⟨lwG_tb hz.1, good_of_word (List.mem_filter.mp hz.1).2⟩
  · exact ⟨lwG_tb hw, good_of_word (List.mem_filter.mp hw).2⟩
theorem LJ.aload (C : LKk k n xs g) {j : Fin 4} {i a : Nat} (hd : decode code pc = .ok (.aload_n j, 1)) (hi : (j : Nat) = i) (hl : ls[i]? = some (some (.ref a))) (kk : LJ k g (pc + 1) ls (.ref a :: st) M1 M2) : LJ k g pc ls st M1 M2 :=
  fun H lo lC h1 h2 h3 h4 => lv_aload_n C.1.1 C.1.2.1 hd hi (h4.2.2 i _ hl) (kk H lo lC h1 h2 h3 h4)
theorem LJ.iload (C : LKk k n xs g) {j : Fin 4} {i : Nat} {x : Int32} (hd : decode code pc = .ok (.iload_n j, 1)) (hi : (j : Nat) = i) (hl : ls[i]? = some (some (.int x))) (kk : LJ k g (pc + 1) ls (.int x :: st) M1 M2) : LJ k g pc ls st M1 M2 :=
  fun H lo lC h1 h2 h3 h4 => lv_iload_n C.1.1 C.1.2.1 hd hi (h4.2.2 i _ hl) (kk H lo lC h1 h2 h3 h4)
theorem LJ.iconst (C : LKk k n xs g) {i : Int} {v : Int32} (hd : decode code pc = .ok (.iconst i, 1)) (hv : Int32.ofInt i = v) (kk : LJ k g (pc + 1) ls (.int v :: st) M1 M2) : LJ k g pc ls st M1 M2 :=
  fun H lo lC h1 h2 h3 h4 => lv_iconst C.1.1 C.1.2.1 hd hv (kk H lo lC h1 h2 h3 h4)
theorem LJ.bipush (C : LKk k n xs g) {i : Int} {v : Int32} (hd : decode code pc = .ok (.bipush i, 2)) (hv : (Int8.ofInt i).toInt32 = v) (kk : LJ k g (pc + 2) ls (.int v :: st) M1 M2) : LJ k g pc ls st M1 M2 :=
  fun H lo lC h1 h2 h3 h4 => lv_bipush C.1.1 C.1.2.1 hd hv (kk H lo lC h1 h2 h3 h4)
theorem LJ.iadd (C : LKk k n xs g) {x y : Int32} (hd : decode code pc = .ok (.iadd, 1)) (kk : LJ k g (pc + 1) ls (.int (x + y) :: st) M1 M2) : LJ k g pc ls (.int y :: .int x :: st) M1 M2 :=
  fun H lo lC h1 h2 h3 h4 => lv_iadd C.1.1 C.1.2.1 hd (kk H lo lC h1 h2 h3 h4)
theorem LJ.isub (C : LKk k n xs g) {x y : Int32} (hd : decode code pc = .ok (.isub, 1)) (kk : LJ k g (pc + 1) ls (.int (x - y) :: st) M1 M2) : LJ k g pc ls (.int y :: .int x :: st) M1 M2 :=
  fun H lo lC h1 h2 h3 h4 => lv_isub C.1.1 C.1.2.1 hd (kk H lo lC h1 h2 h3 h4)
theorem LJ.iand (C : LKk k n xs g) {x y : Int32} (hd : decode code pc = .ok (.iand, 1)) (kk : LJ k g (pc + 1) ls (.int (x &&& y) :: st) M1 M2) : LJ k g pc ls (.int y :: .int x :: st) M1 M2 :=
  fun H lo lC h1 h2 h3 h4 => lv_iand C.1.1 C.1.2.1 hd (kk H lo lC h1 h2 h3 h4)
theorem LJ.land (C : LKk k n xs g) {x y : Int64} (hd : decode code pc = .ok (.land, 1)) (kk : LJ k g (pc + 1) ls (.long (x &&& y) :: st) M1 M2) : LJ k g pc ls (.long y :: .long x :: st) M1 M2 :=
  fun H lo lC h1 h2 h3 h4 => lv_land C.1.1 C.1.2.1 hd (kk H lo lC h1 h2 h3 h4)
theorem LJ.lor (C : LKk k n xs g) {x y : Int64} (hd : decode code pc = .ok (.lor, 1)) (kk : LJ k g (pc + 1) ls (.long (x ||| y) :: st) M1 M2) : LJ k g pc ls (.long y :: .long x :: st) M1 M2 :=
  fun H lo lC h1 h2 h3 h4 => lv_lor C.1.1 C.1.2.1 hd (kk H lo lC h1 h2 h3 h4)
theorem LJ.i2l (C : LKk k n xs g) {x : Int32} (hd : decode code pc = .ok (.i2l, 1)) (kk : LJ k g (pc + 1) ls (.long x.toInt64 :: st) M1 M2) : LJ k g pc ls (.int x :: st) M1 M2 :=
  fun H lo lC h1 h2 h3 h4 => lv_i2l C.1.1 C.1.2.1 hd rfl (kk H lo lC h1 h2 h3 h4)
theorem LJ.lshl (C : LKk k n xs g) {x : Int64} {y : Int32} (hd : decode code pc = .ok (.lshl, 1)) (kk : LJ k g (pc + 1) ls (.long (x <<< (y.toInt64 &&& 63)) :: st) M1 M2) : LJ k g pc ls (.int y :: .long x :: st) M1 M2 :=
  fun H lo lC h1 h2 h3 h4 => lv_lshl C.1.1 C.1.2.1 hd rfl (kk H lo lC h1 h2 h3 h4)
theorem LJ.ldc2 (C : LKk k n xs g) {i : Nat} {v : Int64} (hd : decode code pc = .ok (.ldc2_w i, 3)) (hw : Cond.constantLong RL i v ∈ lwG) (kk : LJ k g (pc + 3) ls (.long v :: st) M1 M2) : LJ k g pc ls st M1 M2 :=
  fun H lo lC h1 h2 h3 h4 => lv_ldc2 (own := RL) C.1.1 C.1.2.1 C.1.2.2.2.2.1 (C.1.2.2.2.2.2.1 _ (lwG_tb hw)) hd (kk H lo lC h1 h2 h3 h4)
theorem LJ.goto (C : LKk k n xs g) {off : Int} {tgt : Nat} (hd : decode code pc = .ok (.goto off, 3)) (ht : (pc : Int) + off = (tgt : Int)) (kk : LJ k g tgt ls st M1 M2) : LJ k g pc ls st M1 M2 :=
  fun H lo lC h1 h2 h3 h4 => lv_goto C.1.1 C.1.2.1 hd ht (kk H lo lC h1 h2 h3 h4)
theorem LJ.ic_gt (C : LKk k n xs g) {x y0 : Int32} {off : Int} {tgt : Nat} (hd : decode code pc = .ok (.if_icmp .gt off, 3)) (ht : (pc : Int) + off = (tgt : Int)) (kt : y0 < x → LJ k g tgt ls st M1 M2) (kf : ¬ (y0 < x) → LJ k g (pc + 3) ls st M1 M2) : LJ k g pc ls (.int y0 :: .int x :: st) M1 M2 :=
  fun H lo lC h1 h2 h3 h4 => lv_icmp_gt C.1.1 C.1.2.1 hd ht (fun q => kt q H lo lC h1 h2 h3 h4) (fun q => kf q H lo lC h1 h2 h3 h4)
/-- equal: the branch is taken -/
theorem LJ.ic_eq (C : LKk k n xs g) {x : Int32} {off : Int} {tgt : Nat} (hd : decode code pc = .ok (.if_icmp .eq off, 3)) (ht : (pc : Int) + off = (tgt : Int)) (kt : LJ k g tgt ls st M1 M2) : LJ k g pc ls (.int x :: .int x :: st) M1 M2 :=
  fun H lo lC h1 h2 h3 h4 => lv_icmp_eq C.1.1 C.1.2.1 hd ht (fun _ => kt H lo lC h1 h2 h3 h4) (fun q => absurd rfl q)
theorem LJ.tabOut (C : LKk k n xs g) {dflt l0 hi : Int} {offs : Array Int} {len : Nat} {x : Int32} {tgt : Nat} (hd : decode code pc = .ok (.tableswitch dflt l0 hi offs, len)) (hx : x.toInt < l0 ∨ hi < x.toInt) (ht : (pc : Int) + dflt = (tgt : Int)) (kk : LJ k g tgt ls st M1 M2) : LJ k g pc ls (.int x :: st) M1 M2 :=
  fun H lo lC h1 h2 h3 h4 => lv_tableOut C.1.1 C.1.2.1 hd hx ht (kk H lo lC h1 h2 h3 h4)
theorem LJ.tabIn (C : LKk k n xs g) {dflt l0 hi : Int} {offs : Array Int} {len : Nat} {x : Int32} {off : Int} {tgt : Nat} (hd : decode code pc = .ok (.tableswitch dflt l0 hi offs, len)) (h1 : ¬ x.toInt < l0) (h2 : ¬ hi < x.toInt) (ho : offs[(x.toInt - l0).toNat]? = some off) (ht : (pc : Int) + off = (tgt : Int)) (kk : LJ k g tgt ls st M1 M2) : LJ k g pc ls (.int x :: st) M1 M2 :=
  fun H lo lC a1 a2 a3 a4 => lv_tableIn C.1.1 C.1.2.1 hd h1 h2 ho ht (kk H lo lC a1 a2 a3 a4)
theorem LJ.iinc (C : LKk k n xs g) {i : Nat} {j : Int} {x v : Int32} {ls' : List (Option Value)} (hd : decode code pc = .ok (.iinc i j, 3)) (hx : ls[i]? = some (some (.int x))) (hv : x + Int32.ofInt j = v) (hn : i < 4) (hz : nol ls i) (hl : ls.set i (some (.int v)) = ls') (kk : LJ k g (pc + 3) ls' st M1 M2) : LJ k g pc ls st M1 M2 := by
  subst hl
  intro H lo lC h1 h2 h3 h4
  obtain ⟨k0, hk0⟩ := List.getElem?_of_mem (List.mem_map.mpr ⟨(i, .int x), (psl_mem ls 0 i (.int x)).mpr ⟨Nat.zero_le _, hx⟩, rfl⟩ : (i, Value.int x) ∈ ((psl 0 ls).map fun q => (q.1, cvv id q.2)))
  exact lv_iinc C.1.1 C.1.2.1 hd h4.has hk0 hv hn rfl (fun lC' hl' => kk H lo lC' h1 h2 h3 (h4.st1 (l := []) (v := .int v) hz hl'))
theorem LJ.slen (C : LKk k n xs g) (hd : decode code pc = .ok (.arraylength, 1)) (kk : LJ k g (pc + 1) ls (.int (nI n) :: st) M1 M2) : LJ k g pc ls (.ref k.2.2.2.2.2.2.2 :: st) M1 M2 :=
  fun H lo lC h1 h2 h3 h4 => va_slen C.1.1 C.1.2.1 C.1.2.2.2.2.2.2.1 C.1.2.2.2.2.2.2.2.1 (Nat.not_le.mpr C.1.2.2.2.2.2.2.2.1) h3 hd (kk H lo lC h1 h2 h3 h4)
theorem LJ.sld (C : LKk k n xs g) {j : Nat} (hj : j < n) (hn : n < 1000) (hd : decode code pc = .ok (.iaload, 1)) (kk : LJ k g (pc + 1) ls (.int (xs j) :: st) M1 M2) : LJ k g pc ls (.int (nI j) :: .ref k.2.2.2.2.2.2.2 :: st) M1 M2 := by
  intro H lo lC h1 h2 h3 h4
  refine va_sld C.1.1 C.1.2.1 C.1.2.2.2.2.2.2.1 C.1.2.2.2.2.2.2.2.1 (Nat.not_le.mpr C.1.2.2.2.2.2.2.2.1) h3 (vp_in_nI hj (by omega)) hd ?_
  rw [nI_clamp (by omega)]
  exact kk H lo lC h1 h2 h3 h4
/-- an argument: script[i + j] -/
def AD (pc : Nat) (j : Int) : Prop := decode code pc = .ok (.aload_n 0, 1) ∧ decode code (pc + 1) = .ok (.iload_n 3, 1) ∧ decode code (pc + 2) = .ok (.iconst j, 1) ∧ decode code (pc + 3) = .ok (.iadd, 1) ∧ decode code (pc + 4) = .ok (.iaload, 1)
theorem LJ.arg (C : LKk k n xs g) {i j a : Nat} (hl0 : ls[0]? = some (some (.ref k.2.2.2.2.2.2.2))) (hl3 : ls[3]? = some (some (.int (nI i)))) (hd : AD pc (j : Int)) (hj : i + j < n) (hn : n < 1000) (ha : i + j = a) (kk : LJ k g (pc + 5) ls (.int (xs a) :: st) M1 M2) : LJ k g pc ls st M1 M2 := by
  subst ha
  refine LJ.aload C hd.1 rfl hl0 ?_
  refine LJ.iload C hd.2.1 rfl hl3 ?_
  refine LJ.iconst C (v := nI j) hd.2.2.1 rfl ?_
  refine LJ.iadd C hd.2.2.2.1 ?_
  rw [nI_add]
  exact LJ.sld C hj hn hd.2.2.2.2 kk
theorem vcat (r : Option Value) : stS r.toList ≤ 2 := by
  cases r with
  | none => exact Nat.zero_le _
  | some v => cases v <;> exact Nat.le_of_ble_eq_true rfl
theorem rmL {d : Nat} (h : d ≤ 1000) {z : XM} (hz : MOK z) : (rmG d).frames + 1 ≤ room_1.frames ∧ 8 + (z.2.2.1 + 11) + (rmG d).locals ≤ room_1.locals := by
  have := hz.2.2.2.2
  refine ⟨?_, ?_⟩
  · show d + 1 ≤ 2048
    omega
  · show 8 + (z.2.2.1 + 11) + 60 * d ≤ 84000
    omega
theorem va_Sw {sd : Nat × Nat} {s : State} {H : Heap} {locs : List Loc} (hS : va_S (fun q => s.heap.size ≤ q) s.heap H locs) : va_S (AA sd g) s.heap H [] := ⟨hS.1, fun q h1 _ => hS.2.1 q h1 (Nat.not_le.mpr h1), fun _ h => by cases h⟩
/-- a call on the class's object -/
theorem LJ.c1 (C : LKk k n xs g) {z : XM} {idx np0 d : Nat} {As : List Value} {ls0 : List (Option Value)} {Qz : Option Value → Mem → Prop} (hd : decode code pc = .ok (.invokevirtual idx, 3)) (hw : Cond.methodLink RL idx z.1 ∈ lwG) (hz : MV z) (hc : z.1.cls = RX9) (hn : np z np0) (hl : As.length = np0) (hA : As.map (cvv g.2.2.1) = As) (h0 : ent z.2.2.1 (.ref 0 :: As) = ls0) (hlen : (entL (.ref 0 :: As)).length ≤ z.2.2.1) (hst : stS st ≤ 8) (hdd : d ≤ 1000) (hV : V cS g d z 0 ls0 [] M1 Qz) (kk : ∀ r M', Qz r M' → LJ k g (pc + 3) ls ((r.map (cvv g.2.2.1)).toList ++ st) M' M2) : LJ k g pc ls (As.reverse ++ .ref (g.2.2.1 0) :: st) M1 M2 := by
  intro H lo lC h1 h2 h3 h4
  obtain ⟨⟨hx, hb, hr, hml, hown, hts, hX, hbl, hlk, hgv⟩, x1, x2, y1, y2, y3⟩ := C
  have hg := wdl_get (g := g) (M := M1) (sd := cS) (a := 0) ⟨by decide, by decide⟩
  have hpre : PreV k.2.2.1 H z.1.cls (g.2.2.1 0) (PG cS g (.ref 0 :: As) M1) As := ⟨PG_blind, by rw [hc]; exact va_recv (q := (RX9, TX9, 10)) (ci := 9) x1.1 h1 rfl hg, fun U hU hW => ⟨by show _ = (Value.ref (g.2.2.1 0) :: As.map (cvv g.2.2.1)).toArray; rw [hA], by rw [hU]; exact h1, x1.go (va_Sw h3) hU hW⟩⟩
  have run := va_runV (e := k.2.1) (below := k.2.2.2.2.1) (meth := k.2.2.2.2.2.1) (locs := lo) (cells := 600000) (slots := 7302250) (g := F0 k.2.2.2.1 pc lC (As.reverse ++ .ref (g.2.2.1 0) :: st)) (As := As) (rest := st) (own := RL) ⟨hx, hb, hml, hown, hts⟩ (hV.met (av := .ref 0 :: As) hz.1 h0 hlen)
    (R := room_1) ⟨callB_of np0 hts (lwG_good hz.1) rfl rfl rfl (hts _ (lwG_tb hz.1.2.1)) (hts _ (lwG_tb hw)) ⟨hz.1.2.2.1.1, hz.1.2.2.1.2, hn⟩ (rmL hdd hz.1), hts _ (lwG_tb hz.2.1), hts _ (lwG_tb hz.2.2)⟩
    hpre rfl hl h4.1 rfl (lv_room hst) hd ⟨Nat.le_of_ble_eq_true rfl, Nat.le_of_ble_eq_true rfl⟩
  intro T1 hT X
  obtain ⟨v, st₀, t, T', L, h0', X', hL', e1, e2, ⟨r, M', ho, hq, hP', hz', hk'⟩, stp⟩ := run T1 hT X
  have hv : v = r.map (cvv g.2.2.1) := by injection ho
  subst hv
  rw [h0'] at hz' hk'
  have hS' : va_S (fun q => k.2.2.1.heap.size ≤ q) k.2.2.1.heap T'.heap (lo ++ L) := by
    refine ⟨Nat.le_trans h3.1 (by rw [e1]; exact hz'), fun q a1 a2 => ?_, fun q hq => ?_⟩
    · rw [e1, hk' q (Nat.lt_of_lt_of_le a1 h3.1) (fun z => a2 (y1 q z))]
      exact h3.2.1 q a1 a2
    · rcases List.mem_append.mp hq with a1 | a1
      · exact h3.2.2 q a1
      · exact y1 _ (hL' q a1)
  have hP2 : va_P g.2.1 vwCl (wdl rS g M2) T'.heap := h2.kept (fun i x hx => by
    have hi := wdl_inv hx
    rw [e1]
    exact hk' x.1 ((h2 i x hx).lt) (fun z => y3 _ z ⟨i, hi.1, by rw [hi.2]⟩))
  obtain ⟨t2, a1, b1⟩ := kk r M' hq T'.heap (lo ++ L) lC (by rw [e1]; exact hP') hP2 hS' h4 T' rfl X'
  exact ⟨t2, stp t2 a1, b1⟩
/-- a call on the reference's object -/
theorem LJ.c2 (C : LKk k n xs g) {z : XM} {idx np0 d : Nat} {As : List Value} {ls0 : List (Option Value)} {Qz : Option Value → Mem → Prop} (hd : decode code pc = .ok (.invokevirtual idx, 3)) (hw : Cond.methodLink RL idx z.1 ∈ lwG) (hz : MV z) (hc : z.1.cls = RX10) (hn : np z np0) (hl : As.length = np0) (hA : As.map (cvv g.2.2.1) = As) (h0 : ent z.2.2.1 (.ref 83 :: As) = ls0) (hlen : (entL (.ref 83 :: As)).length ≤ z.2.2.1) (hst : stS st ≤ 8) (hdd : d ≤ 1000) (hV : V rS g d z 0 ls0 [] M2 Qz) (kk : ∀ r M', Qz r M' → LJ k g (pc + 3) ls ((r.map (cvv g.2.2.1)).toList ++ st) M1 M') : LJ k g pc ls (As.reverse ++ .ref (g.2.2.1 83) :: st) M1 M2 := by
  intro H lo lC h1 h2 h3 h4
  obtain ⟨⟨hx, hb, hr, hml, hown, hts, hX, hbl, hlk, hgv⟩, x1, x2, y1, y2, y3⟩ := C
  have hg := wdl_get (g := g) (M := M2) (sd := rS) (a := 83) ⟨by decide, by decide⟩
  have hpre : PreV k.2.2.1 H z.1.cls (g.2.2.1 83) (PG rS g (.ref 83 :: As) M2) As := ⟨PG_blind, by rw [hc]; exact va_recv (q := (RX10, TX10, 28)) (ci := 10) x2.1 h2 rfl hg, fun U hU hW => ⟨by show _ = (Value.ref (g.2.2.1 83) :: As.map (cvv g.2.2.1)).toArray; rw [hA], by rw [hU]; exact h2, x2.go (va_Sw h3) hU hW⟩⟩
  have run := va_runV (e := k.2.1) (below := k.2.2.2.2.1) (meth := k.2.2.2.2.2.1) (locs := lo) (cells := 600000) (slots := 7302250) (g := F0 k.2.2.2.1 pc lC (As.reverse ++ .ref (g.2.2.1 83) :: st)) (As := As) (rest := st) (own := RL) ⟨hx, hb, hml, hown, hts⟩ (hV.met (av := .ref 83 :: As) hz.1 h0 hlen)
    (R := room_1) ⟨callB_of np0 hts (lwG_good hz.1) rfl rfl rfl (hts _ (lwG_tb hz.1.2.1)) (hts _ (lwG_tb hw)) ⟨hz.1.2.2.1.1, hz.1.2.2.1.2, hn⟩ (rmL hdd hz.1), hts _ (lwG_tb hz.2.1), hts _ (lwG_tb hz.2.2)⟩
    hpre rfl hl h4.1 rfl (lv_room hst) hd ⟨Nat.le_of_ble_eq_true rfl, Nat.le_of_ble_eq_true rfl⟩
  intro T1 hT X
  obtain ⟨v, st₀, t, T', L, h0', X', hL', e1, e2, ⟨r, M', ho, hq, hP', hz', hk'⟩, stp⟩ := run T1 hT X
  have hv : v = r.map (cvv g.2.2.1) := by injection ho
  subst hv
  rw [h0'] at hz' hk'
  have hS' : va_S (fun q => k.2.2.1.heap.size ≤ q) k.2.2.1.heap T'.heap (lo ++ L) := by
    refine ⟨Nat.le_trans h3.1 (by rw [e1]; exact hz'), fun q a1 a2 => ?_, fun q hq => ?_⟩
    · rw [e1, hk' q (Nat.lt_of_lt_of_le a1 h3.1) (fun z => a2 (y2 q z))]
      exact h3.2.1 q a1 a2
    · rcases List.mem_append.mp hq with a1 | a1
      · exact h3.2.2 q a1
      · exact y2 _ (hL' q a1)
  have hP1 : va_P g.2.1 vwCl (wdl cS g M1) T'.heap := h1.kept (fun i x hx => by
    have hi := wdl_inv hx
    rw [e1]
    exact hk' x.1 ((h1 i x hx).lt) (fun z => y3 x.1 ⟨i, hi.1, by rw [hi.2]⟩ z))
  obtain ⟨t2, a1, b1⟩ := kk r M' hq T'.heap (lo ++ L) lC hP1 (by rw [e1]; exact hP') hS' h4 T' rfl X'
  exact ⟨t2, stp t2 a1, b1⟩
theorem LJ.ret (C : LKk k n xs g) (hd : decode code pc = .ok (.ireturn, 1)) : LJ k g pc ls [.int 1] M1 M2 := by
  intro H lo lC h1 h2 h3 h4
  exact va_forget (fun q hq => h3.2.2 q hq) (lw_ret C.1.1 C.1.2.1 C.1.2.2.1 C.1.2.2.2.2.2.2.2.2.1 hd)
end LW


