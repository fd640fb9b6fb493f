/-! ===== THE JUDGEMENT N: constructors, over a world that grows ===== -/
theorem arrI : Cond.arrayClass .int ∈ lwG := lwg 129 (by decide +kernel) (by decide +kernel)
theorem arrZ : Cond.arrayClass .boolean ∈ lwG := lwg 1230 (by decide +kernel) (by decide +kernel)
theorem oiI : Cond.instanceMethod Lib.objectInit ∈ lwG := lwg 100 (by decide +kernel) (by decide +kernel)
theorem oiC : Cond.code Lib.objectInit ⟨#[0xb1]⟩ 1 none ∈ lwG := lwg 101 (by decide +kernel) (by decide +kernel)
theorem insRX9 : Cond.instantiable RX9 10 ∈ lwG := lwg 95 (by decide +kernel) (by decide +kernel)
theorem oiL_RX9 : Cond.methodLink RX9 3 Lib.objectInit ∈ lwG := lwg 99 (by decide +kernel) (by decide +kernel)
theorem ckRX9_9 : Cond.classLink RX9 9 RX7 ∈ lwG := lwg 102 (by decide +kernel) (by decide +kernel)
theorem ckRX9_19 : Cond.classLink RX9 19 RX3 ∈ lwG := lwg 255 (by decide +kernel) (by decide +kernel)
theorem ckRX9_26 : Cond.classLink RX9 26 RX1 ∈ lwG := lwg 282 (by decide +kernel) (by decide +kernel)
theorem ckRX9_35 : Cond.classLink RX9 35 RX5 ∈ lwG := lwg 303 (by decide +kernel) (by decide +kernel)
theorem ckRX9_44 : Cond.classLink RX9 44 RX6 ∈ lwG := lwg 325 (by decide +kernel) (by decide +kernel)
theorem ckRX9_51 : Cond.classLink RX9 51 RX8 ∈ lwG := lwg 347 (by decide +kernel) (by decide +kernel)
theorem ckRX9_58 : Cond.classLink RX9 58 RX4 ∈ lwG := lwg 371 (by decide +kernel) (by decide +kernel)
theorem miX_X9 : MOK mX9_init ∧ Cond.instanceMethod yX9_init ∈ lwG ∧ yX9_init.name = "<init>" := ⟨⟨lwg 98 (by decide +kernel) (by decide +kernel), iniRX9, ⟨by decide +kernel, by decide +kernel⟩, by decide +kernel, by decide +kernel⟩, lwg 97 (by decide +kernel) (by decide +kernel), by decide +kernel⟩
theorem insRX7 : Cond.instantiable RX7 16 ∈ lwG := lwg 103 (by decide +kernel) (by decide +kernel)
theorem oiL_RX7 : Cond.methodLink RX7 3 Lib.objectInit ∈ lwG := lwg 107 (by decide +kernel) (by decide +kernel)
theorem ckRX7_15 : Cond.classLink RX7 15 RX0 ∈ lwG := lwg 108 (by decide +kernel) (by decide +kernel)
theorem ckRX7_34 : Cond.classLink RX7 34 RX2 ∈ lwG := lwg 110 (by decide +kernel) (by decide +kernel)
theorem miX_X7 : MOK mX7_init ∧ Cond.instanceMethod yX7_init ∈ lwG ∧ yX7_init.name = "<init>" := ⟨⟨lwg 106 (by decide +kernel) (by decide +kernel), iniRX7, ⟨by decide +kernel, by decide +kernel⟩, by decide +kernel, by decide +kernel⟩, lwg 105 (by decide +kernel) (by decide +kernel), by decide +kernel⟩
theorem insRX2 : Cond.instantiable RX2 4 ∈ lwG := lwg 111 (by decide +kernel) (by decide +kernel)
theorem oiL_RX2 : Cond.methodLink RX2 3 Lib.objectInit ∈ lwG := lwg 115 (by decide +kernel) (by decide +kernel)
theorem miX_X2 : MOK mX2_init ∧ Cond.instanceMethod yX2_init ∈ lwG ∧ yX2_init.name = "<init>" := ⟨⟨lwg 114 (by decide +kernel) (by decide +kernel), iniRX2, ⟨by decide +kernel, by decide +kernel⟩, by decide +kernel, by decide +kernel⟩, lwg 113 (by decide +kernel) (by decide +kernel), by decide +kernel⟩
theorem insRX0 : Cond.instantiable RX0 7 ∈ lwG := lwg 130 (by decide +kernel) (by decide +kernel)
theorem oiL_RX0 : Cond.methodLink RX0 3 Lib.objectInit ∈ lwG := lwg 134 (by decide +kernel) (by decide +kernel)
theorem miX_X0 : MOK mX0_init ∧ Cond.instanceMethod yX0_init ∈ lwG ∧ yX0_init.name = "<init>" := ⟨⟨lwg 133 (by decide +kernel) (by decide +kernel), iniRX0, ⟨by decide +kernel, by decide +kernel⟩, by decide +kernel, by decide +kernel⟩, lwg 132 (by decide +kernel) (by decide +kernel), by decide +kernel⟩
theorem insRX3 : Cond.instantiable RX3 5 ∈ lwG := lwg 256 (by decide +kernel) (by decide +kernel)
theorem oiL_RX3 : Cond.methodLink RX3 3 Lib.objectInit ∈ lwG := lwg 260 (by decide +kernel) (by decide +kernel)
theorem ckRX3_9 : Cond.classLink RX3 9 RX2 ∈ lwG := lwg 261 (by decide +kernel) (by decide +kernel)
theorem miX_X3 : MOK mX3_init ∧ Cond.instanceMethod yX3_init ∈ lwG ∧ yX3_init.name = "<init>" := ⟨⟨lwg 259 (by decide +kernel) (by decide +kernel), iniRX3, ⟨by decide +kernel, by decide +kernel⟩, by decide +kernel, by decide +kernel⟩, lwg 258 (by decide +kernel) (by decide +kernel), by decide +kernel⟩
theorem insRX1 : Cond.instantiable RX1 4 ∈ lwG := lwg 283 (by decide +kernel) (by decide +kernel)
theorem oiL_RX1 : Cond.methodLink RX1 3 Lib.objectInit ∈ lwG := lwg 287 (by decide +kernel) (by decide +kernel)
theorem ckRX1_9 : Cond.classLink RX1 9 "[[I" ∈ lwG := lwg 288 (by decide +kernel) (by decide +kernel)
theorem miX_X1 : MOK mX1_init ∧ Cond.instanceMethod yX1_init ∈ lwG ∧ yX1_init.name = "<init>" := ⟨⟨lwg 286 (by decide +kernel) (by decide +kernel), iniRX1, ⟨by decide +kernel, by decide +kernel⟩, by decide +kernel, by decide +kernel⟩, lwg 285 (by decide +kernel) (by decide +kernel), by decide +kernel⟩
theorem insRX5 : Cond.instantiable RX5 5 ∈ lwG := lwg 304 (by decide +kernel) (by decide +kernel)
theorem oiL_RX5 : Cond.methodLink RX5 3 Lib.objectInit ∈ lwG := lwg 308 (by decide +kernel) (by decide +kernel)
theorem miX_X5 : MOK mX5_init ∧ Cond.instanceMethod yX5_init ∈ lwG ∧ yX5_init.name = "<init>" := ⟨⟨lwg 307 (by decide +kernel) (by decide +kernel), iniRX5, ⟨by decide +kernel, by decide +kernel⟩, by decide +kernel, by decide +kernel⟩, lwg 306 (by decide +kernel) (by decide +kernel), by decide +kernel⟩
theorem insRX6 : Cond.instantiable RX6 5 ∈ lwG := lwg 326 (by decide +kernel) (by decide +kernel)
theorem oiL_RX6 : Cond.methodLink RX6 3 Lib.objectInit ∈ lwG := lwg 330 (by decide +kernel) (by decide +kernel)
theorem miX_X6 : MOK mX6_init ∧ Cond.instanceMethod yX6_init ∈ lwG ∧ yX6_init.name = "<init>" := ⟨⟨lwg 329 (by decide +kernel) (by decide +kernel), iniRX6, ⟨by decide +kernel, by decide +kernel⟩, by decide +kernel, by decide +kernel⟩, lwg 328 (by decide +kernel) (by decide +kernel), by decide +kernel⟩
theorem insRX8 : Cond.instantiable RX8 5 ∈ lwG := lwg 348 (by decide +kernel) (by decide +kernel)
theorem oiL_RX8 : Cond.methodLink RX8 3 Lib.objectInit ∈ lwG := lwg 352 (by decide +kernel) (by decide +kernel)
theorem miX_X8 : MOK mX8_init ∧ Cond.instanceMethod yX8_init ∈ lwG ∧ yX8_init.name = "<init>" := ⟨⟨lwg 351 (by decide +kernel) (by decide +kernel), iniRX8, ⟨by decide +kernel, by decide +kernel⟩, by decide +kernel, by decide +kernel⟩, lwg 350 (by decide +kernel) (by decide +kernel), by decide +kernel⟩
theorem insRX4 : Cond.instantiable RX4 3 ∈ lwG := lwg 372 (by decide +kernel) (by decide +kernel)
theorem oiL_RX4 : Cond.methodLink RX4 1 Lib.objectInit ∈ lwG := lwg 376 (by decide +kernel) (by decide +kernel)
theorem ckRX4_9 : Cond.classLink RX4 9 "[[I" ∈ lwG := lwg 377 (by decide +kernel) (by decide +kernel)
theorem miX_X4 : MOK mX4_init ∧ Cond.instanceMethod yX4_init ∈ lwG ∧ yX4_init.name = "<init>" := ⟨⟨lwg 375 (by decide +kernel) (by decide +kernel), iniRX4, ⟨by decide +kernel, by decide +kernel⟩, by decide +kernel, by decide +kernel⟩, lwg 374 (by decide +kernel) (by decide +kernel), by decide +kernel⟩
theorem insRX10 : Cond.instantiable RX10 28 ∈ lwG := lwg 1140 (by decide +kernel) (by decide +kernel)
theorem oiL_RX10 : Cond.methodLink RX10 1 Lib.objectInit ∈ lwG := lwg 1144 (by decide +kernel) (by decide +kernel)
theorem miX_X10 : MOK mX10_init ∧ Cond.instanceMethod yX10_init ∈ lwG ∧ yX10_init.name = "<init>" := ⟨⟨lwg 1143 (by decide +kernel) (by decide +kernel), iniRX10, ⟨by decide +kernel, by decide +kernel⟩, by decide +kernel, by decide +kernel⟩, lwg 1142 (by decide +kernel) (by decide +kernel), by decide +kernel⟩
theorem ckRL_7 : Cond.classLink RL 7 RX9 ∈ lwG := lwg 94 (by decide +kernel) (by decide +kernel)
theorem ckRL_10 : Cond.classLink RL 10 RX10 ∈ lwG := lwg 1139 (by decide +kernel) (by decide +kernel)
theorem va_AOA_moved {ty : FieldType} {u U : State} (hvm : u.vm.Alike U.vm) (h : va_AOA ty u) : va_AOA ty U := by
  obtain ⟨comp, c, k, h1, h2, h3, h4, h5⟩ := arrayOverA_spec h
  obtain ⟨k', hk', he⟩ := hvm.2.2 _ _ h3
  have hi : (U.vm.classes.findIdx? fun x => match x.kind with | .array component _ => component == comp | _ => false) = some c := by
    rw [hvm.findIdx?_eq _ (fun _ => rfl)]
    exact h2
  have hkind : k'.kind = .array comp (.array ty) := by rw [he]; exact h4
  have f1 : U.vm.findClass (FieldType.array ty).toString = some comp := by rw [hvm.findClass]; exact h1
  have f2 : U.vm.findClass ("[" ++ (FieldType.array ty).toString) = some c := by rw [hvm.findClass]; exact h5
  unfold va_AOA Cond.before Cond.holds
  simp only [Cond.value]
  rw [f1, Option.bind_some]
  refine (congrArg (fun o : Option Nat => (o.bind (fun c => (U.vm.classes[c]?).map fun (k : Class) => match k.kind with | .array _ t => decide (t = FieldType.array ty) && decide (U.vm.findClass ("[" ++ (FieldType.array ty).toString) = some c) | _ => false) == some true)) hi).trans ?_
  simp [hk', hkind, f2]
def nwI : List (String × Nat × MethodName × String) := [(RX7, 36, yX2_init, "OneBreath"), (RX7, 53, yX0_init, "OneBreath"), (RX9, 21, yX3_init, "OneBreath"), (RX3, 11, yX2_init, "OneBreath"), (RX9, 53, yX8_init, "OneBreath"), (RX9, 60, yX4_init, "OneBreath")]
/-- what every constructor knows -/
def Cn (g : GG) (s : State) : Prop := va_K g.2.1 vwCl (tysG g) s ∧ va_AO "OneBreath$Bell" s ∧ va_AOA .int s ∧ vk_R RX3 22 "ldhwk" (g.2.2.1 210) s ∧ ∀ q ∈ nwI, va_Nw (.methodLinkNest q.1 q.2.1 q.2.2.1 q.2.2.2) s
theorem Cn.go {g : GG} {s U : State} (h : Cn g s) (hW : s.WarmedH U.vm) : Cn g U := ⟨h.1.moved hW.alike, h.2.1.moved hW.alike, va_AOA_moved hW.alike h.2.2.1, h.2.2.2.1.warm hW, fun q hq => va_Nw.warmM hW (h.2.2.2.2 q hq)⟩
theorem Cn.same {g : GG} {s U : State} (h : Cn g s) (hv : U.vm = s.vm) : Cn g U := by
  have al : s.vm.Alike U.vm := by rw [hv]; exact Vm.Alike.refl _
  exact ⟨h.1.moved al, h.2.1.moved al, va_AOA_moved al h.2.2.1, h.2.2.2.1.same hv, fun q hq => (h.2.2.2.2 q hq).same rfl hv.symm⟩
def rmN (F mc ms : Nat) : Room := { frames := F, cells := mc, slots := ms, locals := 60 * F }
def QN (g : GG) (A : Nat → Prop) (post : va_W → Prop) : Array Value → State → Outcome → State → Prop := va_Qv post (fun B t => va_P g.2.1 vwCl B t.heap ∧ va_D A B) A
abbrev EE : Type := (Nat → Prop) → State → Prop
def EOK (E : EE) : Prop := ∀ (A : Nat → Prop) (U U' : State), U'.heap = U.heap → U'.vm = U.vm → E A U → E A U'
def E0 : EE := fun _ _ => True
theorem E0_ok : EOK E0 := fun _ _ _ _ _ _ => trivial
def Nf (g : GG) (E : EE) (y : XM) (A : Nat → Prop) (ls : List (Option Value)) (ws : va_W) (p : Program) (s : State) (m : MethodId) (args : Array Value) (meth : Method) (c : Code) (H : Heap) (locs : List Loc) (lC : Array Slot) : Prop :=
  p.tables.exec = Jvm.exec ∧ c.code = y.2.1 ∧ meth.sig.returnType = none ∧ c.maxLocals = y.2.2.1 ∧ s.vm.findClass y.1.cls = some m.cls ∧ meth.locks = false ∧ (∀ w ∈ wsG y, w.before args s = true) ∧ Cn g s ∧ meth.name = "<init>" ∧ (∀ q, s.heap.size ≤ q → A q) ∧ E A s ∧ va_P g.2.1 vwCl ws H ∧ va_D A ws ∧ va_S A s.heap H locs ∧ Lc id y.2.2.1 ls lC
def N (g : GG) (E : EE) (F mc ms : Nat) (y : XM) (A : Nat → Prop) (post : va_W → Prop) (pc : Nat) (ls : List (Option Value)) (st : List Value) (cells slots : Nat) (ws : va_W) : Prop :=
  ∀ (p : Program) (e : Env) (s : State) (m : MethodId) (args : Array Value) (below : List Frame) (meth : Method) (c : Code) (H : Heap) (locs : List Loc) (lC : Array Slot), Nf g E y A ls ws p s m args meth c H locs lC →
    W p g.1 e (rmN F mc ms) s m args below meth c H locs cells slots (MQ below (QN g A post) args s mc ms A) (F0 m pc lC st)
/-- a constructor's contract -/
def CT (g : GG) (E : EE) (z : XM) (F : Nat) (As : List Value) (q : Nat) (raw : va_E) (post : va_W → Prop) (mc ms : Nat) : Prop :=
  ∀ sz : Nat, Met g.1 z.1 (wsG z) (rmN F mc ms) (fun a U => a = (.ref q :: As).toArray ∧ U.heap.size = sz ∧ va_P g.2.1 vwCl [(q, raw)] U.heap ∧ Cn g U ∧ E (va_A [(q, raw)] sz) U) (QN g (va_A [(q, raw)] sz) post) mc ms (va_A [(q, raw)] sz)
section NR
variable {g : GG} {E : EE} {F mc ms : Nat} {y : XM} {A : Nat → Prop} {post : va_W → Prop} {pc : Nat} {ls : List (Option Value)} {st : List Value} {cells slots : Nat} {ws : va_W}
theorem N.aload {k : Fin 4} {i a : Nat} (hd : decode y.2.1 pc = .ok (.aload_n k, 1)) (hi : (k : Nat) = i) (hl : ls[i]? = some (some (.ref a))) (kk : N g E F mc ms y A post (pc + 1) ls (.ref a :: st) cells slots ws) : N g E F mc ms y A post pc ls st cells slots ws :=
  fun p e s m ar be me c H lo lC h => lv_aload_n h.1 h.2.1 hd hi (h.2.2.2.2.2.2.2.2.2.2.2.2.2.2.2.2 i _ hl) (kk p e s m ar be me c H lo lC h)
theorem N.iload {k : Fin 4} {i : Nat} {x : Int32} (hd : decode y.2.1 pc = .ok (.iload_n k, 1)) (hi : (k : Nat) = i) (hl : ls[i]? = some (some (.int x))) (kk : N g E F mc ms y A post (pc + 1) ls (.int x :: st) cells slots ws) : N g E F mc ms y A post pc ls st cells slots ws :=
  fun p e s m ar be me c H lo lC h => lv_iload_n h.1 h.2.1 hd hi (h.2.2.2.2.2.2.2.2.2.2.2.2.2.2.2.2 i _ hl) (kk p e s m ar be me c H lo lC h)
theorem N.iconst {n : Int} {v : Int32} (hd : decode y.2.1 pc = .ok (.iconst n, 1)) (hv : Int32.ofInt n = v) (kk : N g E F mc ms y A post (pc + 1) ls (.int v :: st) cells slots ws) : N g E F mc ms y A post pc ls st cells slots ws :=
  fun p e s m ar be me c H lo lC h => lv_iconst h.1 h.2.1 hd hv (kk p e s m ar be me c H lo lC h)
theorem N.bipush {n : Int} {v : Int32} (hd : decode y.2.1 pc = .ok (.bipush n, 2)) (hv : (Int8.ofInt n).toInt32 = v) (kk : N g E F mc ms y A post (pc + 2) ls (.int v :: st) cells slots ws) : N g E F mc ms y A post pc ls st cells slots ws :=
  fun p e s m ar be me c H lo lC h => lv_bipush h.1 h.2.1 hd hv (kk p e s m ar be me c H lo lC h)
theorem N.sipush {n : Int} {v : Int32} (hd : decode y.2.1 pc = .ok (.sipush n, 3)) (hv : (Int16.ofInt n).toInt32 = v) (kk : N g E F mc ms y A post (pc + 3) ls (.int v :: st) cells slots ws) : N g E F mc ms y A post pc ls st cells slots ws :=
  fun p e s m ar be me c H lo lC h => lv_sipush h.1 h.2.1 hd hv (kk p e s m ar be me c H lo lC h)
theorem N.dup {v : Value} (hd : decode y.2.1 pc = .ok (.dup, 1)) (hc : v.category = 1) (kk : N g E F mc ms y A post (pc + 1) ls (v :: v :: st) cells slots ws) : N g E F mc ms y A post pc ls (v :: st) cells slots ws :=
  fun p e s m ar be me c H lo lC h => lv_dup h.1 h.2.1 hd hc (kk p e s m ar be me c H lo lC h)
theorem N.goto {off : Int} {tgt : Nat} (hd : decode y.2.1 pc = .ok (.goto off, 3)) (ht : (pc : Int) + off = (tgt : Int)) (kk : N g E F mc ms y A post tgt ls st cells slots ws) : N g E F mc ms y A post pc ls st cells slots ws :=
  fun p e s m ar be me c H lo lC h => lv_goto h.1 h.2.1 hd ht (kk p e s m ar be me c H lo lC h)
theorem N.ic_ge {x y0 : Int32} {off : Int} {tgt : Nat} (hd : decode y.2.1 pc = .ok (.if_icmp .ge off, 3)) (ht : (pc : Int) + off = (tgt : Int)) (kt : y0 ≤ x → N g E F mc ms y A post tgt ls st cells slots ws) (kf : ¬ (y0 ≤ x) → N g E F mc ms y A post (pc + 3) ls st cells slots ws) : N g E F mc ms y A post pc ls (.int y0 :: .int x :: st) cells slots ws :=
  fun p e s m ar be me c H lo lC h => lv_icmp_ge h.1 h.2.1 hd ht (fun q => kt q p e s m ar be me c H lo lC h) (fun q => kf q p e s m ar be me c H lo lC h)
theorem cvv_id : cvv id = id := by
  funext v
  cases v <;> rfl
theorem Nf.sl {p : Program} {s : State} {m : MethodId} {args : Array Value} {meth : Method} {c : Code} {H : Heap} {locs : List Loc} {lC lC' : Array Slot} {ls' : List (Option Value)} (h : Nf g E y A ls ws p s m args meth c H locs lC) (hl : Lc id y.2.2.1 ls' lC') : Nf g E y A ls' ws p s m args meth c H locs lC' := by
  obtain ⟨h1, h2, h3, h4, h5, h6, h7, h8, h9, h10, h11, h12, h13, h14, -⟩ := h
  exact ⟨h1, h2, h3, h4, h5, h6, h7, h8, h9, h10, h11, h12, h13, h14, hl⟩
theorem Nf.lc {p : Program} {s : State} {m : MethodId} {args : Array Value} {meth : Method} {c : Code} {H : Heap} {locs : List Loc} {lC : Array Slot} (h : Nf g E y A ls ws p s m args meth c H locs lC) : Lc id y.2.2.1 ls lC := h.2.2.2.2.2.2.2.2.2.2.2.2.2.2
theorem N.istore {k : Fin 4} {i : Nat} {x : Int32} {ls' : List (Option Value)} (hd : decode y.2.1 pc = .ok (.istore_n k, 1)) (hi : (k : Nat) = i) (hn : i < y.2.2.1) (hz : nol ls i) (hl : ls.set i (some (.int x)) = ls') (kk : N g E F mc ms y A post (pc + 1) ls' st cells slots ws) : N g E F mc ms y A post pc ls (.int x :: st) cells slots ws := by
  subst hl
  exact fun p e s m ar be me c H lo lC h => lv_istore_n h.1 h.2.1 hd hi h.lc.has hn rfl (fun lC' hl' => kk p e s m ar be me c H lo lC' (h.sl (h.lc.st1 (l := []) (v := .int x) hz hl')))
theorem N.iinc {i : Nat} {n : Int} {x v : Int32} {ls' : List (Option Value)} (hd : decode y.2.1 pc = .ok (.iinc i n, 3)) (hx : ls[i]? = some (some (.int x))) (hv : x + Int32.ofInt n = v) (hn : i < y.2.2.1) (hz : nol ls i) (hl : ls.set i (some (.int v)) = ls') (kk : N g E F mc ms y A post (pc + 3) ls' st cells slots ws) : N g E F mc ms y A post pc ls st cells slots ws := by
  subst hl
  intro p e s m ar be me c H lo lC h
  obtain ⟨k0, hk0⟩ := List.getElem?_of_mem (List.mem_map.mpr ⟨(i, .int x), (psl_mem ls 0 i (.int x)).mpr ⟨Nat.zero_le _, hx⟩, rfl⟩ : (i, Value.int x) ∈ ((psl 0 ls).map fun q => (q.1, cvv id q.2)))
  exact lv_iinc h.1 h.2.1 hd h.lc.has hk0 hv hn rfl (fun lC' hl' => kk p e s m ar be me c H lo lC' (h.sl (h.lc.st1 (l := []) (v := .int v) hz hl')))
theorem N.obj {own : String} {idx a : Nat} (hd : decode y.2.1 pc = .ok (.invokespecial idx, 3)) (ho : y.1.cls = own) (hw : Cond.methodLink own idx Lib.objectInit ∈ lwG) (hF : 1 ≤ F) (kk : N g E F mc ms y A post (pc + 3) ls [] cells slots ws) : N g E F mc ms y A post pc ls [.ref a] cells slots ws := by
  subst ho
  intro p e s m ar be me c H lo lC h
  have hts := h.2.2.2.2.2.2.1
  refine W.objInit h.1 h.2.1 h.2.2.2.2.1 (hts _ (wsG_in hw)) (hts _ (wsG_in oiI)) (hts _ (wsG_in oiC)) rfl (by rw [h.2.2.2.1]; exact h.lc.1) rfl hd hF ?_ (kk p e s m ar be me c H lo lC h)
  show 0 + 12 ≤ 60 * F
  omega
theorem N.newi {n : Int32} {k : Nat} (hd : decode y.2.1 pc = .ok (.newarray .int, 2)) (hn : ¬ n < 0) (hN : n.toNatClampNeg = k) (hk : k * 4 ≤ 536870912) (hc : cells + 1 ≤ mc) (hs : slots + k ≤ ms) (kk : ∀ q : Nat, N g E F mc ms y A post (pc + 2) ls (.ref q :: st) (cells + 1) (slots + k) (ws ++ [(q, .inl (g.2.2.2 0, k, .inl (fun _ => 0)))])) : N g E F mc ms y A post pc ls (.int n :: st) cells slots ws := by
  intro p e s m ar be me c H lo lC h
  obtain ⟨hx, hb, hr, hml, hown, hlk, hts, hC, hin, hA, hE, hP, hD, hS, hL⟩ := h
  refine va_newa (atype := .int) (ty := .int) (a0 := (k, .inl (fun _ => 0))) hx hb (hts _ (wsG_in arrI)) rfl hC.1 hP hD hS hA (fun cA => rfl) hn hN hk hc hs hd (fun q cA H1 hK1 hP1 hD1 hS1 => ?_)
  have e1 : cA = g.2.2.2 0 := Option.some.inj ((hK1.2 4 (cA, .int) rfl).2.symm.trans (hC.1.2 0 (g.2.2.2 0, .int) rfl).2)
  subst e1
  exact kk q p e s m ar be me c H1 lo lC ⟨hx, hb, hr, hml, hown, hlk, hts, hC, hin, hA, hE, hP1, hD1, hS1, hL⟩
theorem N.newz {n : Int32} {k : Nat} (hd : decode y.2.1 pc = .ok (.newarray .boolean, 2)) (hn : ¬ n < 0) (hN : n.toNatClampNeg = k) (hk : k * 1 ≤ 536870912) (hc : cells + 1 ≤ mc) (hs : slots + k ≤ ms) (kk : ∀ q : Nat, N g E F mc ms y A post (pc + 2) ls (.ref q :: st) (cells + 1) (slots + k) (ws ++ [(q, .inl (g.2.2.2 1, k, .inl (fun _ => 0)))])) : N g E F mc ms y A post pc ls (.int n :: st) cells slots ws := by
  intro p e s m ar be me c H lo lC h
  obtain ⟨hx, hb, hr, hml, hown, hlk, hts, hC, hin, hA, hE, hP, hD, hS, hL⟩ := h
  refine va_newa (atype := .boolean) (ty := .boolean) (a0 := (k, .inl (fun _ => 0))) hx hb (hts _ (wsG_in arrZ)) rfl hC.1 hP hD hS hA (fun cA => rfl) hn hN hk hc hs hd (fun q cA H1 hK1 hP1 hD1 hS1 => ?_)
  have e1 : cA = g.2.2.2 1 := Option.some.inj ((hK1.2 4 (cA, .boolean) rfl).2.symm.trans (hC.1.2 1 (g.2.2.2 1, .boolean) rfl).2)
  subst e1
  exact kk q p e s m ar be me c H1 lo lC ⟨hx, hb, hr, hml, hown, hlk, hts, hC, hin, hA, hE, hP1, hD1, hS1, hL⟩
theorem N.newq {own : String} {idx : Nat} {n : Int32} {k : Nat} (hd : decode y.2.1 pc = .ok (.anewarray idx, 3)) (ho : y.1.cls = own) (hw : Cond.classLink own idx RX0 ∈ lwG) (hn : ¬ n < 0) (hN : n.toNatClampNeg = k) (hk : k * 4 ≤ 536870912) (hc : cells + 1 ≤ mc) (hs : slots + k ≤ ms) (kk : ∀ q : Nat, N g E F mc ms y A post (pc + 3) ls (.ref q :: st) (cells + 1) (slots + k) (ws ++ [(q, .inl (g.2.2.2 2, k, .inr (.inr (.inr (.inr (fun _ => none))))))])) : N g E F mc ms y A post pc ls (.int n :: st) cells slots ws := by
  subst ho
  intro p e s m ar be me c H lo lC h
  obtain ⟨hx, hb, hr, hml, hown, hlk, hts, hC, hin, hA, hE, hP, hD, hS, hL⟩ := h
  refine va_newq hx hb hown (hts _ (wsG_in hw)) hC.2.1 hC.1 hP hD hS hA hn hN hk hc hs hd (fun q cA H1 hK1 hP1 hD1 hS1 => ?_)
  have e1 : cA = g.2.2.2 2 := by
    obtain ⟨_, _, _, _, _, a1⟩ := (hK1.2 4 (cA, .object "OneBreath$Bell") rfl).2
    obtain ⟨_, _, _, _, _, a2⟩ := (hC.1.2 2 (g.2.2.2 2, .object "OneBreath$Bell") rfl).2
    exact Option.some.inj (a1.symm.trans a2)
  subst e1
  exact kk q p e s m ar be me c H1 lo lC ⟨hx, hb, hr, hml, hown, hlk, hts, hC, hin, hA, hE, hP1, hD1, hS1, hL⟩
def mrow (g : GG) (r : Nat → Nat) (n k : Nat) : va_W := (List.range n).map fun j => (r j, .inl (g.2.2.2 0, k, .inl (fun _ => 0)))
theorem N.mna {own : String} {idx : Nat} {n k : Int32} {N' K' : Nat} (hd : decode y.2.1 pc = .ok (.multianewarray idx 2, 4)) (ho : y.1.cls = own) (hw : Cond.classLink own idx "[[I" ∈ lwG) (hn : ¬ n < 0) (hk : ¬ k < 0) (hN : n.toNatClampNeg = N') (hM : k.toNatClampNeg = K') (hb1 : N' * 4 ≤ 536870912) (hb2 : K' * 4 ≤ 536870912) (hc : cells + (1 + N') ≤ mc) (hs : slots + (N' + N' * K') ≤ ms) (kk : ∀ (q : Nat) (r : Nat → Nat), N g E F mc ms y A post (pc + 4) ls (.ref q :: st) (cells + 1 + N') (slots + N' + N' * K') ((ws ++ [(q, .inl (g.2.2.2 3, N', .inr (.inr (.inr (.inr (fun i => if i < N' then some (r i) else none))))))]) ++ mrow g r N' K')) : N g E F mc ms y A post pc ls (.int k :: .int n :: st) cells slots ws := by
  subst ho
  intro p e s m ar be me c H lo lC h
  obtain ⟨hx, hb, hr, hml, hown, hlk, hts, hC, hin, hA, hE, hP, hD, hS, hL⟩ := h
  have hcy : s.vm.findClass (FieldType.array FieldType.int).toString = some (g.2.2.2 0) := (hC.1.2 0 (g.2.2.2 0, .int) rfl).2
  refine va_mna (X := ws) (L := []) (f := fun _ => .inr (0, [])) (z := (K', .inl (fun _ => 0))) (ty := .int) hx hb hown (hts _ (wsG_in hw)) hC.2.2.1 (hts _ (wsG_in arrI)) hcy hC.1 (by rw [show va_pl [] _ = ([] : va_W) from rfl, List.append_nil]; exact hP) (by rw [show va_pl [] _ = ([] : va_W) from rfl, List.append_nil]; exact hD) hS hA hn hk hN hM hb1 hb2 (by omega) rfl rfl hc hs (fun c9 => arrV_new c9 K' (.int 0)) hd (fun q r cA H1 _ _ hK1 hP1 hD1 hS1 => ?_)
  have e1 : cA = g.2.2.2 3 := Option.some.inj ((hK1.2 4 (cA, .array .int) rfl).2.symm.trans (hC.1.2 3 (g.2.2.2 3, .array .int) rfl).2)
  subst e1
  have e2 : va_pl ([] ++ (List.range N').map r) (vr_up (fun _ => .inr (0, [])) ((List.range N').map r) (.inl (g.2.2.2 0, K', .inl (fun _ => 0)))) = mrow g r N' K' := by
    unfold va_pl mrow
    rw [List.nil_append, List.map_map]
    refine List.map_congr_left fun j hj => ?_
    show (r j, vr_up _ _ _ (r j)) = _
    rw [vr_up_in (List.mem_map_of_mem hj)]
  rw [e2] at hP1 hD1
  exact kk q r p e s m ar be me c H1 lo lC ⟨hx, hb, hr, hml, hown, hlk, hts, hC, hin, hA, hE, hP1, hD1, hS1, hL⟩
theorem N.new {own C : String} {idx ci n : Nat} {T : u_T} {ty : Nat → FieldType} {fs : List Value} (hd : decode y.2.1 pc = .ok (.new idx, 3)) (ho : y.1.cls = own) (hc : vwCl[ci]? = some (C, T, n)) (hin0 : ∀ w ∈ u_ws C T n, w ∈ lwG) (hty : ∀ k, k < n → parseFieldDescriptor (T k).2.2.1 = some (ty k)) (hcl : Cond.classLink own idx C ∈ lwG) (hinst : Cond.instantiable C n ∈ lwG) (hini : Cond.initialized C ∈ lwG) (hfs : ∀ j, j < n → defaultValue (ty j) = vp_V fs j) (hcc : cells + 1 ≤ mc) (hs : slots + n ≤ ms) (kk : ∀ q : Nat, N g E F mc ms y A post (pc + 3) ls (.ref q :: st) (cells + 1) (slots + n) (ws ++ [(q, .inr (ci, fs))])) : N g E F mc ms y A post pc ls st cells slots ws := by
  subst ho
  intro p e s m ar be me c H lo lC h
  obtain ⟨hx, hb, hr, hml, hown, hlk, hts, hC, hin, hA, hE, hP, hD, hS, hL⟩ := h
  refine va_new hx hb hts (fun w hw => wsG_in (hin0 w hw)) ty hty hown (hts _ (wsG_in hcl)) (hts _ (wsG_in hinst)) (hts _ (wsG_in hini)) hC.1 hP hD hS hA hc hfs hcc hs hd (fun q H1 hP1 hD1 hS1 => ?_)
  exact kk q p e s m ar be me c H1 lo lC ⟨hx, hb, hr, hml, hown, hlk, hts, hC, hin, hA, hE, hP1, hD1, hS1, hL⟩
theorem N.putF {own C : String} {idx ci k q0 n a : Nat} {T : u_T} {ty : Nat → FieldType} {fs : List Value} {v : Value} {ws' : va_W} (hd : decode y.2.1 pc = .ok (.putfield idx, 3)) (ho : y.1.cls = own) (hc : vwCl[ci]? = some (C, T, n)) (hin0 : ∀ w ∈ u_ws C T n, w ∈ lwG) (hty : ∀ k, k < n → parseFieldDescriptor (T k).2.2.1 = some (ty k)) (hnm : ∀ a, a < n → ∀ b, b < n → a ≠ b → (T a).2.1 ≠ (T b).2.1) (hk : k < n) (hw : Cond.fieldLink own idx (T k).1 (T k).2.1 (T k).2.2.1 ∈ lwG) (hfin : (T k).2.2.2 = true) (hdecl : (T k).1 = own) (he : ws[q0]? = some (a, .inr (ci, fs))) (hn : narrow (ty k) v = v) (hf : fits (ty k) v = true) (hl : k < fs.length) (hw' : ws.set q0 (a, .inr (ci, fs.set k v)) = ws') (kk : N g E F mc ms y A post (pc + 3) ls st cells slots ws') : N g E F mc ms y A post pc ls (v :: .ref a :: st) cells slots ws := by
  subst ho
  subst hw'
  intro p e s m ar be me c H lo lC h
  obtain ⟨hx, hb, hr, hml, hown, hlk, hts, hC, hin, hA, hE, hP, hD, hS, hL⟩ := h
  refine va_putF hx hb hts (fun w hw => wsG_in (hin0 w hw)) ty hty hnm hown hC.1 hP hD hS q0 he hc k hk (hts _ (wsG_in hw)) (fun _ h => h) hfin hin hdecl (hty k hk) hn hf hl hd (fun H1 locs1 hP1 hD1 hS1 => ?_)
  exact kk p e s m ar be me c H1 locs1 lC ⟨hx, hb, hr, hml, hown, hlk, hts, hC, hin, hA, hE, hP1, hD1, hS1, hL⟩
theorem N.put {own C : String} {idx ci k q0 n a : Nat} {T : u_T} {ty : Nat → FieldType} {fs : List Value} {v : Value} {ws' : va_W} (hd : decode y.2.1 pc = .ok (.putfield idx, 3)) (ho : y.1.cls = own) (hc : vwCl[ci]? = some (C, T, n)) (hin0 : ∀ w ∈ u_ws C T n, w ∈ lwG) (hty : ∀ k, k < n → parseFieldDescriptor (T k).2.2.1 = some (ty k)) (hnm : ∀ a, a < n → ∀ b, b < n → a ≠ b → (T a).2.1 ≠ (T b).2.1) (hk : k < n) (hw : Cond.fieldLink own idx (T k).1 (T k).2.1 (T k).2.2.1 ∈ lwG) (hfin : (T k).2.2.2 = false) (he : ws[q0]? = some (a, .inr (ci, fs))) (hn : narrow (ty k) v = v) (hf : fits (ty k) v = true) (hl : k < fs.length) (hw' : ws.set q0 (a, .inr (ci, fs.set k v)) = ws') (kk : N g E F mc ms y A post (pc + 3) ls st cells slots ws') : N g E F mc ms y A post pc ls (v :: .ref a :: st) cells slots ws := by
  subst ho
  subst hw'
  intro p e s m ar be me c H lo lC h
  obtain ⟨hx, hb, hr, hml, hown, hlk, hts, hC, hin, hA, hE, hP, hD, hS, hL⟩ := h
  refine va_put hx hb hts (fun w hw => wsG_in (hin0 w hw)) ty hty hnm hown hC.1 hP hD hS q0 he hc k hk (hts _ (wsG_in hw)) (fun _ h => h) hfin (hty k hk) hn hf hl hd (fun H1 locs1 hP1 hD1 hS1 => ?_)
  exact kk p e s m ar be me c H1 locs1 lC ⟨hx, hb, hr, hml, hown, hlk, hts, hC, hin, hA, hE, hP1, hD1, hS1, hL⟩
theorem N.get {own C : String} {idx ci k q0 n a : Nat} {T : u_T} {fs : List Value} {v : Value} (hd : decode y.2.1 pc = .ok (.getfield idx, 3)) (ho : y.1.cls = own) (hc : vwCl[ci]? = some (C, T, n)) (hin0 : ∀ w ∈ u_ws C T n, w ∈ lwG) (hk : k < n) (hw : Cond.fieldLink own idx (T k).1 (T k).2.1 (T k).2.2.1 ∈ lwG) (he : ws[q0]? = some (a, .inr (ci, fs))) (hv : fs[k]? = some v) (kk : N g E F mc ms y A post (pc + 3) ls (v :: st) cells slots ws) : N g E F mc ms y A post pc ls (.ref a :: st) cells slots ws := by
  subst ho
  intro p e s m ar be me c H lo lC h
  obtain ⟨hx, hb, hr, hml, hown, hlk, hts, hC, hin, hA, hE, hP, hD, hS, hL⟩ := h
  exact va_get hx hb hts (fun w hw => wsG_in (hin0 w hw)) hown hC.1 hP q0 he hc k hk (hts _ (wsG_in hw)) (fun _ h => h) hv hd (kk p e s m ar be me c H lo lC ⟨hx, hb, hr, hml, hown, hlk, hts, hC, hin, hA, hE, hP, hD, hS, hL⟩)
theorem N.aast {q0 qk n a v : Nat} {vs : List Value} {f : Nat → Option Nat} {i : Int32} {j : Nat} {ws' : va_W} (hd : decode y.2.1 pc = .ok (.aastore, 1)) (ha : ws[q0]? = some (a, .inl (g.2.2.2 2, n, .inr (.inr (.inr (.inr f)))))) (hv : ws[qk]? = some (v, .inr (0, vs))) (hin : vp_in i n) (hj : i.toNatClampNeg = j) (hw' : ws.set q0 (a, .inl (g.2.2.2 2, n, .inr (.inr (.inr (.inr (va_up f j (some v))))))) = ws') (kk : N g E F mc ms y A post (pc + 1) ls st cells slots ws') : N g E F mc ms y A post pc ls (.ref v :: .int i :: .ref a :: st) cells slots ws := by
  subst hw'
  subst hj
  intro p e s m ar be me c H lo lC h
  obtain ⟨hx, hb, hr, hml, hown, hlk, hts, hC, hin', hA, hE, hP, hD, hS, hL⟩ := h
  refine va_astq (r := (RX0, TX0, 7)) hx hb hC.1 hP hD hS q0 2 qk 0 ha rfl hv rfl hin hd (fun H1 locs1 hP1 hD1 hS1 => ?_)
  exact kk p e s m ar be me c H1 locs1 lC ⟨hx, hb, hr, hml, hown, hlk, hts, hC, hin', hA, hE, hP1, hD1, hS1, hL⟩
theorem N.iast {q0 n a : Nat} {f : Nat → Int32} {i x : Int32} {j : Nat} {ws' : va_W} (hd : decode y.2.1 pc = .ok (.iastore, 1)) (ha : ws[q0]? = some (a, .inl (g.2.2.2 0, n, .inl f))) (hin : vp_in i n) (hj : i.toNatClampNeg = j) (hw' : ws.set q0 (a, .inl (g.2.2.2 0, n, .inl (upd f j x))) = ws') (kk : N g E F mc ms y A post (pc + 1) ls st cells slots ws') : N g E F mc ms y A post pc ls (.int x :: .int i :: .ref a :: st) cells slots ws := by
  subst hw'
  subst hj
  intro p e s m ar be me c H lo lC h
  obtain ⟨hx, hb, hr, hml, hown, hlk, hts, hC, hin', hA, hE, hP, hD, hS, hL⟩ := h
  refine va_iast hx hb hC.1 hP hD hS q0 0 ha rfl hin hd (fun H1 locs1 hP1 hD1 hS1 => ?_)
  exact kk p e s m ar be me c H1 locs1 lC ⟨hx, hb, hr, hml, hown, hlk, hts, hC, hin', hA, hE, hP1, hD1, hS1, hL⟩
theorem N.ldcS (hd : decode y.2.1 pc = .ok (.ldc 22, 2)) (ho : y.1.cls = RX3) (kk : N g E F mc ms y A post (pc + 2) ls (.ref (g.2.2.1 210) :: st) cells slots ws) : N g E F mc ms y A post pc ls st cells slots ws :=
  fun p e s m ar be me c H lo lC h => va_ldcS h.1 h.2.1 (ho ▸ h.2.2.2.2.1) h.2.2.2.2.2.2.2.1.2.2.2.1 hd (kk p e s m ar be me c H lo lC h)
theorem N.ret (hd : decode y.2.1 pc = .ok (.return_, 1)) (hc : cells ≤ mc) (hs : slots ≤ ms) (hp : post ws) : N g E F mc ms y A post pc ls [] cells slots ws := by
  intro p e s m ar be me c H lo lC h
  obtain ⟨hx, hb, hr, hml, hown, hlk, hts, hC, hin, hA, hE, hP, hD, hS, hL⟩ := h
  refine W.widen (k := mc) (n := ms) hc hs ?_
  exact W.vret hx hb hr (fun t ht hW => ⟨⟨ws, rfl, hp, by rw [ht]; exact hP, hD⟩, hS.F ht⟩) hS.2.2 hd
theorem va_D1 {q : Nat} {e : va_E} {sz : Nat} : va_D (va_A [(q, e)] sz) [(q, e)] := by
  refine ⟨fun i j x z hi hj _ => ?_, fun k x hk => va_A.in hk⟩
  have h1 : i < 1 := (List.getElem?_eq_some_iff.mp hi).1
  have h2 : j < 1 := (List.getElem?_eq_some_iff.mp hj).1
  omega
/-- a constructor's contract out of N at its start -/
theorem N.ct {z : XM} {As : List Value} {q : Nat} {raw : va_E} {ls0 : List (Option Value)} (hz : MOK z ∧ Cond.instanceMethod z.1 ∈ lwG ∧ z.1.name = "<init>") (hr : z.2.2.2 = none) (hl : ent z.2.2.1 (.ref q :: As) = ls0) (hn : (entL (.ref q :: As)).length ≤ z.2.2.1) (h : ∀ A : Nat → Prop, N g E F mc ms z A post 0 ls0 [] 0 0 [(q, raw)]) : CT g E z F As q raw post mc ms := by
  intro sz
  refine Met.ofW (cc := z.2.1) (maxL := z.2.2.1) (ret := z.2.2.2) hz.1.2.2.2.1 rfl ?_
  intro p e s m args below meth c s₁ B hml hv
  obtain ⟨rfl, rfl, hP, hC, hE⟩ := hv
  rw [lg_entry_eq]
  have hen := lv_entry ((.ref q :: As).map (cvv id)) (n := z.2.2.1) (by rw [entL_len]; exact hn)
  rw [cvv_id, List.map_id] at hen
  refine h _ p e s m _ below meth c s.heap [] _ ⟨B.exec, B.bytes, by rw [← hr]; exact B.returns, hml, findClass_of_methodNamed B.named, B.notSynchronized, atoms_spec (ws := wsG z) B.pre, hC, by rw [← hz.2.2]; exact (name_of_methodNamed B.named B.method).1, fun _ h => Or.inr h, hE, hP, va_D1, va_S.rf, ?_⟩
  refine ⟨hen.1, hen.2.1, fun i v hi => ?_⟩
  rw [← hl] at hi
  have hm := ent_mem (ad := id) hi
  rw [cvv_id, List.map_id] at hm
  have := hen.2.2 _ hm
  rw [cvv_id]
  exact this
/-- behind a constructor's call: its world stands where its raw object stood -/
theorem va_jn {D : va_G} {cl : List vw_C} {B : va_W} {q : Nat} {raw : va_E} {H H1 : Heap} (hP : va_P D cl (ws ++ [(q, raw)]) H) (hD : va_D A (ws ++ [(q, raw)])) (hF : ∀ x, va_A [(q, raw)] H.size x → A x) (hk : ∀ x : Nat, x < H.size → ¬ va_A [(q, raw)] H.size x → H1[x]? = H[x]?) (hP1 : va_P D cl B H1) (hD1 : va_D (va_A [(q, raw)] H.size) B) : va_P D cl (ws ++ B) H1 ∧ va_D A (ws ++ B) := by
  have inl : ∀ (k : Nat) (x : Nat × va_E), ws[k]? = some x → (ws ++ [(q, raw)])[k]? = some x := fun k x hx => by
    rw [List.getElem?_append_left (List.getElem?_eq_some_iff.mp hx).1]
    exact hx
  have apart : ∀ (k : Nat) (x : Nat × va_E), ws[k]? = some x → x.1 < H.size ∧ ¬ va_A [(q, raw)] H.size x.1 := fun k x hx => by
    have hl := (hP k x (inl k x hx)).lt
    refine ⟨hl, fun h => ?_⟩
    rcases h with ⟨k2, e2, h⟩ | h
    · have h1 : k2 < 1 := (List.getElem?_eq_some_iff.mp h).1
      obtain rfl : k2 = 0 := by omega
      have h2 : (q, raw) = (x.1, e2) := Option.some.inj h
      have h3 : q = x.1 := congrArg Prod.fst h2
      have h4 := hD.1 k ws.length x (q, raw) (inl k x hx) (by rw [List.getElem?_append_right (Nat.le_refl _), Nat.sub_self]; rfl) h3.symm
      have := (List.getElem?_eq_some_iff.mp hx).1
      omega
    · omega
  refine ⟨va_P.app (fun k x hx => (hP k x (inl k x hx)).kept (hk x.1 (apart k x hx).1 (apart k x hx).2)) hP1, va_D.app ⟨fun i j x z hi hj => hD.1 i j x z (inl i x hi) (inl j z hj), fun k x hx => hD.2 k x (inl k x hx)⟩ (hD1.weaken (fun k x _ h => hF x.1 h)) (fun i j x z hx hz hxz => ?_)⟩
  exact (apart i x hx).2 (by rw [hxz]; exact hD1.2 j z hz)
theorem N.call {E' : EE} {z : XM} {own : String} {idx q n F' mc' ms' : Nat} {As : List Value} {raw : va_E} {post' : va_W → Prop} (hd : decode y.2.1 pc = .ok (.invokespecial idx, 3)) (ho : y.1.cls = own) (hw : Cond.methodLink own idx z.1 ∈ lwG ∨ ∃ host, (own, idx, z.1, host) ∈ nwI) (hz : MOK z ∧ Cond.instanceMethod z.1 ∈ lwG ∧ z.1.name = "<init>") (hr : z.2.2.2 = none) (hn : np z n) (hl : As.length = n) (hM : CT g E' z F' As q raw post' mc' ms') (hE' : EOK E') (hEE : ∀ (s U : State) (H : Heap) (locs : List Loc), E A s → va_S A s.heap H locs → va_D A (ws ++ [(q, raw)]) → U.heap = H → s.WarmedH U.vm → E' (va_A [(q, raw)] H.size) U) (hF : F' + 1 ≤ F) (hc : cells + mc' ≤ mc) (hs : slots + ms' ≤ ms) (hst : stS st ≤ 8) (kk : ∀ B, post' B → N g E F mc ms y A post (pc + 3) ls st (cells + mc') (slots + ms') (ws ++ B)) : N g E F mc ms y A post pc ls (As.reverse ++ .ref q :: st) cells slots (ws ++ [(q, raw)]) := by
  subst ho
  intro p e s m ar be me c H lo lC h
  obtain ⟨hx, hb, hr0, hml, hown, hlk, hts, hC, hin, hA, hE, hP, hD, hS, hL⟩ := h
  have hFr : ∀ x, va_A [(q, raw)] H.size x → A x := fun x hx => by
    rcases hx with ⟨k, e1, h1⟩ | h1
    · have h2 : k < 1 := (List.getElem?_eq_some_iff.mp h1).1
      obtain rfl : k = 0 := by omega
      have h3 : (q, raw) = (x, e1) := Option.some.inj h1
      have h4 : q = x := congrArg Prod.fst h3
      rw [← h4]
      exact hD.2 ws.length (q, raw) (by rw [List.getElem?_append_right (Nat.le_refl _), Nat.sub_self]; rfl)
    · exact hA x (Nat.le_trans hS.1 h1)
  have hPc : va_P g.2.1 vwCl [(q, raw)] H := fun k x hx => hP (ws.length + k) x (by rw [List.getElem?_append_right (Nat.le_add_right _ _), Nat.add_sub_cancel_left]; exact hx)
  have hpre : PreS s H (fun a U => a = (.ref q :: As).toArray ∧ U.heap.size = H.size ∧ va_P g.2.1 vwCl [(q, raw)] U.heap ∧ Cn g U ∧ E' (va_A [(q, raw)] H.size) U) (.ref q :: As) :=
    ⟨fun a U g' mk h => ⟨h.1, h.2.1, h.2.2.1, h.2.2.2.1.same rfl, hE' _ U _ rfl rfl h.2.2.2.2⟩, fun U hU hW => ⟨rfl, by rw [hU], by rw [hU]; exact hPc, hC.go hW, hEE s U H lo hE hS hD hU hW⟩⟩
  have hrm : (rmN F' mc' ms').frames + 1 ≤ (rmN F mc ms).frames ∧ 8 + (z.2.2.1 + 11) + (rmN F' mc' ms').locals ≤ (rmN F mc ms).locals := by
    have := hz.1.2.2.2.2
    refine ⟨hF, ?_⟩
    show 8 + (z.2.2.1 + 11) + 60 * F' ≤ 60 * F
    omega
  have hwz : wsG z = Cond.code z.1 z.2.1 z.2.2.1 none :: lwG := by unfold wsG; rw [hr]
  have run : va_Run p g.1 e (rmN F mc ms) s m ar be me c H lo cells slots mc' ms' (F0 m pc lC (As.reverse ++ .ref q :: st)) st (QN g (va_A [(q, raw)] H.size) post' (Value.ref q :: As).toArray) (va_A [(q, raw)] H.size) := by
    rcases hw with hw | ⟨host, hw⟩
    · exact va_runI (As := As) (rest := st) ⟨hx, hb, hml, hown, hts⟩ (hM H.size) ⟨callB_of n hts (wsG_good hz.1) hwz rfl rfl (hts _ (wsG_in hz.1.2.1)) (hts _ (wsG_in hw)) ⟨hz.1.2.2.1.1, hz.1.2.2.1.2, hn⟩ hrm, hz.2.2, hts _ (wsG_in hz.2.1)⟩ hpre rfl hl hL.1 rfl (lv_room hst) hd ⟨hc, hs⟩
    · exact va_runIN (host := host) (As := As) (rest := st) ⟨hx, hb, hml, hown, hts⟩ (hM H.size) ⟨va_cnB n hts (wsG_good hz.1) hwz rfl rfl (hC.2.2.2.2 _ hw) (hts _ (wsG_in hz.1.2.1)) ⟨hz.1.2.2.1.1, hz.1.2.2.1.2, hn⟩ hrm, hz.2.2, hts _ (wsG_in hz.2.1)⟩ hpre rfl hl hL.1 rfl (lv_room hst) hd ⟨hc, hs⟩
  refine va_callv run hS (fun x _ h => hFr x h) hFr (fun B t H1 locs1 ht hvm hpost hB hsz hk hS1 => ?_)
  rw [ht] at hB
  obtain ⟨hP1, hD1⟩ := va_jn hP hD hFr hk hB.1 hB.2
  exact kk B hpost p e s m ar be me c H1 locs1 lC ⟨hx, hb, hr0, hml, hown, hlk, hts, hC, hin, hA, hE, hP1, hD1, hS1, hL⟩
end NR


