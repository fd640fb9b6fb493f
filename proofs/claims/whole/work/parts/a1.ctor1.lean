/-! ===== constructors ===== -/
abbrev ar0 (g : GG) (k : Nat) : va_E := .inl (g.2.2.2 0, k, .inl (fun _ => 0))
abbrev az0 (g : GG) (k : Nat) : va_E := .inl (g.2.2.2 1, k, .inl (fun _ => 0))
abbrev aq0 (g : GG) (k : Nat) (f : Nat → Option Nat) : va_E := .inl (g.2.2.2 2, k, .inr (.inr (.inr (.inr f))))
abbrev am0 (g : GG) (k : Nat) (r : Nat → Nat) : va_E := .inl (g.2.2.2 3, k, .inr (.inr (.inr (.inr (fun i => if i < k then some (r i) else none)))))
theorem flw_1_11 : Cond.fieldLink RX1 11 (TX1 1).1 (TX1 1).2.1 (TX1 1).2.2.1 ∈ lwG := lwg 291 (by decide +kernel) (by decide +kernel)
theorem flw_1_16 : Cond.fieldLink RX1 16 (TX1 2).1 (TX1 2).2.1 (TX1 2).2.2.1 ∈ lwG := lwg 292 (by decide +kernel) (by decide +kernel)
theorem flw_1_20 : Cond.fieldLink RX1 20 (TX1 3).1 (TX1 3).2.1 (TX1 3).2.2.1 ∈ lwG := lwg 293 (by decide +kernel) (by decide +kernel)
theorem flw_1_23 : Cond.fieldLink RX1 23 (TX1 0).1 (TX1 0).2.1 (TX1 0).2.2.1 ∈ lwG := lwg 290 (by decide +kernel) (by decide +kernel)
theorem flw_2_9 : Cond.fieldLink RX2 9 (TX2 0).1 (TX2 0).2.1 (TX2 0).2.2.1 ∈ lwG := lwg 116 (by decide +kernel) (by decide +kernel)
theorem flw_2_15 : Cond.fieldLink RX2 15 (TX2 2).1 (TX2 2).2.1 (TX2 2).2.2.1 ∈ lwG := lwg 118 (by decide +kernel) (by decide +kernel)
theorem flw_2_18 : Cond.fieldLink RX2 18 (TX2 3).1 (TX2 3).2.1 (TX2 3).2.2.1 ∈ lwG := lwg 119 (by decide +kernel) (by decide +kernel)
theorem flw_3_12 : Cond.fieldLink RX3 12 (TX3 0).1 (TX3 0).2.1 (TX3 0).2.2.1 ∈ lwG := lwg 264 (by decide +kernel) (by decide +kernel)
theorem flw_3_18 : Cond.fieldLink RX3 18 (TX3 1).1 (TX3 1).2.1 (TX3 1).2.2.1 ∈ lwG := lwg 266 (by decide +kernel) (by decide +kernel)
theorem flw_3_24 : Cond.fieldLink RX3 24 (TX3 4).1 (TX3 4).2.1 (TX3 4).2.2.1 ∈ lwG := lwg 269 (by decide +kernel) (by decide +kernel)
theorem flw_4_11 : Cond.fieldLink RX4 11 (TX4 0).1 (TX4 0).2.1 (TX4 0).2.2.1 ∈ lwG := lwg 378 (by decide +kernel) (by decide +kernel)
theorem flw_4_14 : Cond.fieldLink RX4 14 (TX4 1).1 (TX4 1).2.1 (TX4 1).2.2.1 ∈ lwG := lwg 379 (by decide +kernel) (by decide +kernel)
theorem flw_4_18 : Cond.fieldLink RX4 18 (TX4 2).1 (TX4 2).2.1 (TX4 2).2.2.1 ∈ lwG := lwg 380 (by decide +kernel) (by decide +kernel)
theorem flw_5_9 : Cond.fieldLink RX5 9 (TX5 2).1 (TX5 2).2.1 (TX5 2).2.2.1 ∈ lwG := lwg 311 (by decide +kernel) (by decide +kernel)
theorem flw_5_15 : Cond.fieldLink RX5 15 (TX5 4).1 (TX5 4).2.1 (TX5 4).2.2.1 ∈ lwG := lwg 313 (by decide +kernel) (by decide +kernel)
theorem flw_5_18 : Cond.fieldLink RX5 18 (TX5 0).1 (TX5 0).2.1 (TX5 0).2.2.1 ∈ lwG := lwg 309 (by decide +kernel) (by decide +kernel)
theorem flw_5_22 : Cond.fieldLink RX5 22 (TX5 1).1 (TX5 1).2.1 (TX5 1).2.2.1 ∈ lwG := lwg 310 (by decide +kernel) (by decide +kernel)
theorem flw_6_9 : Cond.fieldLink RX6 9 (TX6 2).1 (TX6 2).2.1 (TX6 2).2.2.1 ∈ lwG := lwg 333 (by decide +kernel) (by decide +kernel)
theorem flw_6_15 : Cond.fieldLink RX6 15 (TX6 3).1 (TX6 3).2.1 (TX6 3).2.2.1 ∈ lwG := lwg 334 (by decide +kernel) (by decide +kernel)
theorem flw_6_18 : Cond.fieldLink RX6 18 (TX6 4).1 (TX6 4).2.1 (TX6 4).2.2.1 ∈ lwG := lwg 335 (by decide +kernel) (by decide +kernel)
theorem flw_6_21 : Cond.fieldLink RX6 21 (TX6 0).1 (TX6 0).2.1 (TX6 0).2.2.1 ∈ lwG := lwg 331 (by decide +kernel) (by decide +kernel)
theorem flw_6_25 : Cond.fieldLink RX6 25 (TX6 1).1 (TX6 1).2.1 (TX6 1).2.2.1 ∈ lwG := lwg 332 (by decide +kernel) (by decide +kernel)
theorem flw_7_9 : Cond.fieldLink RX7 9 (TX7 0).1 (TX7 0).2.1 (TX7 0).2.2.1 ∈ lwG := lwg 176 (by decide +kernel) (by decide +kernel)
theorem flw_7_17 : Cond.fieldLink RX7 17 (TX7 1).1 (TX7 1).2.1 (TX7 1).2.2.1 ∈ lwG := lwg 177 (by decide +kernel) (by decide +kernel)
theorem flw_7_21 : Cond.fieldLink RX7 21 (TX7 3).1 (TX7 3).2.1 (TX7 3).2.2.1 ∈ lwG := lwg 187 (by decide +kernel) (by decide +kernel)
theorem flw_7_24 : Cond.fieldLink RX7 24 (TX7 6).1 (TX7 6).2.1 (TX7 6).2.2.1 ∈ lwG := lwg 200 (by decide +kernel) (by decide +kernel)
theorem flw_7_28 : Cond.fieldLink RX7 28 (TX7 7).1 (TX7 7).2.1 (TX7 7).2.2.1 ∈ lwG := lwg 204 (by decide +kernel) (by decide +kernel)
theorem flw_7_31 : Cond.fieldLink RX7 31 (TX7 8).1 (TX7 8).2.1 (TX7 8).2.2.1 ∈ lwG := lwg 207 (by decide +kernel) (by decide +kernel)
theorem flw_7_37 : Cond.fieldLink RX7 37 (TX7 10).1 (TX7 10).2.1 (TX7 10).2.2.1 ∈ lwG := lwg 211 (by decide +kernel) (by decide +kernel)
theorem flw_7_41 : Cond.fieldLink RX7 41 (TX7 11).1 (TX7 11).2.1 (TX7 11).2.2.1 ∈ lwG := lwg 213 (by decide +kernel) (by decide +kernel)
theorem flw_7_44 : Cond.fieldLink RX7 44 (TX7 12).1 (TX7 12).2.1 (TX7 12).2.2.1 ∈ lwG := lwg 215 (by decide +kernel) (by decide +kernel)
theorem flw_7_47 : Cond.fieldLink RX7 47 (TX7 13).1 (TX7 13).2.1 (TX7 13).2.2.1 ∈ lwG := lwg 217 (by decide +kernel) (by decide +kernel)
theorem flw_7_50 : Cond.fieldLink RX7 50 (TX7 15).1 (TX7 15).2.1 (TX7 15).2.2.1 ∈ lwG := lwg 221 (by decide +kernel) (by decide +kernel)
theorem flw_8_11 : Cond.fieldLink RX8 11 (TX8 0).1 (TX8 0).2.1 (TX8 0).2.2.1 ∈ lwG := lwg 353 (by decide +kernel) (by decide +kernel)
theorem flw_9_12 : Cond.fieldLink RX9 12 (TX9 0).1 (TX9 0).2.1 (TX9 0).2.2.1 ∈ lwG := lwg 579 (by decide +kernel) (by decide +kernel)
theorem flw_9_16 : Cond.fieldLink RX9 16 (TX9 1).1 (TX9 1).2.1 (TX9 1).2.2.1 ∈ lwG := lwg 580 (by decide +kernel) (by decide +kernel)
theorem flw_9_22 : Cond.fieldLink RX9 22 (TX9 2).1 (TX9 2).2.1 (TX9 2).2.2.1 ∈ lwG := lwg 581 (by decide +kernel) (by decide +kernel)
theorem flw_9_31 : Cond.fieldLink RX9 31 (TX9 3).1 (TX9 3).2.1 (TX9 3).2.2.1 ∈ lwG := lwg 582 (by decide +kernel) (by decide +kernel)
theorem flw_9_40 : Cond.fieldLink RX9 40 (TX9 4).1 (TX9 4).2.1 (TX9 4).2.2.1 ∈ lwG := lwg 583 (by decide +kernel) (by decide +kernel)
theorem flw_9_47 : Cond.fieldLink RX9 47 (TX9 5).1 (TX9 5).2.1 (TX9 5).2.2.1 ∈ lwG := lwg 584 (by decide +kernel) (by decide +kernel)
theorem flw_9_54 : Cond.fieldLink RX9 54 (TX9 6).1 (TX9 6).2.1 (TX9 6).2.2.1 ∈ lwG := lwg 585 (by decide +kernel) (by decide +kernel)
theorem flw_9_61 : Cond.fieldLink RX9 61 (TX9 7).1 (TX9 7).2.1 (TX9 7).2.2.1 ∈ lwG := lwg 586 (by decide +kernel) (by decide +kernel)
theorem flw_9_65 : Cond.fieldLink RX9 65 (TX9 8).1 (TX9 8).2.1 (TX9 8).2.2.1 ∈ lwG := lwg 587 (by decide +kernel) (by decide +kernel)
theorem flw_10_7 : Cond.fieldLink RX10 7 (TX10 0).1 (TX10 0).2.1 (TX10 0).2.2.1 ∈ lwG := lwg 1145 (by decide +kernel) (by decide +kernel)
theorem flw_10_13 : Cond.fieldLink RX10 13 (TX10 1).1 (TX10 1).2.1 (TX10 1).2.2.1 ∈ lwG := lwg 1146 (by decide +kernel) (by decide +kernel)
theorem flw_10_16 : Cond.fieldLink RX10 16 (TX10 2).1 (TX10 2).2.1 (TX10 2).2.2.1 ∈ lwG := lwg 1147 (by decide +kernel) (by decide +kernel)
theorem flw_10_19 : Cond.fieldLink RX10 19 (TX10 4).1 (TX10 4).2.1 (TX10 4).2.2.1 ∈ lwG := lwg 1149 (by decide +kernel) (by decide +kernel)
theorem flw_10_22 : Cond.fieldLink RX10 22 (TX10 11).1 (TX10 11).2.1 (TX10 11).2.2.1 ∈ lwG := lwg 1156 (by decide +kernel) (by decide +kernel)
theorem flw_10_25 : Cond.fieldLink RX10 25 (TX10 12).1 (TX10 12).2.1 (TX10 12).2.2.1 ∈ lwG := lwg 1157 (by decide +kernel) (by decide +kernel)
theorem flw_10_28 : Cond.fieldLink RX10 28 (TX10 13).1 (TX10 13).2.1 (TX10 13).2.2.1 ∈ lwG := lwg 1158 (by decide +kernel) (by decide +kernel)
theorem flw_10_32 : Cond.fieldLink RX10 32 (TX10 14).1 (TX10 14).2.1 (TX10 14).2.2.1 ∈ lwG := lwg 1159 (by decide +kernel) (by decide +kernel)
theorem flw_10_35 : Cond.fieldLink RX10 35 (TX10 16).1 (TX10 16).2.1 (TX10 16).2.2.1 ∈ lwG := lwg 1161 (by decide +kernel) (by decide +kernel)
theorem flw_10_38 : Cond.fieldLink RX10 38 (TX10 17).1 (TX10 17).2.1 (TX10 17).2.2.1 ∈ lwG := lwg 1162 (by decide +kernel) (by decide +kernel)
theorem flw_10_41 : Cond.fieldLink RX10 41 (TX10 18).1 (TX10 18).2.1 (TX10 18).2.2.1 ∈ lwG := lwg 1163 (by decide +kernel) (by decide +kernel)
theorem flw_10_44 : Cond.fieldLink RX10 44 (TX10 19).1 (TX10 19).2.1 (TX10 19).2.2.1 ∈ lwG := lwg 1164 (by decide +kernel) (by decide +kernel)
theorem flw_10_47 : Cond.fieldLink RX10 47 (TX10 20).1 (TX10 20).2.1 (TX10 20).2.2.1 ∈ lwG := lwg 1165 (by decide +kernel) (by decide +kernel)
theorem flw_10_50 : Cond.fieldLink RX10 50 (TX10 21).1 (TX10 21).2.1 (TX10 21).2.2.1 ∈ lwG := lwg 1166 (by decide +kernel) (by decide +kernel)
theorem flw_10_53 : Cond.fieldLink RX10 53 (TX10 24).1 (TX10 24).2.1 (TX10 24).2.2.1 ∈ lwG := lwg 1169 (by decide +kernel) (by decide +kernel)
theorem flw_10_56 : Cond.fieldLink RX10 56 (TX10 25).1 (TX10 25).2.1 (TX10 25).2.2.1 ∈ lwG := lwg 1170 (by decide +kernel) (by decide +kernel)
theorem flw_10_59 : Cond.fieldLink RX10 59 (TX10 26).1 (TX10 26).2.1 (TX10 26).2.2.1 ∈ lwG := lwg 1171 (by decide +kernel) (by decide +kernel)
theorem flw_10_62 : Cond.fieldLink RX10 62 (TX10 27).1 (TX10 27).2.1 (TX10 27).2.2.1 ∈ lwG := lwg 1172 (by decide +kernel) (by decide +kernel)
theorem rawX0 : ∀ j, j < 7 → defaultValue (tyX0 j) = vp_V [.int 0, .int 0, .int 0, .int 0, .int 0, .int 0, .int 0] j := fun j hj => by rcases (show j = 0 ∨ j = 1 ∨ j = 2 ∨ j = 3 ∨ j = 4 ∨ j = 5 ∨ j = 6 by omega) with rfl | rfl | rfl | rfl | rfl | rfl | rfl <;> rfl
theorem rawX1 : ∀ j, j < 4 → defaultValue (tyX1 j) = vp_V [.null, .null, .null, .null] j := fun j hj => by rcases (show j = 0 ∨ j = 1 ∨ j = 2 ∨ j = 3 by omega) with rfl | rfl | rfl | rfl <;> rfl
theorem rawX2 : ∀ j, j < 4 → defaultValue (tyX2 j) = vp_V [.null, .int 0, .null, .null] j := fun j hj => by rcases (show j = 0 ∨ j = 1 ∨ j = 2 ∨ j = 3 by omega) with rfl | rfl | rfl | rfl <;> rfl
theorem rawX3 : ∀ j, j < 5 → defaultValue (tyX3 j) = vp_V [.null, .null, .int 0, .int 0, .null] j := fun j hj => by rcases (show j = 0 ∨ j = 1 ∨ j = 2 ∨ j = 3 ∨ j = 4 by omega) with rfl | rfl | rfl | rfl | rfl <;> rfl
theorem rawX4 : ∀ j, j < 3 → defaultValue (tyX4 j) = vp_V [.null, .null, .null] j := fun j hj => by rcases (show j = 0 ∨ j = 1 ∨ j = 2 by omega) with rfl | rfl | rfl <;> rfl
theorem rawX5 : ∀ j, j < 5 → defaultValue (tyX5 j) = vp_V [.null, .null, .null, .int 0, .null] j := fun j hj => by rcases (show j = 0 ∨ j = 1 ∨ j = 2 ∨ j = 3 ∨ j = 4 by omega) with rfl | rfl | rfl | rfl | rfl <;> rfl
theorem rawX6 : ∀ j, j < 5 → defaultValue (tyX6 j) = vp_V [.null, .null, .null, .null, .null] j := fun j hj => by rcases (show j = 0 ∨ j = 1 ∨ j = 2 ∨ j = 3 ∨ j = 4 by omega) with rfl | rfl | rfl | rfl | rfl <;> rfl
theorem rawX7 : ∀ j, j < 16 → defaultValue (tyX7 j) = vp_V [.null, .null, .int 0, .null, .int 0, .int 0, .int 0, .int 0, .null, .int 0, .null, .null, .int 0, .null, .int 0, .null] j := fun j hj => by rcases (show j = 0 ∨ j = 1 ∨ j = 2 ∨ j = 3 ∨ j = 4 ∨ j = 5 ∨ j = 6 ∨ j = 7 ∨ j = 8 ∨ j = 9 ∨ j = 10 ∨ j = 11 ∨ j = 12 ∨ j = 13 ∨ j = 14 ∨ j = 15 by omega) with rfl | rfl | rfl | rfl | rfl | rfl | rfl | rfl | rfl | rfl | rfl | rfl | rfl | rfl | rfl | rfl <;> rfl
theorem rawX8 : ∀ j, j < 5 → defaultValue (tyX8 j) = vp_V [.null, .int 0, .int 0, .int 0, .int 0] j := fun j hj => by rcases (show j = 0 ∨ j = 1 ∨ j = 2 ∨ j = 3 ∨ j = 4 by omega) with rfl | rfl | rfl | rfl | rfl <;> rfl
theorem rawX9 : ∀ j, j < 10 → defaultValue (tyX9 j) = vp_V [.null, .null, .null, .null, .null, .null, .null, .null, .null, .int 0] j := fun j hj => by rcases (show j = 0 ∨ j = 1 ∨ j = 2 ∨ j = 3 ∨ j = 4 ∨ j = 5 ∨ j = 6 ∨ j = 7 ∨ j = 8 ∨ j = 9 by omega) with rfl | rfl | rfl | rfl | rfl | rfl | rfl | rfl | rfl | rfl <;> rfl
theorem rawX10 : ∀ j, j < 28 → defaultValue (tyX10 j) = vp_V [.null, .null, .null, .int 0, .null, .int 0, .int 0, .int 0, .int 0, .int 0, .int 0, .null, .null, .null, .null, .int 0, .null, .null, .null, .null, .null, .null, .int 0, .int 0, .null, .null, .null, .null] j := fun j hj => by rcases (show j = 0 ∨ j = 1 ∨ j = 2 ∨ j = 3 ∨ j = 4 ∨ j = 5 ∨ j = 6 ∨ j = 7 ∨ j = 8 ∨ j = 9 ∨ j = 10 ∨ j = 11 ∨ j = 12 ∨ j = 13 ∨ j = 14 ∨ j = 15 ∨ j = 16 ∨ j = 17 ∨ j = 18 ∨ j = 19 ∨ j = 20 ∨ j = 21 ∨ j = 22 ∨ j = 23 ∨ j = 24 ∨ j = 25 ∨ j = 26 ∨ j = 27 by omega) with rfl | rfl | rfl | rfl | rfl | rfl | rfl | rfl | rfl | rfl | rfl | rfl | rfl | rfl | rfl | rfl | rfl | rfl | rfl | rfl | rfl | rfl | rfl | rfl | rfl | rfl | rfl | rfl <;> rfl
set_option maxHeartbeats 4000000 in
set_option maxRecDepth 100000 in
theorem k_X0 {g : GG} {q : Nat} : CT g E0 mX0_init 1 [] q (.inr (0, [.int 0, .int 0, .int 0, .int 0, .int 0, .int 0, .int 0])) (fun B => B = [(q, .inr (0, [.int 0, .int 0, .int 0, .int 0, .int 0, .int 0, .int 0]))]) 0 0 := by
  refine N.ct miX_X0 rfl (ls0 := [some (.ref q)]) rfl (Nat.le_of_ble_eq_true rfl) (fun A => ?_)
  refine N.aload dX0_init_0 rfl (i := 0) rfl ?_
  refine N.obj dX0_init_1 rfl oiL_RX0 (by decide) ?_
  exact N.ret dX0_init_4 (by decide) (by decide) rfl
def bX2 (g : GG) (q : Nat) (f : Nat → Nat) : va_W := [(q, .inr (2, [.ref (f 0), .int 0, .ref (f 1), .ref (f 2)])), ((f 0), ar0 g 50), ((f 1), ar0 g 5), ((f 2), ar0 g 50)]
set_option maxHeartbeats 4000000 in
set_option maxRecDepth 100000 in
theorem k_X2 {g : GG} {q : Nat} : CT g E0 mX2_init 1 [] q (.inr (2, [.null, .int 0, .null, .null])) (fun B => ∃ f : Nat → Nat, B = bX2 g q f) 3 105 := by
  refine N.ct miX_X2 rfl (ls0 := [some (.ref q)]) rfl (Nat.le_of_ble_eq_true rfl) (fun A => ?_)
  refine N.aload dX2_init_0 rfl (i := 0) rfl ?_
  refine N.obj dX2_init_1 rfl oiL_RX2 (by decide) ?_
  refine N.aload dX2_init_4 rfl (i := 0) rfl ?_
  refine N.bipush dX2_init_5 (v := 50) (by decide) ?_
  refine N.newi dX2_init_7 (by decide) (k := 50) (by decide) (by decide) (by decide) (by decide) (fun q7 => ?_)
  refine N.putF dX2_init_9 rfl (ci := 2) rfl inG2 tyX2_ok nmX2 (k := 0) (by decide) flw_2_9 rfl rfl (q0 := 0) rfl rfl rfl (Nat.le_of_ble_eq_true rfl) (ws' := [(q, .inr (2, [.ref q7, .int 0, .null, .null])), (q7, ar0 g 50)]) rfl ?_
  refine N.aload dX2_init_12 rfl (i := 0) rfl ?_
  refine N.iconst dX2_init_13 (v := 5) (by decide) ?_
  refine N.newi dX2_init_14 (by decide) (k := 5) (by decide) (by decide) (by decide) (by decide) (fun q14 => ?_)
  refine N.putF dX2_init_16 rfl (ci := 2) rfl inG2 tyX2_ok nmX2 (k := 2) (by decide) flw_2_15 rfl rfl (q0 := 0) rfl rfl rfl (Nat.le_of_ble_eq_true rfl) (ws' := [(q, .inr (2, [.ref q7, .int 0, .ref q14, .null])), (q7, ar0 g 50), (q14, ar0 g 5)]) rfl ?_
  refine N.aload dX2_init_19 rfl (i := 0) rfl ?_
  refine N.bipush dX2_init_20 (v := 50) (by decide) ?_
  refine N.newi dX2_init_22 (by decide) (k := 50) (by decide) (by decide) (by decide) (by decide) (fun q22 => ?_)
  refine N.putF dX2_init_24 rfl (ci := 2) rfl inG2 tyX2_ok nmX2 (k := 3) (by decide) flw_2_18 rfl rfl (q0 := 0) rfl rfl rfl (Nat.le_of_ble_eq_true rfl) (ws' := [(q, .inr (2, [.ref q7, .int 0, .ref q14, .ref q22])), (q7, ar0 g 50), (q14, ar0 g 5), (q22, ar0 g 50)]) rfl ?_
  exact N.ret dX2_init_27 (by decide) (by decide) ⟨fun i => [q7, q14, q22].getD i 0, rfl⟩
def bX8 (g : GG) (q : Nat) (f : Nat → Nat) : va_W := [(q, .inr (8, [.ref (f 0), .int 0, .int 0, .int 0, .int 0])), ((f 0), ar0 g 40)]
set_option maxHeartbeats 4000000 in
set_option maxRecDepth 100000 in
theorem k_X8 {g : GG} {q : Nat} : CT g E0 mX8_init 1 [] q (.inr (8, [.null, .int 0, .int 0, .int 0, .int 0])) (fun B => ∃ f : Nat → Nat, B = bX8 g q f) 1 40 := by
  refine N.ct miX_X8 rfl (ls0 := [some (.ref q)]) rfl (Nat.le_of_ble_eq_true rfl) (fun A => ?_)
  refine N.aload dX8_init_0 rfl (i := 0) rfl ?_
  refine N.obj dX8_init_1 rfl oiL_RX8 (by decide) ?_
  refine N.aload dX8_init_4 rfl (i := 0) rfl ?_
  refine N.bipush dX8_init_5 (v := 40) (by decide) ?_
  refine N.newi dX8_init_7 (by decide) (k := 40) (by decide) (by decide) (by decide) (by decide) (fun q7 => ?_)
  refine N.putF dX8_init_9 rfl (ci := 8) rfl inG8 tyX8_ok nmX8 (k := 0) (by decide) flw_8_11 rfl rfl (q0 := 0) rfl rfl rfl (Nat.le_of_ble_eq_true rfl) (ws' := [(q, .inr (8, [.ref q7, .int 0, .int 0, .int 0, .int 0])), (q7, ar0 g 40)]) rfl ?_
  exact N.ret dX8_init_12 (by decide) (by decide) ⟨fun i => [q7].getD i 0, rfl⟩
def bX3 (g : GG) (q : Nat) (f : Nat → Nat) : va_W := [(q, .inr (3, [.ref (f 0), .ref (f 4), .int 0, .int 0, .ref (g.2.2.1 210)])), ((f 0), .inr (2, [.ref (f 1), .int 0, .ref (f 2), .ref (f 3)])), ((f 1), ar0 g 50), ((f 2), ar0 g 5), ((f 3), ar0 g 50), ((f 4), ar0 g 50)]
set_option maxHeartbeats 4000000 in
set_option maxRecDepth 100000 in
theorem k_X3 {g : GG} {q : Nat} : CT g E0 mX3_init 2 [] q (.inr (3, [.null, .null, .int 0, .int 0, .null])) (fun B => ∃ f : Nat → Nat, B = bX3 g q f) 5 159 := by
  refine N.ct miX_X3 rfl (ls0 := [some (.ref q)]) rfl (Nat.le_of_ble_eq_true rfl) (fun A => ?_)
  refine N.aload dX3_init_0 rfl (i := 0) rfl ?_
  refine N.obj dX3_init_1 rfl oiL_RX3 (by decide) ?_
  refine N.aload dX3_init_4 rfl (i := 0) rfl ?_
  refine N.new dX3_init_5 rfl (ci := 2) rfl inG2 tyX2_ok ckRX3_9 insRX2 iniRX2 rawX2 (by decide) (by decide) (fun q5 => ?_)
  refine N.dup dX3_init_8 rfl ?_
  refine N.call (As := []) (ws := [(q, .inr (3, [.null, .null, .int 0, .int 0, .null]))]) dX3_init_9 rfl (Or.inr ⟨"OneBreath", List.mem_of_getElem? (i := 3) rfl⟩) miX_X2 rfl npX2_init rfl (k_X2) E0_ok (fun _ _ _ _ _ _ _ _ _ => trivial) (by decide) (by decide) (by decide) (Nat.le_of_ble_eq_true rfl) (fun B9 hB9 => ?_)
  obtain ⟨f9, rfl⟩ := hB9
  refine N.putF dX3_init_12 rfl (ci := 3) rfl inG3 tyX3_ok nmX3 (k := 0) (by decide) flw_3_12 rfl rfl (q0 := 0) rfl rfl rfl (Nat.le_of_ble_eq_true rfl) (ws' := ([(q, .inr (3, [.ref q5, .null, .int 0, .int 0, .null]))] ++ bX2 g q5 f9)) rfl ?_
  refine N.aload dX3_init_15 rfl (i := 0) rfl ?_
  refine N.bipush dX3_init_16 (v := 50) (by decide) ?_
  refine N.newi dX3_init_18 (by decide) (k := 50) (by decide) (by decide) (by decide) (by decide) (fun q18 => ?_)
  refine N.putF dX3_init_20 rfl (ci := 3) rfl inG3 tyX3_ok nmX3 (k := 1) (by decide) flw_3_18 rfl rfl (q0 := 0) rfl rfl rfl (Nat.le_of_ble_eq_true rfl) (ws' := (([(q, .inr (3, [.ref q5, .ref q18, .int 0, .int 0, .null]))] ++ bX2 g q5 f9) ++ [(q18, ar0 g 50)])) rfl ?_
  refine N.aload dX3_init_23 rfl (i := 0) rfl ?_
  refine N.ldcS dX3_init_24 rfl ?_
  refine N.put dX3_init_26 rfl (ci := 3) rfl inG3 tyX3_ok nmX3 (k := 4) (by decide) flw_3_24 rfl (q0 := 0) rfl rfl rfl (Nat.le_of_ble_eq_true rfl) (ws' := (([(q, .inr (3, [.ref q5, .ref q18, .int 0, .int 0, .ref (g.2.2.1 210)]))] ++ bX2 g q5 f9) ++ [(q18, ar0 g 50)])) rfl ?_
  exact N.ret dX3_init_29 (by decide) (by decide) ⟨fun i => [q5, (f9 0), (f9 1), (f9 2), q18].getD i 0, rfl⟩
def bX1 (g : GG) (q : Nat) (f : Nat → Nat) (r : Nat → Nat) (a0 : Nat) : va_W := [(q, .inr (1, [.ref a0, .ref (f 0), .ref (f 1), .ref (f 2)])), ((f 0), am0 g 8 r), (r 0, ar0 g 10), (r 1, ar0 g 10), (r 2, ar0 g 10), (r 3, ar0 g 10), (r 4, ar0 g 10), (r 5, ar0 g 10), (r 6, ar0 g 10), (r 7, ar0 g 10), ((f 1), ar0 g 10), ((f 2), ar0 g 24)]
set_option maxHeartbeats 4000000 in
set_option maxRecDepth 100000 in
theorem k_X1 {g : GG} {q a0 : Nat} : CT g E0 mX1_init 1 [.ref a0] q (.inr (1, [.null, .null, .null, .null])) (fun B => ∃ f r : Nat → Nat, B = bX1 g q f r a0) 11 122 := by
  refine N.ct miX_X1 rfl (ls0 := [some (.ref q), some (.ref a0)]) rfl (Nat.le_of_ble_eq_true rfl) (fun A => ?_)
  refine N.aload dX1_init_0 rfl (i := 0) rfl ?_
  refine N.obj dX1_init_1 rfl oiL_RX1 (by decide) ?_
  refine N.aload dX1_init_4 rfl (i := 0) rfl ?_
  refine N.bipush dX1_init_5 (v := 8) (by decide) ?_
  refine N.bipush dX1_init_7 (v := 10) (by decide) ?_
  refine N.mna dX1_init_9 rfl ckRX1_9 (by decide) (by decide) (N' := 8) (K' := 10) (by decide) (by decide) (by decide) (by decide) (by decide) (by decide) (fun q9 r9 => ?_)
  refine N.putF dX1_init_13 rfl (ci := 1) rfl inG1 tyX1_ok nmX1 (k := 1) (by decide) flw_1_11 rfl rfl (q0 := 0) rfl rfl rfl (Nat.le_of_ble_eq_true rfl) (ws' := ([(q, .inr (1, [.null, .ref q9, .null, .null])), (q9, am0 g 8 r9)] ++ mrow g r9 8 10)) rfl ?_
  refine N.aload dX1_init_16 rfl (i := 0) rfl ?_
  refine N.bipush dX1_init_17 (v := 10) (by decide) ?_
  refine N.newi dX1_init_19 (by decide) (k := 10) (by decide) (by decide) (by decide) (by decide) (fun q19 => ?_)
  refine N.putF dX1_init_21 rfl (ci := 1) rfl inG1 tyX1_ok nmX1 (k := 2) (by decide) flw_1_16 rfl rfl (q0 := 0) rfl rfl rfl (Nat.le_of_ble_eq_true rfl) (ws' := (([(q, .inr (1, [.null, .ref q9, .ref q19, .null])), (q9, am0 g 8 r9)] ++ mrow g r9 8 10) ++ [(q19, ar0 g 10)])) rfl ?_
  refine N.aload dX1_init_24 rfl (i := 0) rfl ?_
  refine N.bipush dX1_init_25 (v := 24) (by decide) ?_
  refine N.newi dX1_init_27 (by decide) (k := 24) (by decide) (by decide) (by decide) (by decide) (fun q27 => ?_)
  refine N.putF dX1_init_29 rfl (ci := 1) rfl inG1 tyX1_ok nmX1 (k := 3) (by decide) flw_1_20 rfl rfl (q0 := 0) rfl rfl rfl (Nat.le_of_ble_eq_true rfl) (ws' := (([(q, .inr (1, [.null, .ref q9, .ref q19, .ref q27])), (q9, am0 g 8 r9)] ++ mrow g r9 8 10) ++ [(q19, ar0 g 10), (q27, ar0 g 24)])) rfl ?_
  refine N.aload dX1_init_32 rfl (i := 0) rfl ?_
  refine N.aload dX1_init_33 rfl (i := 1) rfl ?_
  refine N.putF dX1_init_34 rfl (ci := 1) rfl inG1 tyX1_ok nmX1 (k := 0) (by decide) flw_1_23 rfl rfl (q0 := 0) rfl rfl rfl (Nat.le_of_ble_eq_true rfl) (ws' := (([(q, .inr (1, [.ref a0, .ref q9, .ref q19, .ref q27])), (q9, am0 g 8 r9)] ++ mrow g r9 8 10) ++ [(q19, ar0 g 10), (q27, ar0 g 24)])) rfl ?_
  exact N.ret dX1_init_37 (by decide) (by decide) ⟨fun i => [q9, q19, q27].getD i 0, r9, rfl⟩
def bX5 (g : GG) (q : Nat) (f : Nat → Nat) (a0 : Nat) (a1 : Nat) : va_W := [(q, .inr (5, [.ref a0, .ref a1, .ref (f 0), .int 0, .ref (f 1)])), ((f 0), ar0 g 8), ((f 1), ar0 g 8)]
set_option maxHeartbeats 4000000 in
set_option maxRecDepth 100000 in
theorem k_X5 {g : GG} {q a0 a1 : Nat} : CT g E0 mX5_init 1 [.ref a0, .ref a1] q (.inr (5, [.null, .null, .null, .int 0, .null])) (fun B => ∃ f : Nat → Nat, B = bX5 g q f a0 a1) 2 16 := by
  refine N.ct miX_X5 rfl (ls0 := [some (.ref q), some (.ref a0), some (.ref a1)]) rfl (Nat.le_of_ble_eq_true rfl) (fun A => ?_)
  refine N.aload dX5_init_0 rfl (i := 0) rfl ?_
  refine N.obj dX5_init_1 rfl oiL_RX5 (by decide) ?_
  refine N.aload dX5_init_4 rfl (i := 0) rfl ?_
  refine N.bipush dX5_init_5 (v := 8) (by decide) ?_
  refine N.newi dX5_init_7 (by decide) (k := 8) (by decide) (by decide) (by decide) (by decide) (fun q7 => ?_)
  refine N.putF dX5_init_9 rfl (ci := 5) rfl inG5 tyX5_ok nmX5 (k := 2) (by decide) flw_5_9 rfl rfl (q0 := 0) rfl rfl rfl (Nat.le_of_ble_eq_true rfl) (ws' := [(q, .inr (5, [.null, .null, .ref q7, .int 0, .null])), (q7, ar0 g 8)]) rfl ?_
  refine N.aload dX5_init_12 rfl (i := 0) rfl ?_
  refine N.bipush dX5_init_13 (v := 8) (by decide) ?_
  refine N.newi dX5_init_15 (by decide) (k := 8) (by decide) (by decide) (by decide) (by decide) (fun q15 => ?_)
  refine N.putF dX5_init_17 rfl (ci := 5) rfl inG5 tyX5_ok nmX5 (k := 4) (by decide) flw_5_15 rfl rfl (q0 := 0) rfl rfl rfl (Nat.le_of_ble_eq_true rfl) (ws' := [(q, .inr (5, [.null, .null, .ref q7, .int 0, .ref q15])), (q7, ar0 g 8), (q15, ar0 g 8)]) rfl ?_
  refine N.aload dX5_init_20 rfl (i := 0) rfl ?_
  refine N.aload dX5_init_21 rfl (i := 1) rfl ?_
  refine N.putF dX5_init_22 rfl (ci := 5) rfl inG5 tyX5_ok nmX5 (k := 0) (by decide) flw_5_18 rfl rfl (q0 := 0) rfl rfl rfl (Nat.le_of_ble_eq_true rfl) (ws' := [(q, .inr (5, [.ref a0, .null, .ref q7, .int 0, .ref q15])), (q7, ar0 g 8), (q15, ar0 g 8)]) rfl ?_
  refine N.aload dX5_init_25 rfl (i := 0) rfl ?_
  refine N.aload dX5_init_26 rfl (i := 2) rfl ?_
  refine N.putF dX5_init_27 rfl (ci := 5) rfl inG5 tyX5_ok nmX5 (k := 1) (by decide) flw_5_22 rfl rfl (q0 := 0) rfl rfl rfl (Nat.le_of_ble_eq_true rfl) (ws' := [(q, .inr (5, [.ref a0, .ref a1, .ref q7, .int 0, .ref q15])), (q7, ar0 g 8), (q15, ar0 g 8)]) rfl ?_
  exact N.ret dX5_init_30 (by decide) (by decide) ⟨fun i => [q7, q15].getD i 0, rfl⟩
def bX6 (g : GG) (q : Nat) (f : Nat → Nat) (a0 : Nat) (a1 : Nat) : va_W := [(q, .inr (6, [.ref a0, .ref a1, .ref (f 0), .ref (f 1), .ref (f 2)])), ((f 0), ar0 g 8), ((f 1), ar0 g 10), ((f 2), ar0 g 601)]
set_option maxHeartbeats 4000000 in
set_option maxRecDepth 100000 in
theorem k_X6 {g : GG} {q a0 a1 : Nat} : CT g E0 mX6_init 1 [.ref a0, .ref a1] q (.inr (6, [.null, .null, .null, .null, .null])) (fun B => ∃ f : Nat → Nat, B = bX6 g q f a0 a1) 3 619 := by
  refine N.ct miX_X6 rfl (ls0 := [some (.ref q), some (.ref a0), some (.ref a1)]) rfl (Nat.le_of_ble_eq_true rfl) (fun A => ?_)
  refine N.aload dX6_init_0 rfl (i := 0) rfl ?_
  refine N.obj dX6_init_1 rfl oiL_RX6 (by decide) ?_
  refine N.aload dX6_init_4 rfl (i := 0) rfl ?_
  refine N.bipush dX6_init_5 (v := 8) (by decide) ?_
  refine N.newi dX6_init_7 (by decide) (k := 8) (by decide) (by decide) (by decide) (by decide) (fun q7 => ?_)
  refine N.putF dX6_init_9 rfl (ci := 6) rfl inG6 tyX6_ok nmX6 (k := 2) (by decide) flw_6_9 rfl rfl (q0 := 0) rfl rfl rfl (Nat.le_of_ble_eq_true rfl) (ws' := [(q, .inr (6, [.null, .null, .ref q7, .null, .null])), (q7, ar0 g 8)]) rfl ?_
  refine N.aload dX6_init_12 rfl (i := 0) rfl ?_
  refine N.bipush dX6_init_13 (v := 10) (by decide) ?_
  refine N.newi dX6_init_15 (by decide) (k := 10) (by decide) (by decide) (by decide) (by decide) (fun q15 => ?_)
  refine N.putF dX6_init_17 rfl (ci := 6) rfl inG6 tyX6_ok nmX6 (k := 3) (by decide) flw_6_15 rfl rfl (q0 := 0) rfl rfl rfl (Nat.le_of_ble_eq_true rfl) (ws' := [(q, .inr (6, [.null, .null, .ref q7, .ref q15, .null])), (q7, ar0 g 8), (q15, ar0 g 10)]) rfl ?_
  refine N.aload dX6_init_20 rfl (i := 0) rfl ?_
  refine N.sipush dX6_init_21 (v := 601) (by decide) ?_
  refine N.newi dX6_init_24 (by decide) (k := 601) (by decide) (by decide) (by decide) (by decide) (fun q24 => ?_)
  refine N.putF dX6_init_26 rfl (ci := 6) rfl inG6 tyX6_ok nmX6 (k := 4) (by decide) flw_6_18 rfl rfl (q0 := 0) rfl rfl rfl (Nat.le_of_ble_eq_true rfl) (ws' := [(q, .inr (6, [.null, .null, .ref q7, .ref q15, .ref q24])), (q7, ar0 g 8), (q15, ar0 g 10), (q24, ar0 g 601)]) rfl ?_
  refine N.aload dX6_init_29 rfl (i := 0) rfl ?_
  refine N.aload dX6_init_30 rfl (i := 1) rfl ?_
  refine N.putF dX6_init_31 rfl (ci := 6) rfl inG6 tyX6_ok nmX6 (k := 0) (by decide) flw_6_21 rfl rfl (q0 := 0) rfl rfl rfl (Nat.le_of_ble_eq_true rfl) (ws' := [(q, .inr (6, [.ref a0, .null, .ref q7, .ref q15, .ref q24])), (q7, ar0 g 8), (q15, ar0 g 10), (q24, ar0 g 601)]) rfl ?_
  refine N.aload dX6_init_34 rfl (i := 0) rfl ?_
  refine N.aload dX6_init_35 rfl (i := 2) rfl ?_
  refine N.putF dX6_init_36 rfl (ci := 6) rfl inG6 tyX6_ok nmX6 (k := 1) (by decide) flw_6_25 rfl rfl (q0 := 0) rfl rfl rfl (Nat.le_of_ble_eq_true rfl) (ws' := [(q, .inr (6, [.ref a0, .ref a1, .ref q7, .ref q15, .ref q24])), (q7, ar0 g 8), (q15, ar0 g 10), (q24, ar0 g 601)]) rfl ?_
  exact N.ret dX6_init_39 (by decide) (by decide) ⟨fun i => [q7, q15, q24].getD i 0, rfl⟩
def bX4 (g : GG) (q : Nat) (f : Nat → Nat) (r : Nat → Nat) : va_W := [(q, .inr (4, [.ref (f 0), .ref (f 1), .ref (f 2)])), ((f 0), am0 g 4 r), (r 0, ar0 g 40), (r 1, ar0 g 40), (r 2, ar0 g 40), (r 3, ar0 g 40), ((f 1), ar0 g 4), ((f 2), ar0 g 4)]
set_option maxHeartbeats 4000000 in
set_option maxRecDepth 100000 in
theorem k_X4 {g : GG} {q : Nat} : CT g E0 mX4_init 1 [] q (.inr (4, [.null, .null, .null])) (fun B => ∃ f r : Nat → Nat, B = bX4 g q f r) 7 172 := by
  refine N.ct miX_X4 rfl (ls0 := [some (.ref q)]) rfl (Nat.le_of_ble_eq_true rfl) (fun A => ?_)
  refine N.aload dX4_init_0 rfl (i := 0) rfl ?_
  refine N.obj dX4_init_1 rfl oiL_RX4 (by decide) ?_
  refine N.aload dX4_init_4 rfl (i := 0) rfl ?_
  refine N.iconst dX4_init_5 (v := 4) (by decide) ?_
  refine N.bipush dX4_init_6 (v := 40) (by decide) ?_
  refine N.mna dX4_init_8 rfl ckRX4_9 (by decide) (by decide) (N' := 4) (K' := 40) (by decide) (by decide) (by decide) (by decide) (by decide) (by decide) (fun q8 r8 => ?_)
  refine N.putF dX4_init_12 rfl (ci := 4) rfl inG4 tyX4_ok nmX4 (k := 0) (by decide) flw_4_11 rfl rfl (q0 := 0) rfl rfl rfl (Nat.le_of_ble_eq_true rfl) (ws' := ([(q, .inr (4, [.ref q8, .null, .null])), (q8, am0 g 4 r8)] ++ mrow g r8 4 40)) rfl ?_
  refine N.aload dX4_init_15 rfl (i := 0) rfl ?_
  refine N.iconst dX4_init_16 (v := 4) (by decide) ?_
  refine N.newi dX4_init_17 (by decide) (k := 4) (by decide) (by decide) (by decide) (by decide) (fun q17 => ?_)
  refine N.putF dX4_init_19 rfl (ci := 4) rfl inG4 tyX4_ok nmX4 (k := 1) (by decide) flw_4_14 rfl rfl (q0 := 0) rfl rfl rfl (Nat.le_of_ble_eq_true rfl) (ws' := (([(q, .inr (4, [.ref q8, .ref q17, .null])), (q8, am0 g 4 r8)] ++ mrow g r8 4 40) ++ [(q17, ar0 g 4)])) rfl ?_
  refine N.aload dX4_init_22 rfl (i := 0) rfl ?_
  refine N.iconst dX4_init_23 (v := 4) (by decide) ?_
  refine N.newi dX4_init_24 (by decide) (k := 4) (by decide) (by decide) (by decide) (by decide) (fun q24 => ?_)
  refine N.putF dX4_init_26 rfl (ci := 4) rfl inG4 tyX4_ok nmX4 (k := 2) (by decide) flw_4_18 rfl rfl (q0 := 0) rfl rfl rfl (Nat.le_of_ble_eq_true rfl) (ws' := (([(q, .inr (4, [.ref q8, .ref q17, .ref q24])), (q8, am0 g 4 r8)] ++ mrow g r8 4 40) ++ [(q17, ar0 g 4), (q24, ar0 g 4)])) rfl ?_
  exact N.ret dX4_init_29 (by decide) (by decide) ⟨fun i => [q8, q17, q24].getD i 0, r8, rfl⟩
def bX7 (g : GG) (q : Nat) (f : Nat → Nat) : va_W := [(q, .inr (7, [.ref (f 0), .ref (f 1), .int 0, .ref (f 2), .int 0, .int 0, .int 3, .int 60, .ref (f 3), .int 0, .ref (f 4), .ref (f 8), .int 1, .ref (f 12), .int 0, .ref (f 13)])), ((f 0), ar0 g 101), ((f 1), aq0 g 8 (va_up (va_up (va_up (va_up (va_up (va_up (va_up (va_up (fun _ => none) 0 (some (f 14))) 1 (some (f 15))) 2 (some (f 16))) 3 (some (f 17))) 4 (some (f 18))) 5 (some (f 19))) 6 (some (f 20))) 7 (some (f 21)))), ((f 2), ar0 g 10), ((f 3), ar0 g 50), ((f 4), .inr (2, [.ref (f 5), .int 0, .ref (f 6), .ref (f 7)])), ((f 5), ar0 g 50), ((f 6), ar0 g 5), ((f 7), ar0 g 50), ((f 8), .inr (2, [.ref (f 9), .int 0, .ref (f 10), .ref (f 11)])), ((f 9), ar0 g 50), ((f 10), ar0 g 5), ((f 11), ar0 g 50), ((f 12), ar0 g 20), ((f 13), ar0 g 8), ((f 14), .inr (0, [.int 0, .int 0, .int 0, .int 0, .int 0, .int 0, .int 0])), ((f 15), .inr (0, [.int 0, .int 0, .int 0, .int 0, .int 0, .int 0, .int 0])), ((f 16), .inr (0, [.int 0, .int 0, .int 0, .int 0, .int 0, .int 0, .int 0])), ((f 17), .inr (0, [.int 0, .int 0, .int 0, .int 0, .int 0, .int 0, .int 0])), ((f 18), .inr (0, [.int 0, .int 0, .int 0, .int 0, .int 0, .int 0, .int 0])), ((f 19), .inr (0, [.int 0, .int 0, .int 0, .int 0, .int 0, .int 0, .int 0])), ((f 20), .inr (0, [.int 0, .int 0, .int 0, .int 0, .int 0, .int 0, .int 0])), ((f 21), .inr (0, [.int 0, .int 0, .int 0, .int 0, .int 0, .int 0, .int 0]))]
set_option maxHeartbeats 4000000 in
set_option maxRecDepth 100000 in
theorem k_X7 {g : GG} {q : Nat} : CT g E0 mX7_init 2 [] q (.inr (7, [.null, .null, .int 0, .null, .int 0, .int 0, .int 0, .int 0, .null, .int 0, .null, .null, .int 0, .null, .int 0, .null])) (fun B => ∃ f : Nat → Nat, B = bX7 g q f) 22 471 := by
  refine N.ct miX_X7 rfl (ls0 := [some (.ref q), none]) rfl (Nat.le_of_ble_eq_true rfl) (fun A => ?_)
  refine N.aload dX7_init_0 rfl (i := 0) rfl ?_
  refine N.obj dX7_init_1 rfl oiL_RX7 (by decide) ?_
  refine N.aload dX7_init_4 rfl (i := 0) rfl ?_
  refine N.bipush dX7_init_5 (v := 101) (by decide) ?_
  refine N.newi dX7_init_7 (by decide) (k := 101) (by decide) (by decide) (by decide) (by decide) (fun q7 => ?_)
  refine N.putF dX7_init_9 rfl (ci := 7) rfl inG7 tyX7_ok nmX7 (k := 0) (by decide) flw_7_9 rfl rfl (q0 := 0) rfl rfl rfl (Nat.le_of_ble_eq_true rfl) (ws' := [(q, .inr (7, [.ref q7, .null, .int 0, .null, .int 0, .int 0, .int 0, .int 0, .null, .int 0, .null, .null, .int 0, .null, .int 0, .null])), (q7, ar0 g 101)]) rfl ?_
  refine N.aload dX7_init_12 rfl (i := 0) rfl ?_
  refine N.bipush dX7_init_13 (v := 8) (by decide) ?_
  refine N.newq dX7_init_15 rfl ckRX7_15 (by decide) (k := 8) (by decide) (by decide) (by decide) (by decide) (fun q15 => ?_)
  refine N.putF dX7_init_18 rfl (ci := 7) rfl inG7 tyX7_ok nmX7 (k := 1) (by decide) flw_7_17 rfl rfl (q0 := 0) rfl rfl rfl (Nat.le_of_ble_eq_true rfl) (ws' := [(q, .inr (7, [.ref q7, .ref q15, .int 0, .null, .int 0, .int 0, .int 0, .int 0, .null, .int 0, .null, .null, .int 0, .null, .int 0, .null])), (q7, ar0 g 101), (q15, aq0 g 8 (fun _ => none))]) rfl ?_
  refine N.aload dX7_init_21 rfl (i := 0) rfl ?_
  refine N.bipush dX7_init_22 (v := 10) (by decide) ?_
  refine N.newi dX7_init_24 (by decide) (k := 10) (by decide) (by decide) (by decide) (by decide) (fun q24 => ?_)
  refine N.putF dX7_init_26 rfl (ci := 7) rfl inG7 tyX7_ok nmX7 (k := 3) (by decide) flw_7_21 rfl rfl (q0 := 0) rfl rfl rfl (Nat.le_of_ble_eq_true rfl) (ws' := [(q, .inr (7, [.ref q7, .ref q15, .int 0, .ref q24, .int 0, .int 0, .int 0, .int 0, .null, .int 0, .null, .null, .int 0, .null, .int 0, .null])), (q7, ar0 g 101), (q15, aq0 g 8 (fun _ => none)), (q24, ar0 g 10)]) rfl ?_
  refine N.aload dX7_init_29 rfl (i := 0) rfl ?_
  refine N.iconst dX7_init_30 (v := 3) (by decide) ?_
  refine N.put dX7_init_31 rfl (ci := 7) rfl inG7 tyX7_ok nmX7 (k := 6) (by decide) flw_7_24 rfl (q0 := 0) rfl rfl rfl (Nat.le_of_ble_eq_true rfl) (ws' := [(q, .inr (7, [.ref q7, .ref q15, .int 0, .ref q24, .int 0, .int 0, .int 3, .int 0, .null, .int 0, .null, .null, .int 0, .null, .int 0, .null])), (q7, ar0 g 101), (q15, aq0 g 8 (fun _ => none)), (q24, ar0 g 10)]) rfl ?_
  refine N.aload dX7_init_34 rfl (i := 0) rfl ?_
  refine N.bipush dX7_init_35 (v := 60) (by decide) ?_
  refine N.put dX7_init_37 rfl (ci := 7) rfl inG7 tyX7_ok nmX7 (k := 7) (by decide) flw_7_28 rfl (q0 := 0) rfl rfl rfl (Nat.le_of_ble_eq_true rfl) (ws' := [(q, .inr (7, [.ref q7, .ref q15, .int 0, .ref q24, .int 0, .int 0, .int 3, .int 60, .null, .int 0, .null, .null, .int 0, .null, .int 0, .null])), (q7, ar0 g 101), (q15, aq0 g 8 (fun _ => none)), (q24, ar0 g 10)]) rfl ?_
  refine N.aload dX7_init_40 rfl (i := 0) rfl ?_
  refine N.bipush dX7_init_41 (v := 50) (by decide) ?_
  refine N.newi dX7_init_43 (by decide) (k := 50) (by decide) (by decide) (by decide) (by decide) (fun q43 => ?_)
  refine N.putF dX7_init_45 rfl (ci := 7) rfl inG7 tyX7_ok nmX7 (k := 8) (by decide) flw_7_31 rfl rfl (q0 := 0) rfl rfl rfl (Nat.le_of_ble_eq_true rfl) (ws' := [(q, .inr (7, [.ref q7, .ref q15, .int 0, .ref q24, .int 0, .int 0, .int 3, .int 60, .ref q43, .int 0, .null, .null, .int 0, .null, .int 0, .null])), (q7, ar0 g 101), (q15, aq0 g 8 (fun _ => none)), (q24, ar0 g 10), (q43, ar0 g 50)]) rfl ?_
  refine N.aload dX7_init_48 rfl (i := 0) rfl ?_
  refine N.new dX7_init_49 rfl (ci := 2) rfl inG2 tyX2_ok ckRX7_34 insRX2 iniRX2 rawX2 (by decide) (by decide) (fun q49 => ?_)
  refine N.dup dX7_init_52 rfl ?_
  refine N.call (As := []) (ws := [(q, .inr (7, [.ref q7, .ref q15, .int 0, .ref q24, .int 0, .int 0, .int 3, .int 60, .ref q43, .int 0, .null, .null, .int 0, .null, .int 0, .null])), (q7, ar0 g 101), (q15, aq0 g 8 (fun _ => none)), (q24, ar0 g 10), (q43, ar0 g 50)]) dX7_init_53 rfl (Or.inr ⟨"OneBreath", List.mem_of_getElem? (i := 0) rfl⟩) miX_X2 rfl npX2_init rfl (k_X2) E0_ok (fun _ _ _ _ _ _ _ _ _ => trivial) (by decide) (by decide) (by decide) (Nat.le_of_ble_eq_true rfl) (fun B53 hB53 => ?_)
  obtain ⟨f53, rfl⟩ := hB53
  refine N.putF dX7_init_56 rfl (ci := 7) rfl inG7 tyX7_ok nmX7 (k := 10) (by decide) flw_7_37 rfl rfl (q0 := 0) rfl rfl rfl (Nat.le_of_ble_eq_true rfl) (ws' := ([(q, .inr (7, [.ref q7, .ref q15, .int 0, .ref q24, .int 0, .int 0, .int 3, .int 60, .ref q43, .int 0, .ref q49, .null, .int 0, .null, .int 0, .null])), (q7, ar0 g 101), (q15, aq0 g 8 (fun _ => none)), (q24, ar0 g 10), (q43, ar0 g 50)] ++ bX2 g q49 f53)) rfl ?_
  refine N.aload dX7_init_59 rfl (i := 0) rfl ?_
  refine N.new dX7_init_60 rfl (ci := 2) rfl inG2 tyX2_ok ckRX7_34 insRX2 iniRX2 rawX2 (by decide) (by decide) (fun q60 => ?_)
  refine N.dup dX7_init_63 rfl ?_
  refine N.call (As := []) (ws := ([(q, .inr (7, [.ref q7, .ref q15, .int 0, .ref q24, .int 0, .int 0, .int 3, .int 60, .ref q43, .int 0, .ref q49, .null, .int 0, .null, .int 0, .null])), (q7, ar0 g 101), (q15, aq0 g 8 (fun _ => none)), (q24, ar0 g 10), (q43, ar0 g 50)] ++ bX2 g q49 f53)) dX7_init_64 rfl (Or.inr ⟨"OneBreath", List.mem_of_getElem? (i := 0) rfl⟩) miX_X2 rfl npX2_init rfl (k_X2) E0_ok (fun _ _ _ _ _ _ _ _ _ => trivial) (by decide) (by decide) (by decide) (Nat.le_of_ble_eq_true rfl) (fun B64 hB64 => ?_)
  obtain ⟨f64, rfl⟩ := hB64
  refine N.putF dX7_init_67 rfl (ci := 7) rfl inG7 tyX7_ok nmX7 (k := 11) (by decide) flw_7_41 rfl rfl (q0 := 0) rfl rfl rfl (Nat.le_of_ble_eq_true rfl) (ws' := (([(q, .inr (7, [.ref q7, .ref q15, .int 0, .ref q24, .int 0, .int 0, .int 3, .int 60, .ref q43, .int 0, .ref q49, .ref q60, .int 0, .null, .int 0, .null])), (q7, ar0 g 101), (q15, aq0 g 8 (fun _ => none)), (q24, ar0 g 10), (q43, ar0 g 50)] ++ bX2 g q49 f53) ++ bX2 g q60 f64)) rfl ?_
  refine N.aload dX7_init_70 rfl (i := 0) rfl ?_
  refine N.iconst dX7_init_71 (v := 1) (by decide) ?_
  refine N.put dX7_init_72 rfl (ci := 7) rfl inG7 tyX7_ok nmX7 (k := 12) (by decide) flw_7_44 rfl (q0 := 0) rfl rfl rfl (Nat.le_of_ble_eq_true rfl) (ws' := (([(q, .inr (7, [.ref q7, .ref q15, .int 0, .ref q24, .int 0, .int 0, .int 3, .int 60, .ref q43, .int 0, .ref q49, .ref q60, .int 1, .null, .int 0, .null])), (q7, ar0 g 101), (q15, aq0 g 8 (fun _ => none)), (q24, ar0 g 10), (q43, ar0 g 50)] ++ bX2 g q49 f53) ++ bX2 g q60 f64)) rfl ?_
  refine N.aload dX7_init_75 rfl (i := 0) rfl ?_
  refine N.bipush dX7_init_76 (v := 20) (by decide) ?_
  refine N.newi dX7_init_78 (by decide) (k := 20) (by decide) (by decide) (by decide) (by decide) (fun q78 => ?_)
  refine N.putF dX7_init_80 rfl (ci := 7) rfl inG7 tyX7_ok nmX7 (k := 13) (by decide) flw_7_47 rfl rfl (q0 := 0) rfl rfl rfl (Nat.le_of_ble_eq_true rfl) (ws' := ((([(q, .inr (7, [.ref q7, .ref q15, .int 0, .ref q24, .int 0, .int 0, .int 3, .int 60, .ref q43, .int 0, .ref q49, .ref q60, .int 1, .ref q78, .int 0, .null])), (q7, ar0 g 101), (q15, aq0 g 8 (fun _ => none)), (q24, ar0 g 10), (q43, ar0 g 50)] ++ bX2 g q49 f53) ++ bX2 g q60 f64) ++ [(q78, ar0 g 20)])) rfl ?_
  refine N.aload dX7_init_83 rfl (i := 0) rfl ?_
  refine N.bipush dX7_init_84 (v := 8) (by decide) ?_
  refine N.newi dX7_init_86 (by decide) (k := 8) (by decide) (by decide) (by decide) (by decide) (fun q86 => ?_)
  refine N.putF dX7_init_88 rfl (ci := 7) rfl inG7 tyX7_ok nmX7 (k := 15) (by decide) flw_7_50 rfl rfl (q0 := 0) rfl rfl rfl (Nat.le_of_ble_eq_true rfl) (ws' := ((([(q, .inr (7, [.ref q7, .ref q15, .int 0, .ref q24, .int 0, .int 0, .int 3, .int 60, .ref q43, .int 0, .ref q49, .ref q60, .int 1, .ref q78, .int 0, .ref q86])), (q7, ar0 g 101), (q15, aq0 g 8 (fun _ => none)), (q24, ar0 g 10), (q43, ar0 g 50)] ++ bX2 g q49 f53) ++ bX2 g q60 f64) ++ [(q78, ar0 g 20), (q86, ar0 g 8)])) rfl ?_
  refine N.iconst dX7_init_91 (v := 0) (by decide) ?_
  refine N.istore dX7_init_92 rfl (i := 1) (by decide) (by intro w h; first | exact Or.inr rfl | (cases h; exact Or.inl rfl)) (ls' := [some (.ref q), some (.int 0)]) rfl ?_
  refine N.iload dX7_init_93 rfl (i := 1) rfl ?_
  refine N.bipush dX7_init_94 (v := 8) (by decide) ?_
  refine N.ic_ge (tgt := 118) dX7_init_96 (by decide) (fun h => absurd h (by decide)) (fun _ => ?_)
  refine N.aload dX7_init_99 rfl (i := 0) rfl ?_
  refine N.get dX7_init_100 rfl (ci := 7) rfl inG7 (k := 1) (by decide) flw_7_17 (q0 := 0) rfl (v := .ref q15) rfl ?_
  refine N.iload dX7_init_103 rfl (i := 1) rfl ?_
  refine N.new dX7_init_104 rfl (ci := 0) rfl inG0 tyX0_ok ckRX7_15 insRX0 iniRX0 rawX0 (by decide) (by decide) (fun q104 => ?_)
  refine N.dup dX7_init_107 rfl ?_
  refine N.call (As := []) (ws := ((([(q, .inr (7, [.ref q7, .ref q15, .int 0, .ref q24, .int 0, .int 0, .int 3, .int 60, .ref q43, .int 0, .ref q49, .ref q60, .int 1, .ref q78, .int 0, .ref q86])), (q7, ar0 g 101), (q15, aq0 g 8 (fun _ => none)), (q24, ar0 g 10), (q43, ar0 g 50)] ++ bX2 g q49 f53) ++ bX2 g q60 f64) ++ [(q78, ar0 g 20), (q86, ar0 g 8)])) dX7_init_108 rfl (Or.inr ⟨"OneBreath", List.mem_of_getElem? (i := 1) rfl⟩) miX_X0 rfl npX0_init rfl (k_X0) E0_ok (fun _ _ _ _ _ _ _ _ _ => trivial) (by decide) (by decide) (by decide) (Nat.le_of_ble_eq_true rfl) (fun B108 hB108 => ?_)
  subst hB108
  refine N.aast dX7_init_111 (q0 := 2) rfl (qk := 15) rfl (by unfold vp_in; decide) (j := 0) (by decide) (ws' := ((([(q, .inr (7, [.ref q7, .ref q15, .int 0, .ref q24, .int 0, .int 0, .int 3, .int 60, .ref q43, .int 0, .ref q49, .ref q60, .int 1, .ref q78, .int 0, .ref q86])), (q7, ar0 g 101), (q15, aq0 g 8 (va_up (fun _ => none) 0 (some q104))), (q24, ar0 g 10), (q43, ar0 g 50)] ++ bX2 g q49 f53) ++ bX2 g q60 f64) ++ [(q78, ar0 g 20), (q86, ar0 g 8), (q104, .inr (0, [.int 0, .int 0, .int 0, .int 0, .int 0, .int 0, .int 0]))])) rfl ?_
  refine N.iinc dX7_init_112 rfl (v := 1) (by decide) (by decide) (by intro w h; first | exact Or.inr rfl | (cases h; exact Or.inl rfl)) (ls' := [some (.ref q), some (.int 1)]) rfl ?_
  refine N.goto (tgt := 93) dX7_init_115 (by decide) ?_
  refine N.iload dX7_init_93 rfl (i := 1) rfl ?_
  refine N.bipush dX7_init_94 (v := 8) (by decide) ?_
  refine N.ic_ge (tgt := 118) dX7_init_96 (by decide) (fun h => absurd h (by decide)) (fun _ => ?_)
  refine N.aload dX7_init_99 rfl (i := 0) rfl ?_
  refine N.get dX7_init_100 rfl (ci := 7) rfl inG7 (k := 1) (by decide) flw_7_17 (q0 := 0) rfl (v := .ref q15) rfl ?_
  refine N.iload dX7_init_103 rfl (i := 1) rfl ?_
  refine N.new dX7_init_104 rfl (ci := 0) rfl inG0 tyX0_ok ckRX7_15 insRX0 iniRX0 rawX0 (by decide) (by decide) (fun q104_1 => ?_)
  refine N.dup dX7_init_107 rfl ?_
  refine N.call (As := []) (ws := ((([(q, .inr (7, [.ref q7, .ref q15, .int 0, .ref q24, .int 0, .int 0, .int 3, .int 60, .ref q43, .int 0, .ref q49, .ref q60, .int 1, .ref q78, .int 0, .ref q86])), (q7, ar0 g 101), (q15, aq0 g 8 (va_up (fun _ => none) 0 (some q104))), (q24, ar0 g 10), (q43, ar0 g 50)] ++ bX2 g q49 f53) ++ bX2 g q60 f64) ++ [(q78, ar0 g 20), (q86, ar0 g 8), (q104, .inr (0, [.int 0, .int 0, .int 0, .int 0, .int 0, .int 0, .int 0]))])) dX7_init_108 rfl (Or.inr ⟨"OneBreath", List.mem_of_getElem? (i := 1) rfl⟩) miX_X0 rfl npX0_init rfl (k_X0) E0_ok (fun _ _ _ _ _ _ _ _ _ => trivial) (by decide) (by decide) (by decide) (Nat.le_of_ble_eq_true rfl) (fun B108 hB108 => ?_)
  subst hB108
  refine N.aast dX7_init_111 (q0 := 2) rfl (qk := 16) rfl (by unfold vp_in; decide) (j := 1) (by decide) (ws' := ((([(q, .inr (7, [.ref q7, .ref q15, .int 0, .ref q24, .int 0, .int 0, .int 3, .int 60, .ref q43, .int 0, .ref q49, .ref q60, .int 1, .ref q78, .int 0, .ref q86])), (q7, ar0 g 101), (q15, aq0 g 8 (va_up (va_up (fun _ => none) 0 (some q104)) 1 (some q104_1))), (q24, ar0 g 10), (q43, ar0 g 50)] ++ bX2 g q49 f53) ++ bX2 g q60 f64) ++ [(q78, ar0 g 20), (q86, ar0 g 8), (q104, .inr (0, [.int 0, .int 0, .int 0, .int 0, .int 0, .int 0, .int 0])), (q104_1, .inr (0, [.int 0, .int 0, .int 0, .int 0, .int 0, .int 0, .int 0]))])) rfl ?_
  refine N.iinc dX7_init_112 rfl (v := 2) (by decide) (by decide) (by intro w h; first | exact Or.inr rfl | (cases h; exact Or.inl rfl)) (ls' := [some (.ref q), some (.int 2)]) rfl ?_
  refine N.goto (tgt := 93) dX7_init_115 (by decide) ?_
  refine N.iload dX7_init_93 rfl (i := 1) rfl ?_
  refine N.bipush dX7_init_94 (v := 8) (by decide) ?_
  refine N.ic_ge (tgt := 118) dX7_init_96 (by decide) (fun h => absurd h (by decide)) (fun _ => ?_)
  refine N.aload dX7_init_99 rfl (i := 0) rfl ?_
  refine N.get dX7_init_100 rfl (ci := 7) rfl inG7 (k := 1) (by decide) flw_7_17 (q0 := 0) rfl (v := .ref q15) rfl ?_
  refine N.iload dX7_init_103 rfl (i := 1) rfl ?_
  refine N.new dX7_init_104 rfl (ci := 0) rfl inG0 tyX0_ok ckRX7_15 insRX0 iniRX0 rawX0 (by decide) (by decide) (fun q104_2 => ?_)
  refine N.dup dX7_init_107 rfl ?_
  refine N.call (As := []) (ws := ((([(q, .inr (7, [.ref q7, .ref q15, .int 0, .ref q24, .int 0, .int 0, .int 3, .int 60, .ref q43, .int 0, .ref q49, .ref q60, .int 1, .ref q78, .int 0, .ref q86])), (q7, ar0 g 101), (q15, aq0 g 8 (va_up (va_up (fun _ => none) 0 (some q104)) 1 (some q104_1))), (q24, ar0 g 10), (q43, ar0 g 50)] ++ bX2 g q49 f53) ++ bX2 g q60 f64) ++ [(q78, ar0 g 20), (q86, ar0 g 8), (q104, .inr (0, [.int 0, .int 0, .int 0, .int 0, .int 0, .int 0, .int 0])), (q104_1, .inr (0, [.int 0, .int 0, .int 0, .int 0, .int 0, .int 0, .int 0]))])) dX7_init_108 rfl (Or.inr ⟨"OneBreath", List.mem_of_getElem? (i := 1) rfl⟩) miX_X0 rfl npX0_init rfl (k_X0) E0_ok (fun _ _ _ _ _ _ _ _ _ => trivial) (by decide) (by decide) (by decide) (Nat.le_of_ble_eq_true rfl) (fun B108 hB108 => ?_)
  subst hB108
  refine N.aast dX7_init_111 (q0 := 2) rfl (qk := 17) rfl (by unfold vp_in; decide) (j := 2) (by decide) (ws' := ((([(q, .inr (7, [.ref q7, .ref q15, .int 0, .ref q24, .int 0, .int 0, .int 3, .int 60, .ref q43, .int 0, .ref q49, .ref q60, .int 1, .ref q78, .int 0, .ref q86])), (q7, ar0 g 101), (q15, aq0 g 8 (va_up (va_up (va_up (fun _ => none) 0 (some q104)) 1 (some q104_1)) 2 (some q104_2))), (q24, ar0 g 10), (q43, ar0 g 50)] ++ bX2 g q49 f53) ++ bX2 g q60 f64) ++ [(q78, ar0 g 20), (q86, ar0 g 8), (q104, .inr (0, [.int 0, .int 0, .int 0, .int 0, .int 0, .int 0, .int 0])), (q104_1, .inr (0, [.int 0, .int 0, .int 0, .int 0, .int 0, .int 0, .int 0])), (q104_2, .inr (0, [.int 0, .int 0, .int 0, .int 0, .int 0, .int 0, .int 0]))])) rfl ?_
  refine N.iinc dX7_init_112 rfl (v := 3) (by decide) (by decide) (by intro w h; first | exact Or.inr rfl | (cases h; exact Or.inl rfl)) (ls' := [some (.ref q), some (.int 3)]) rfl ?_
  refine N.goto (tgt := 93) dX7_init_115 (by decide) ?_
  refine N.iload dX7_init_93 rfl (i := 1) rfl ?_
  refine N.bipush dX7_init_94 (v := 8) (by decide) ?_
  refine N.ic_ge (tgt := 118) dX7_init_96 (by decide) (fun h => absurd h (by decide)) (fun _ => ?_)
  refine N.aload dX7_init_99 rfl (i := 0) rfl ?_
  refine N.get dX7_init_100 rfl (ci := 7) rfl inG7 (k := 1) (by decide) flw_7_17 (q0 := 0) rfl (v := .ref q15) rfl ?_
  refine N.iload dX7_init_103 rfl (i := 1) rfl ?_
  refine N.new dX7_init_104 rfl (ci := 0) rfl inG0 tyX0_ok ckRX7_15 insRX0 iniRX0 rawX0 (by decide) (by decide) (fun q104_3 => ?_)
  refine N.dup dX7_init_107 rfl ?_
  refine N.call (As := []) (ws := ((([(q, .inr (7, [.ref q7, .ref q15, .int 0, .ref q24, .int 0, .int 0, .int 3, .int 60, .ref q43, .int 0, .ref q49, .ref q60, .int 1, .ref q78, .int 0, .ref q86])), (q7, ar0 g 101), (q15, aq0 g 8 (va_up (va_up (va_up (fun _ => none) 0 (some q104)) 1 (some q104_1)) 2 (some q104_2))), (q24, ar0 g 10), (q43, ar0 g 50)] ++ bX2 g q49 f53) ++ bX2 g q60 f64) ++ [(q78, ar0 g 20), (q86, ar0 g 8), (q104, .inr (0, [.int 0, .int 0, .int 0, .int 0, .int 0, .int 0, .int 0])), (q104_1, .inr (0, [.int 0, .int 0, .int 0, .int 0, .int 0, .int 0, .int 0])), (q104_2, .inr (0, [.int 0, .int 0, .int 0, .int 0, .int 0, .int 0, .int 0]))])) dX7_init_108 rfl (Or.inr ⟨"OneBreath", List.mem_of_getElem? (i := 1) rfl⟩) miX_X0 rfl npX0_init rfl (k_X0) E0_ok (fun _ _ _ _ _ _ _ _ _ => trivial) (by decide) (by decide) (by decide) (Nat.le_of_ble_eq_true rfl) (fun B108 hB108 => ?_)
  subst hB108
  refine N.aast dX7_init_111 (q0 := 2) rfl (qk := 18) rfl (by unfold vp_in; decide) (j := 3) (by decide) (ws' := ((([(q, .inr (7, [.ref q7, .ref q15, .int 0, .ref q24, .int 0, .int 0, .int 3, .int 60, .ref q43, .int 0, .ref q49, .ref q60, .int 1, .ref q78, .int 0, .ref q86])), (q7, ar0 g 101), (q15, aq0 g 8 (va_up (va_up (va_up (va_up (fun _ => none) 0 (some q104)) 1 (some q104_1)) 2 (some q104_2)) 3 (some q104_3))), (q24, ar0 g 10), (q43, ar0 g 50)] ++ bX2 g q49 f53) ++ bX2 g q60 f64) ++ [(q78, ar0 g 20), (q86, ar0 g 8), (q104, .inr (0, [.int 0, .int 0, .int 0, .int 0, .int 0, .int 0, .int 0])), (q104_1, .inr (0, [.int 0, .int 0, .int 0, .int 0, .int 0, .int 0, .int 0])), (q104_2, .inr (0, [.int 0, .int 0, .int 0, .int 0, .int 0, .int 0, .int 0])), (q104_3, .inr (0, [.int 0, .int 0, .int 0, .int 0, .int 0, .int 0, .int 0]))])) rfl ?_
  refine N.iinc dX7_init_112 rfl (v := 4) (by decide) (by decide) (by intro w h; first | exact Or.inr rfl | (cases h; exact Or.inl rfl)) (ls' := [some (.ref q), some (.int 4)]) rfl ?_
  refine N.goto (tgt := 93) dX7_init_115 (by decide) ?_
  refine N.iload dX7_init_93 rfl (i := 1) rfl ?_
  refine N.bipush dX7_init_94 (v := 8) (by decide) ?_
  refine N.ic_ge (tgt := 118) dX7_init_96 (by decide) (fun h => absurd h (by decide)) (fun _ => ?_)
  refine N.aload dX7_init_99 rfl (i := 0) rfl ?_
  refine N.get dX7_init_100 rfl (ci := 7) rfl inG7 (k := 1) (by decide) flw_7_17 (q0 := 0) rfl (v := .ref q15) rfl ?_
  refine N.iload dX7_init_103 rfl (i := 1) rfl ?_
  refine N.new dX7_init_104 rfl (ci := 0) rfl inG0 tyX0_ok ckRX7_15 insRX0 iniRX0 rawX0 (by decide) (by decide) (fun q104_4 => ?_)
  refine N.dup dX7_init_107 rfl ?_
  refine N.call (As := []) (ws := ((([(q, .inr (7, [.ref q7, .ref q15, .int 0, .ref q24, .int 0, .int 0, .int 3, .int 60, .ref q43, .int 0, .ref q49, .ref q60, .int 1, .ref q78, .int 0, .ref q86])), (q7, ar0 g 101), (q15, aq0 g 8 (va_up (va_up (va_up (va_up (fun _ => none) 0 (some q104)) 1 (some q104_1)) 2 (some q104_2)) 3 (some q104_3))), (q24, ar0 g 10), (q43, ar0 g 50)] ++ bX2 g q49 f53) ++ bX2 g q60 f64) ++ [(q78, ar0 g 20), (q86, ar0 g 8), (q104, .inr (0, [.int 0, .int 0, .int 0, .int 0, .int 0, .int 0, .int 0])), (q104_1, .inr (0, [.int 0, .int 0, .int 0, .int 0, .int 0, .int 0, .int 0])), (q104_2, .inr (0, [.int 0, .int 0, .int 0, .int 0, .int 0, .int 0, .int 0])), (q104_3, .inr (0, [.int 0, .int 0, .int 0, .int 0, .int 0, .int 0, .int 0]))])) dX7_init_108 rfl (Or.inr ⟨"OneBreath", List.mem_of_getElem? (i := 1) rfl⟩) miX_X0 rfl npX0_init rfl (k_X0) E0_ok (fun _ _ _ _ _ _ _ _ _ => trivial) (by decide) (by decide) (by decide) (Nat.le_of_ble_eq_true rfl) (fun B108 hB108 => ?_)
  subst hB108
  refine N.aast dX7_init_111 (q0 := 2) rfl (qk := 19) rfl (by unfold vp_in; decide) (j := 4) (by decide) (ws' := ((([(q, .inr (7, [.ref q7, .ref q15, .int 0, .ref q24, .int 0, .int 0, .int 3, .int 60, .ref q43, .int 0, .ref q49, .ref q60, .int 1, .ref q78, .int 0, .ref q86])), (q7, ar0 g 101), (q15, aq0 g 8 (va_up (va_up (va_up (va_up (va_up (fun _ => none) 0 (some q104)) 1 (some q104_1)) 2 (some q104_2)) 3 (some q104_3)) 4 (some q104_4))), (q24, ar0 g 10), (q43, ar0 g 50)] ++ bX2 g q49 f53) ++ bX2 g q60 f64) ++ [(q78, ar0 g 20), (q86, ar0 g 8), (q104, .inr (0, [.int 0, .int 0, .int 0, .int 0, .int 0, .int 0, .int 0])), (q104_1, .inr (0, [.int 0, .int 0, .int 0, .int 0, .int 0, .int 0, .int 0])), (q104_2, .inr (0, [.int 0, .int 0, .int 0, .int 0, .int 0, .int 0, .int 0])), (q104_3, .inr (0, [.int 0, .int 0, .int 0, .int 0, .int 0, .int 0, .int 0])), (q104_4, .inr (0, [.int 0, .int 0, .int 0, .int 0, .int 0, .int 0, .int 0]))])) rfl ?_
  refine N.iinc dX7_init_112 rfl (v := 5) (by decide) (by decide) (by intro w h; first | exact Or.inr rfl | (cases h; exact Or.inl rfl)) (ls' := [some (.ref q), some (.int 5)]) rfl ?_
  refine N.goto (tgt := 93) dX7_init_115 (by decide) ?_
  refine N.iload dX7_init_93 rfl (i := 1) rfl ?_
  refine N.bipush dX7_init_94 (v := 8) (by decide) ?_
  refine N.ic_ge (tgt := 118) dX7_init_96 (by decide) (fun h => absurd h (by decide)) (fun _ => ?_)
  refine N.aload dX7_init_99 rfl (i := 0) rfl ?_
  refine N.get dX7_init_100 rfl (ci := 7) rfl inG7 (k := 1) (by decide) flw_7_17 (q0 := 0) rfl (v := .ref q15) rfl ?_
  refine N.iload dX7_init_103 rfl (i := 1) rfl ?_
  refine N.new dX7_init_104 rfl (ci := 0) rfl inG0 tyX0_ok ckRX7_15 insRX0 iniRX0 rawX0 (by decide) (by decide) (fun q104_5 => ?_)
  refine N.dup dX7_init_107 rfl ?_
  refine N.call (As := []) (ws := ((([(q, .inr (7, [.ref q7, .ref q15, .int 0, .ref q24, .int 0, .int 0, .int 3, .int 60, .ref q43, .int 0, .ref q49, .ref q60, .int 1, .ref q78, .int 0, .ref q86])), (q7, ar0 g 101), (q15, aq0 g 8 (va_up (va_up (va_up (va_up (va_up (fun _ => none) 0 (some q104)) 1 (some q104_1)) 2 (some q104_2)) 3 (some q104_3)) 4 (some q104_4))), (q24, ar0 g 10), (q43, ar0 g 50)] ++ bX2 g q49 f53) ++ bX2 g q60 f64) ++ [(q78, ar0 g 20), (q86, ar0 g 8), (q104, .inr (0, [.int 0, .int 0, .int 0, .int 0, .int 0, .int 0, .int 0])), (q104_1, .inr (0, [.int 0, .int 0, .int 0, .int 0, .int 0, .int 0, .int 0])), (q104_2, .inr (0, [.int 0, .int 0, .int 0, .int 0, .int 0, .int 0, .int 0])), (q104_3, .inr (0, [.int 0, .int 0, .int 0, .int 0, .int 0, .int 0, .int 0])), (q104_4, .inr (0, [.int 0, .int 0, .int 0, .int 0, .int 0, .int 0, .int 0]))])) dX7_init_108 rfl (Or.inr ⟨"OneBreath", List.mem_of_getElem? (i := 1) rfl⟩) miX_X0 rfl npX0_init rfl (k_X0) E0_ok (fun _ _ _ _ _ _ _ _ _ => trivial) (by decide) (by decide) (by decide) (Nat.le_of_ble_eq_true rfl) (fun B108 hB108 => ?_)
  subst hB108
  refine N.aast dX7_init_111 (q0 := 2) rfl (qk := 20) rfl (by unfold vp_in; decide) (j := 5) (by decide) (ws' := ((([(q, .inr (7, [.ref q7, .ref q15, .int 0, .ref q24, .int 0, .int 0, .int 3, .int 60, .ref q43, .int 0, .ref q49, .ref q60, .int 1, .ref q78, .int 0, .ref q86])), (q7, ar0 g 101), (q15, aq0 g 8 (va_up (va_up (va_up (va_up (va_up (va_up (fun _ => none) 0 (some q104)) 1 (some q104_1)) 2 (some q104_2)) 3 (some q104_3)) 4 (some q104_4)) 5 (some q104_5))), (q24, ar0 g 10), (q43, ar0 g 50)] ++ bX2 g q49 f53) ++ bX2 g q60 f64) ++ [(q78, ar0 g 20), (q86, ar0 g 8), (q104, .inr (0, [.int 0, .int 0, .int 0, .int 0, .int 0, .int 0, .int 0])), (q104_1, .inr (0, [.int 0, .int 0, .int 0, .int 0, .int 0, .int 0, .int 0])), (q104_2, .inr (0, [.int 0, .int 0, .int 0, .int 0, .int 0, .int 0, .int 0])), (q104_3, .inr (0, [.int 0, .int 0, .int 0, .int 0, .int 0, .int 0, .int 0])), (q104_4, .inr (0, [.int 0, .int 0, .int 0, .int 0, .int 0, .int 0, .int 0])), (q104_5, .inr (0, [.int 0, .int 0, .int 0, .int 0, .int 0, .int 0, .int 0]))])) rfl ?_
  refine N.iinc dX7_init_112 rfl (v := 6) (by decide) (by decide) (by intro w h; first | exact Or.inr rfl | (cases h; exact Or.inl rfl)) (ls' := [some (.ref q), some (.int 6)]) rfl ?_
  refine N.goto (tgt := 93) dX7_init_115 (by decide) ?_
  refine N.iload dX7_init_93 rfl (i := 1) rfl ?_
  refine N.bipush dX7_init_94 (v := 8) (by decide) ?_
  refine N.ic_ge (tgt := 118) dX7_init_96 (by decide) (fun h => absurd h (by decide)) (fun _ => ?_)
  refine N.aload dX7_init_99 rfl (i := 0) rfl ?_
  refine N.get dX7_init_100 rfl (ci := 7) rfl inG7 (k := 1) (by decide) flw_7_17 (q0 := 0) rfl (v := .ref q15) rfl ?_
  refine N.iload dX7_init_103 rfl (i := 1) rfl ?_
  refine N.new dX7_init_104 rfl (ci := 0) rfl inG0 tyX0_ok ckRX7_15 insRX0 iniRX0 rawX0 (by decide) (by decide) (fun q104_6 => ?_)
  refine N.dup dX7_init_107 rfl ?_
  refine N.call (As := []) (ws := ((([(q, .inr (7, [.ref q7, .ref q15, .int 0, .ref q24, .int 0, .int 0, .int 3, .int 60, .ref q43, .int 0, .ref q49, .ref q60, .int 1, .ref q78, .int 0, .ref q86])), (q7, ar0 g 101), (q15, aq0 g 8 (va_up (va_up (va_up (va_up (va_up (va_up (fun _ => none) 0 (some q104)) 1 (some q104_1)) 2 (some q104_2)) 3 (some q104_3)) 4 (some q104_4)) 5 (some q104_5))), (q24, ar0 g 10), (q43, ar0 g 50)] ++ bX2 g q49 f53) ++ bX2 g q60 f64) ++ [(q78, ar0 g 20), (q86, ar0 g 8), (q104, .inr (0, [.int 0, .int 0, .int 0, .int 0, .int 0, .int 0, .int 0])), (q104_1, .inr (0, [.int 0, .int 0, .int 0, .int 0, .int 0, .int 0, .int 0])), (q104_2, .inr (0, [.int 0, .int 0, .int 0, .int 0, .int 0, .int 0, .int 0])), (q104_3, .inr (0, [.int 0, .int 0, .int 0, .int 0, .int 0, .int 0, .int 0])), (q104_4, .inr (0, [.int 0, .int 0, .int 0, .int 0, .int 0, .int 0, .int 0])), (q104_5, .inr (0, [.int 0, .int 0, .int 0, .int 0, .int 0, .int 0, .int 0]))])) dX7_init_108 rfl (Or.inr ⟨"OneBreath", List.mem_of_getElem? (i := 1) rfl⟩) miX_X0 rfl npX0_init rfl (k_X0) E0_ok (fun _ _ _ _ _ _ _ _ _ => trivial) (by decide) (by decide) (by decide) (Nat.le_of_ble_eq_true rfl) (fun B108 hB108 => ?_)
  subst hB108
  refine N.aast dX7_init_111 (q0 := 2) rfl (qk := 21) rfl (by unfold vp_in; decide) (j := 6) (by decide) (ws' := ((([(q, .inr (7, [.ref q7, .ref q15, .int 0, .ref q24, .int 0, .int 0, .int 3, .int 60, .ref q43, .int 0, .ref q49, .ref q60, .int 1, .ref q78, .int 0, .ref q86])), (q7, ar0 g 101), (q15, aq0 g 8 (va_up (va_up (va_up (va_up (va_up (va_up (va_up (fun _ => none) 0 (some q104)) 1 (some q104_1)) 2 (some q104_2)) 3 (some q104_3)) 4 (some q104_4)) 5 (some q104_5)) 6 (some q104_6))), (q24, ar0 g 10), (q43, ar0 g 50)] ++ bX2 g q49 f53) ++ bX2 g q60 f64) ++ [(q78, ar0 g 20), (q86, ar0 g 8), (q104, .inr (0, [.int 0, .int 0, .int 0, .int 0, .int 0, .int 0, .int 0])), (q104_1, .inr (0, [.int 0, .int 0, .int 0, .int 0, .int 0, .int 0, .int 0])), (q104_2, .inr (0, [.int 0, .int 0, .int 0, .int 0, .int 0, .int 0, .int 0])), (q104_3, .inr (0, [.int 0, .int 0, .int 0, .int 0, .int 0, .int 0, .int 0])), (q104_4, .inr (0, [.int 0, .int 0, .int 0, .int 0, .int 0, .int 0, .int 0])), (q104_5, .inr (0, [.int 0, .int 0, .int 0, .int 0, .int 0, .int 0, .int 0])), (q104_6, .inr (0, [.int 0, .int 0, .int 0, .int 0, .int 0, .int 0, .int 0]))])) rfl ?_
  refine N.iinc dX7_init_112 rfl (v := 7) (by decide) (by decide) (by intro w h; first | exact Or.inr rfl | (cases h; exact Or.inl rfl)) (ls' := [some (.ref q), some (.int 7)]) rfl ?_
  refine N.goto (tgt := 93) dX7_init_115 (by decide) ?_
  refine N.iload dX7_init_93 rfl (i := 1) rfl ?_
  refine N.bipush dX7_init_94 (v := 8) (by decide) ?_
  refine N.ic_ge (tgt := 118) dX7_init_96 (by decide) (fun h => absurd h (by decide)) (fun _ => ?_)
  refine N.aload dX7_init_99 rfl (i := 0) rfl ?_
  refine N.get dX7_init_100 rfl (ci := 7) rfl inG7 (k := 1) (by decide) flw_7_17 (q0 := 0) rfl (v := .ref q15) rfl ?_
  refine N.iload dX7_init_103 rfl (i := 1) rfl ?_
  refine N.new dX7_init_104 rfl (ci := 0) rfl inG0 tyX0_ok ckRX7_15 insRX0 iniRX0 rawX0 (by decide) (by decide) (fun q104_7 => ?_)
  refine N.dup dX7_init_107 rfl ?_
  refine N.call (As := []) (ws := ((([(q, .inr (7, [.ref q7, .ref q15, .int 0, .ref q24, .int 0, .int 0, .int 3, .int 60, .ref q43, .int 0, .ref q49, .ref q60, .int 1, .ref q78, .int 0, .ref q86])), (q7, ar0 g 101), (q15, aq0 g 8 (va_up (va_up (va_up (va_up (va_up (va_up (va_up (fun _ => none) 0 (some q104)) 1 (some q104_1)) 2 (some q104_2)) 3 (some q104_3)) 4 (some q104_4)) 5 (some q104_5)) 6 (some q104_6))), (q24, ar0 g 10), (q43, ar0 g 50)] ++ bX2 g q49 f53) ++ bX2 g q60 f64) ++ [(q78, ar0 g 20), (q86, ar0 g 8), (q104, .inr (0, [.int 0, .int 0, .int 0, .int 0, .int 0, .int 0, .int 0])), (q104_1, .inr (0, [.int 0, .int 0, .int 0, .int 0, .int 0, .int 0, .int 0])), (q104_2, .inr (0, [.int 0, .int 0, .int 0, .int 0, .int 0, .int 0, .int 0])), (q104_3, .inr (0, [.int 0, .int 0, .int 0, .int 0, .int 0, .int 0, .int 0])), (q104_4, .inr (0, [.int 0, .int 0, .int 0, .int 0, .int 0, .int 0, .int 0])), (q104_5, .inr (0, [.int 0, .int 0, .int 0, .int 0, .int 0, .int 0, .int 0])), (q104_6, .inr (0, [.int 0, .int 0, .int 0, .int 0, .int 0, .int 0, .int 0]))])) dX7_init_108 rfl (Or.inr ⟨"OneBreath", List.mem_of_getElem? (i := 1) rfl⟩) miX_X0 rfl npX0_init rfl (k_X0) E0_ok (fun _ _ _ _ _ _ _ _ _ => trivial) (by decide) (by decide) (by decide) (Nat.le_of_ble_eq_true rfl) (fun B108 hB108 => ?_)
  subst hB108
  refine N.aast dX7_init_111 (q0 := 2) rfl (qk := 22) rfl (by unfold vp_in; decide) (j := 7) (by decide) (ws' := ((([(q, .inr (7, [.ref q7, .ref q15, .int 0, .ref q24, .int 0, .int 0, .int 3, .int 60, .ref q43, .int 0, .ref q49, .ref q60, .int 1, .ref q78, .int 0, .ref q86])), (q7, ar0 g 101), (q15, aq0 g 8 (va_up (va_up (va_up (va_up (va_up (va_up (va_up (va_up (fun _ => none) 0 (some q104)) 1 (some q104_1)) 2 (some q104_2)) 3 (some q104_3)) 4 (some q104_4)) 5 (some q104_5)) 6 (some q104_6)) 7 (some q104_7))), (q24, ar0 g 10), (q43, ar0 g 50)] ++ bX2 g q49 f53) ++ bX2 g q60 f64) ++ [(q78, ar0 g 20), (q86, ar0 g 8), (q104, .inr (0, [.int 0, .int 0, .int 0, .int 0, .int 0, .int 0, .int 0])), (q104_1, .inr (0, [.int 0, .int 0, .int 0, .int 0, .int 0, .int 0, .int 0])), (q104_2, .inr (0, [.int 0, .int 0, .int 0, .int 0, .int 0, .int 0, .int 0])), (q104_3, .inr (0, [.int 0, .int 0, .int 0, .int 0, .int 0, .int 0, .int 0])), (q104_4, .inr (0, [.int 0, .int 0, .int 0, .int 0, .int 0, .int 0, .int 0])), (q104_5, .inr (0, [.int 0, .int 0, .int 0, .int 0, .int 0, .int 0, .int 0])), (q104_6, .inr (0, [.int 0, .int 0, .int 0, .int 0, .int 0, .int 0, .int 0])), (q104_7, .inr (0, [.int 0, .int 0, .int 0, .int 0, .int 0, .int 0, .int 0]))])) rfl ?_
  refine N.iinc dX7_init_112 rfl (v := 8) (by decide) (by decide) (by intro w h; first | exact Or.inr rfl | (cases h; exact Or.inl rfl)) (ls' := [some (.ref q), some (.int 8)]) rfl ?_
  refine N.goto (tgt := 93) dX7_init_115 (by decide) ?_
  refine N.iload dX7_init_93 rfl (i := 1) rfl ?_
  refine N.bipush dX7_init_94 (v := 8) (by decide) ?_
  refine N.ic_ge (tgt := 118) dX7_init_96 (by decide) (fun _ => ?_) (fun h => absurd (by decide) h)
  exact N.ret dX7_init_118 (by decide) (by decide) ⟨fun i => [q7, q15, q24, q43, q49, (f53 0), (f53 1), (f53 2), q60, (f64 0), (f64 1), (f64 2), q78, q86, q104, q104_1, q104_2, q104_3, q104_4, q104_5, q104_6, q104_7].getD i 0, rfl⟩
def bX10 (g : GG) (q : Nat) (f : Nat → Nat) : va_W := [(q, .inr (10, [.ref (f 0), .ref (f 1), .ref (f 2), .int 0, .ref (f 3), .int 0, .int 0, .int 0, .int 0, .int 0, .int 0, .ref (f 4), .ref (f 5), .ref (f 6), .ref (f 7), .int 0, .ref (f 8), .ref (f 9), .ref (f 10), .ref (f 11), .ref (f 12), .ref (f 13), .int 0, .int 0, .ref (f 14), .ref (f 15), .ref (f 16), .ref (f 17)])), ((f 0), .inl (g.2.2.2 0, 360, .inl (upd (upd (upd (fun _ => 0) 101 3) 102 60) 105 1))), ((f 1), ar0 g 360), ((f 2), ar0 g 360), ((f 3), ar0 g 6), ((f 4), ar0 g 5), ((f 5), ar0 g 90), ((f 6), az0 g 90), ((f 7), ar0 g 8), ((f 8), ar0 g 64), ((f 9), ar0 g 8), ((f 10), ar0 g 8), ((f 11), ar0 g 8), ((f 12), ar0 g 601), ((f 13), ar0 g 40), ((f 14), ar0 g 4), ((f 15), ar0 g 4), ((f 16), ar0 g 160), ((f 17), ar0 g 40)]
set_option maxHeartbeats 4000000 in
set_option maxRecDepth 100000 in
theorem k_X10 {g : GG} {q : Nat} : CT g E0 mX10_init 1 [] q (.inr (10, [.null, .null, .null, .int 0, .null, .int 0, .int 0, .int 0, .int 0, .int 0, .int 0, .null, .null, .null, .null, .int 0, .null, .null, .null, .null, .null, .null, .int 0, .int 0, .null, .null, .null, .null])) (fun B => ∃ f : Nat → Nat, B = bX10 g q f) 18 2216 := by
  refine N.ct miX_X10 rfl (ls0 := [some (.ref q)]) rfl (Nat.le_of_ble_eq_true rfl) (fun A => ?_)
  refine N.aload dX10_init_0 rfl (i := 0) rfl ?_
  refine N.obj dX10_init_1 rfl oiL_RX10 (by decide) ?_
  refine N.aload dX10_init_4 rfl (i := 0) rfl ?_
  refine N.sipush dX10_init_5 (v := 360) (by decide) ?_
  refine N.newi dX10_init_8 (by decide) (k := 360) (by decide) (by decide) (by decide) (by decide) (fun q8 => ?_)
  refine N.putF dX10_init_10 rfl (ci := 10) rfl inG10 tyX10_ok nmX10 (k := 0) (by decide) flw_10_7 rfl rfl (q0 := 0) rfl rfl rfl (Nat.le_of_ble_eq_true rfl) (ws' := [(q, .inr (10, [.ref q8, .null, .null, .int 0, .null, .int 0, .int 0, .int 0, .int 0, .int 0, .int 0, .null, .null, .null, .null, .int 0, .null, .null, .null, .null, .null, .null, .int 0, .int 0, .null, .null, .null, .null])), (q8, ar0 g 360)]) rfl ?_
  refine N.aload dX10_init_13 rfl (i := 0) rfl ?_
  refine N.sipush dX10_init_14 (v := 360) (by decide) ?_
  refine N.newi dX10_init_17 (by decide) (k := 360) (by decide) (by decide) (by decide) (by decide) (fun q17 => ?_)
  refine N.putF dX10_init_19 rfl (ci := 10) rfl inG10 tyX10_ok nmX10 (k := 1) (by decide) flw_10_13 rfl rfl (q0 := 0) rfl rfl rfl (Nat.le_of_ble_eq_true rfl) (ws' := [(q, .inr (10, [.ref q8, .ref q17, .null, .int 0, .null, .int 0, .int 0, .int 0, .int 0, .int 0, .int 0, .null, .null, .null, .null, .int 0, .null, .null, .null, .null, .null, .null, .int 0, .int 0, .null, .null, .null, .null])), (q8, ar0 g 360), (q17, ar0 g 360)]) rfl ?_
  refine N.aload dX10_init_22 rfl (i := 0) rfl ?_
  refine N.sipush dX10_init_23 (v := 360) (by decide) ?_
  refine N.newi dX10_init_26 (by decide) (k := 360) (by decide) (by decide) (by decide) (by decide) (fun q26 => ?_)
  refine N.putF dX10_init_28 rfl (ci := 10) rfl inG10 tyX10_ok nmX10 (k := 2) (by decide) flw_10_16 rfl rfl (q0 := 0) rfl rfl rfl (Nat.le_of_ble_eq_true rfl) (ws' := [(q, .inr (10, [.ref q8, .ref q17, .ref q26, .int 0, .null, .int 0, .int 0, .int 0, .int 0, .int 0, .int 0, .null, .null, .null, .null, .int 0, .null, .null, .null, .null, .null, .null, .int 0, .int 0, .null, .null, .null, .null])), (q8, ar0 g 360), (q17, ar0 g 360), (q26, ar0 g 360)]) rfl ?_
  refine N.aload dX10_init_31 rfl (i := 0) rfl ?_
  refine N.bipush dX10_init_32 (v := 6) (by decide) ?_
  refine N.newi dX10_init_34 (by decide) (k := 6) (by decide) (by decide) (by decide) (by decide) (fun q34 => ?_)
  refine N.putF dX10_init_36 rfl (ci := 10) rfl inG10 tyX10_ok nmX10 (k := 4) (by decide) flw_10_19 rfl rfl (q0 := 0) rfl rfl rfl (Nat.le_of_ble_eq_true rfl) (ws' := [(q, .inr (10, [.ref q8, .ref q17, .ref q26, .int 0, .ref q34, .int 0, .int 0, .int 0, .int 0, .int 0, .int 0, .null, .null, .null, .null, .int 0, .null, .null, .null, .null, .null, .null, .int 0, .int 0, .null, .null, .null, .null])), (q8, ar0 g 360), (q17, ar0 g 360), (q26, ar0 g 360), (q34, ar0 g 6)]) rfl ?_
  refine N.aload dX10_init_39 rfl (i := 0) rfl ?_
  refine N.iconst dX10_init_40 (v := 5) (by decide) ?_
  refine N.newi dX10_init_41 (by decide) (k := 5) (by decide) (by decide) (by decide) (by decide) (fun q41 => ?_)
  refine N.putF dX10_init_43 rfl (ci := 10) rfl inG10 tyX10_ok nmX10 (k := 11) (by decide) flw_10_22 rfl rfl (q0 := 0) rfl rfl rfl (Nat.le_of_ble_eq_true rfl) (ws' := [(q, .inr (10, [.ref q8, .ref q17, .ref q26, .int 0, .ref q34, .int 0, .int 0, .int 0, .int 0, .int 0, .int 0, .ref q41, .null, .null, .null, .int 0, .null, .null, .null, .null, .null, .null, .int 0, .int 0, .null, .null, .null, .null])), (q8, ar0 g 360), (q17, ar0 g 360), (q26, ar0 g 360), (q34, ar0 g 6), (q41, ar0 g 5)]) rfl ?_
  refine N.aload dX10_init_46 rfl (i := 0) rfl ?_
  refine N.bipush dX10_init_47 (v := 90) (by decide) ?_
  refine N.newi dX10_init_49 (by decide) (k := 90) (by decide) (by decide) (by decide) (by decide) (fun q49 => ?_)
  refine N.putF dX10_init_51 rfl (ci := 10) rfl inG10 tyX10_ok nmX10 (k := 12) (by decide) flw_10_25 rfl rfl (q0 := 0) rfl rfl rfl (Nat.le_of_ble_eq_true rfl) (ws' := [(q, .inr (10, [.ref q8, .ref q17, .ref q26, .int 0, .ref q34, .int 0, .int 0, .int 0, .int 0, .int 0, .int 0, .ref q41, .ref q49, .null, .null, .int 0, .null, .null, .null, .null, .null, .null, .int 0, .int 0, .null, .null, .null, .null])), (q8, ar0 g 360), (q17, ar0 g 360), (q26, ar0 g 360), (q34, ar0 g 6), (q41, ar0 g 5), (q49, ar0 g 90)]) rfl ?_
  refine N.aload dX10_init_54 rfl (i := 0) rfl ?_
  refine N.bipush dX10_init_55 (v := 90) (by decide) ?_
  refine N.newz dX10_init_57 (by decide) (k := 90) (by decide) (by decide) (by decide) (by decide) (fun q57 => ?_)
  refine N.putF dX10_init_59 rfl (ci := 10) rfl inG10 tyX10_ok nmX10 (k := 13) (by decide) flw_10_28 rfl rfl (q0 := 0) rfl rfl rfl (Nat.le_of_ble_eq_true rfl) (ws' := [(q, .inr (10, [.ref q8, .ref q17, .ref q26, .int 0, .ref q34, .int 0, .int 0, .int 0, .int 0, .int 0, .int 0, .ref q41, .ref q49, .ref q57, .null, .int 0, .null, .null, .null, .null, .null, .null, .int 0, .int 0, .null, .null, .null, .null])), (q8, ar0 g 360), (q17, ar0 g 360), (q26, ar0 g 360), (q34, ar0 g 6), (q41, ar0 g 5), (q49, ar0 g 90), (q57, az0 g 90)]) rfl ?_
  refine N.aload dX10_init_62 rfl (i := 0) rfl ?_
  refine N.bipush dX10_init_63 (v := 8) (by decide) ?_
  refine N.newi dX10_init_65 (by decide) (k := 8) (by decide) (by decide) (by decide) (by decide) (fun q65 => ?_)
  refine N.putF dX10_init_67 rfl (ci := 10) rfl inG10 tyX10_ok nmX10 (k := 14) (by decide) flw_10_32 rfl rfl (q0 := 0) rfl rfl rfl (Nat.le_of_ble_eq_true rfl) (ws' := [(q, .inr (10, [.ref q8, .ref q17, .ref q26, .int 0, .ref q34, .int 0, .int 0, .int 0, .int 0, .int 0, .int 0, .ref q41, .ref q49, .ref q57, .ref q65, .int 0, .null, .null, .null, .null, .null, .null, .int 0, .int 0, .null, .null, .null, .null])), (q8, ar0 g 360), (q17, ar0 g 360), (q26, ar0 g 360), (q34, ar0 g 6), (q41, ar0 g 5), (q49, ar0 g 90), (q57, az0 g 90), (q65, ar0 g 8)]) rfl ?_
  refine N.aload dX10_init_70 rfl (i := 0) rfl ?_
  refine N.bipush dX10_init_71 (v := 64) (by decide) ?_
  refine N.newi dX10_init_73 (by decide) (k := 64) (by decide) (by decide) (by decide) (by decide) (fun q73 => ?_)
  refine N.putF dX10_init_75 rfl (ci := 10) rfl inG10 tyX10_ok nmX10 (k := 16) (by decide) flw_10_35 rfl rfl (q0 := 0) rfl rfl rfl (Nat.le_of_ble_eq_true rfl) (ws' := [(q, .inr (10, [.ref q8, .ref q17, .ref q26, .int 0, .ref q34, .int 0, .int 0, .int 0, .int 0, .int 0, .int 0, .ref q41, .ref q49, .ref q57, .ref q65, .int 0, .ref q73, .null, .null, .null, .null, .null, .int 0, .int 0, .null, .null, .null, .null])), (q8, ar0 g 360), (q17, ar0 g 360), (q26, ar0 g 360), (q34, ar0 g 6), (q41, ar0 g 5), (q49, ar0 g 90), (q57, az0 g 90), (q65, ar0 g 8), (q73, ar0 g 64)]) rfl ?_
  refine N.aload dX10_init_78 rfl (i := 0) rfl ?_
  refine N.bipush dX10_init_79 (v := 8) (by decide) ?_
  refine N.newi dX10_init_81 (by decide) (k := 8) (by decide) (by decide) (by decide) (by decide) (fun q81 => ?_)
  refine N.putF dX10_init_83 rfl (ci := 10) rfl inG10 tyX10_ok nmX10 (k := 17) (by decide) flw_10_38 rfl rfl (q0 := 0) rfl rfl rfl (Nat.le_of_ble_eq_true rfl) (ws' := [(q, .inr (10, [.ref q8, .ref q17, .ref q26, .int 0, .ref q34, .int 0, .int 0, .int 0, .int 0, .int 0, .int 0, .ref q41, .ref q49, .ref q57, .ref q65, .int 0, .ref q73, .ref q81, .null, .null, .null, .null, .int 0, .int 0, .null, .null, .null, .null])), (q8, ar0 g 360), (q17, ar0 g 360), (q26, ar0 g 360), (q34, ar0 g 6), (q41, ar0 g 5), (q49, ar0 g 90), (q57, az0 g 90), (q65, ar0 g 8), (q73, ar0 g 64), (q81, ar0 g 8)]) rfl ?_
  refine N.aload dX10_init_86 rfl (i := 0) rfl ?_
  refine N.bipush dX10_init_87 (v := 8) (by decide) ?_
  refine N.newi dX10_init_89 (by decide) (k := 8) (by decide) (by decide) (by decide) (by decide) (fun q89 => ?_)
  refine N.putF dX10_init_91 rfl (ci := 10) rfl inG10 tyX10_ok nmX10 (k := 18) (by decide) flw_10_41 rfl rfl (q0 := 0) rfl rfl rfl (Nat.le_of_ble_eq_true rfl) (ws' := [(q, .inr (10, [.ref q8, .ref q17, .ref q26, .int 0, .ref q34, .int 0, .int 0, .int 0, .int 0, .int 0, .int 0, .ref q41, .ref q49, .ref q57, .ref q65, .int 0, .ref q73, .ref q81, .ref q89, .null, .null, .null, .int 0, .int 0, .null, .null, .null, .null])), (q8, ar0 g 360), (q17, ar0 g 360), (q26, ar0 g 360), (q34, ar0 g 6), (q41, ar0 g 5), (q49, ar0 g 90), (q57, az0 g 90), (q65, ar0 g 8), (q73, ar0 g 64), (q81, ar0 g 8), (q89, ar0 g 8)]) rfl ?_
  refine N.aload dX10_init_94 rfl (i := 0) rfl ?_
  refine N.bipush dX10_init_95 (v := 8) (by decide) ?_
  refine N.newi dX10_init_97 (by decide) (k := 8) (by decide) (by decide) (by decide) (by decide) (fun q97 => ?_)
  refine N.putF dX10_init_99 rfl (ci := 10) rfl inG10 tyX10_ok nmX10 (k := 19) (by decide) flw_10_44 rfl rfl (q0 := 0) rfl rfl rfl (Nat.le_of_ble_eq_true rfl) (ws' := [(q, .inr (10, [.ref q8, .ref q17, .ref q26, .int 0, .ref q34, .int 0, .int 0, .int 0, .int 0, .int 0, .int 0, .ref q41, .ref q49, .ref q57, .ref q65, .int 0, .ref q73, .ref q81, .ref q89, .ref q97, .null, .null, .int 0, .int 0, .null, .null, .null, .null])), (q8, ar0 g 360), (q17, ar0 g 360), (q26, ar0 g 360), (q34, ar0 g 6), (q41, ar0 g 5), (q49, ar0 g 90), (q57, az0 g 90), (q65, ar0 g 8), (q73, ar0 g 64), (q81, ar0 g 8), (q89, ar0 g 8), (q97, ar0 g 8)]) rfl ?_
  refine N.aload dX10_init_102 rfl (i := 0) rfl ?_
  refine N.sipush dX10_init_103 (v := 601) (by decide) ?_
  refine N.newi dX10_init_106 (by decide) (k := 601) (by decide) (by decide) (by decide) (by decide) (fun q106 => ?_)
  refine N.putF dX10_init_108 rfl (ci := 10) rfl inG10 tyX10_ok nmX10 (k := 20) (by decide) flw_10_47 rfl rfl (q0 := 0) rfl rfl rfl (Nat.le_of_ble_eq_true rfl) (ws' := [(q, .inr (10, [.ref q8, .ref q17, .ref q26, .int 0, .ref q34, .int 0, .int 0, .int 0, .int 0, .int 0, .int 0, .ref q41, .ref q49, .ref q57, .ref q65, .int 0, .ref q73, .ref q81, .ref q89, .ref q97, .ref q106, .null, .int 0, .int 0, .null, .null, .null, .null])), (q8, ar0 g 360), (q17, ar0 g 360), (q26, ar0 g 360), (q34, ar0 g 6), (q41, ar0 g 5), (q49, ar0 g 90), (q57, az0 g 90), (q65, ar0 g 8), (q73, ar0 g 64), (q81, ar0 g 8), (q89, ar0 g 8), (q97, ar0 g 8), (q106, ar0 g 601)]) rfl ?_
  refine N.aload dX10_init_111 rfl (i := 0) rfl ?_
  refine N.bipush dX10_init_112 (v := 40) (by decide) ?_
  refine N.newi dX10_init_114 (by decide) (k := 40) (by decide) (by decide) (by decide) (by decide) (fun q114 => ?_)
  refine N.putF dX10_init_116 rfl (ci := 10) rfl inG10 tyX10_ok nmX10 (k := 21) (by decide) flw_10_50 rfl rfl (q0 := 0) rfl rfl rfl (Nat.le_of_ble_eq_true rfl) (ws' := [(q, .inr (10, [.ref q8, .ref q17, .ref q26, .int 0, .ref q34, .int 0, .int 0, .int 0, .int 0, .int 0, .int 0, .ref q41, .ref q49, .ref q57, .ref q65, .int 0, .ref q73, .ref q81, .ref q89, .ref q97, .ref q106, .ref q114, .int 0, .int 0, .null, .null, .null, .null])), (q8, ar0 g 360), (q17, ar0 g 360), (q26, ar0 g 360), (q34, ar0 g 6), (q41, ar0 g 5), (q49, ar0 g 90), (q57, az0 g 90), (q65, ar0 g 8), (q73, ar0 g 64), (q81, ar0 g 8), (q89, ar0 g 8), (q97, ar0 g 8), (q106, ar0 g 601), (q114, ar0 g 40)]) rfl ?_
  refine N.aload dX10_init_119 rfl (i := 0) rfl ?_
  refine N.iconst dX10_init_120 (v := 4) (by decide) ?_
  refine N.newi dX10_init_121 (by decide) (k := 4) (by decide) (by decide) (by decide) (by decide) (fun q121 => ?_)
  refine N.putF dX10_init_123 rfl (ci := 10) rfl inG10 tyX10_ok nmX10 (k := 24) (by decide) flw_10_53 rfl rfl (q0 := 0) rfl rfl rfl (Nat.le_of_ble_eq_true rfl) (ws' := [(q, .inr (10, [.ref q8, .ref q17, .ref q26, .int 0, .ref q34, .int 0, .int 0, .int 0, .int 0, .int 0, .int 0, .ref q41, .ref q49, .ref q57, .ref q65, .int 0, .ref q73, .ref q81, .ref q89, .ref q97, .ref q106, .ref q114, .int 0, .int 0, .ref q121, .null, .null, .null])), (q8, ar0 g 360), (q17, ar0 g 360), (q26, ar0 g 360), (q34, ar0 g 6), (q41, ar0 g 5), (q49, ar0 g 90), (q57, az0 g 90), (q65, ar0 g 8), (q73, ar0 g 64), (q81, ar0 g 8), (q89, ar0 g 8), (q97, ar0 g 8), (q106, ar0 g 601), (q114, ar0 g 40), (q121, ar0 g 4)]) rfl ?_
  refine N.aload dX10_init_126 rfl (i := 0) rfl ?_
  refine N.iconst dX10_init_127 (v := 4) (by decide) ?_
  refine N.newi dX10_init_128 (by decide) (k := 4) (by decide) (by decide) (by decide) (by decide) (fun q128 => ?_)
  refine N.putF dX10_init_130 rfl (ci := 10) rfl inG10 tyX10_ok nmX10 (k := 25) (by decide) flw_10_56 rfl rfl (q0 := 0) rfl rfl rfl (Nat.le_of_ble_eq_true rfl) (ws' := [(q, .inr (10, [.ref q8, .ref q17, .ref q26, .int 0, .ref q34, .int 0, .int 0, .int 0, .int 0, .int 0, .int 0, .ref q41, .ref q49, .ref q57, .ref q65, .int 0, .ref q73, .ref q81, .ref q89, .ref q97, .ref q106, .ref q114, .int 0, .int 0, .ref q121, .ref q128, .null, .null])), (q8, ar0 g 360), (q17, ar0 g 360), (q26, ar0 g 360), (q34, ar0 g 6), (q41, ar0 g 5), (q49, ar0 g 90), (q57, az0 g 90), (q65, ar0 g 8), (q73, ar0 g 64), (q81, ar0 g 8), (q89, ar0 g 8), (q97, ar0 g 8), (q106, ar0 g 601), (q114, ar0 g 40), (q121, ar0 g 4), (q128, ar0 g 4)]) rfl ?_
  refine N.aload dX10_init_133 rfl (i := 0) rfl ?_
  refine N.sipush dX10_init_134 (v := 160) (by decide) ?_
  refine N.newi dX10_init_137 (by decide) (k := 160) (by decide) (by decide) (by decide) (by decide) (fun q137 => ?_)
  refine N.putF dX10_init_139 rfl (ci := 10) rfl inG10 tyX10_ok nmX10 (k := 26) (by decide) flw_10_59 rfl rfl (q0 := 0) rfl rfl rfl (Nat.le_of_ble_eq_true rfl) (ws' := [(q, .inr (10, [.ref q8, .ref q17, .ref q26, .int 0, .ref q34, .int 0, .int 0, .int 0, .int 0, .int 0, .int 0, .ref q41, .ref q49, .ref q57, .ref q65, .int 0, .ref q73, .ref q81, .ref q89, .ref q97, .ref q106, .ref q114, .int 0, .int 0, .ref q121, .ref q128, .ref q137, .null])), (q8, ar0 g 360), (q17, ar0 g 360), (q26, ar0 g 360), (q34, ar0 g 6), (q41, ar0 g 5), (q49, ar0 g 90), (q57, az0 g 90), (q65, ar0 g 8), (q73, ar0 g 64), (q81, ar0 g 8), (q89, ar0 g 8), (q97, ar0 g 8), (q106, ar0 g 601), (q114, ar0 g 40), (q121, ar0 g 4), (q128, ar0 g 4), (q137, ar0 g 160)]) rfl ?_
  refine N.aload dX10_init_142 rfl (i := 0) rfl ?_
  refine N.bipush dX10_init_143 (v := 40) (by decide) ?_
  refine N.newi dX10_init_145 (by decide) (k := 40) (by decide) (by decide) (by decide) (by decide) (fun q145 => ?_)
  refine N.putF dX10_init_147 rfl (ci := 10) rfl inG10 tyX10_ok nmX10 (k := 27) (by decide) flw_10_62 rfl rfl (q0 := 0) rfl rfl rfl (Nat.le_of_ble_eq_true rfl) (ws' := [(q, .inr (10, [.ref q8, .ref q17, .ref q26, .int 0, .ref q34, .int 0, .int 0, .int 0, .int 0, .int 0, .int 0, .ref q41, .ref q49, .ref q57, .ref q65, .int 0, .ref q73, .ref q81, .ref q89, .ref q97, .ref q106, .ref q114, .int 0, .int 0, .ref q121, .ref q128, .ref q137, .ref q145])), (q8, ar0 g 360), (q17, ar0 g 360), (q26, ar0 g 360), (q34, ar0 g 6), (q41, ar0 g 5), (q49, ar0 g 90), (q57, az0 g 90), (q65, ar0 g 8), (q73, ar0 g 64), (q81, ar0 g 8), (q89, ar0 g 8), (q97, ar0 g 8), (q106, ar0 g 601), (q114, ar0 g 40), (q121, ar0 g 4), (q128, ar0 g 4), (q137, ar0 g 160), (q145, ar0 g 40)]) rfl ?_
  refine N.aload dX10_init_150 rfl (i := 0) rfl ?_
  refine N.get dX10_init_151 rfl (ci := 10) rfl inG10 (k := 0) (by decide) flw_10_7 (q0 := 0) rfl (v := .ref q8) rfl ?_
  refine N.bipush dX10_init_154 (v := 101) (by decide) ?_
  refine N.iconst dX10_init_156 (v := 3) (by decide) ?_
  refine N.iast dX10_init_157 (q0 := 1) rfl (by unfold vp_in; decide) (j := 101) (by decide) (ws' := [(q, .inr (10, [.ref q8, .ref q17, .ref q26, .int 0, .ref q34, .int 0, .int 0, .int 0, .int 0, .int 0, .int 0, .ref q41, .ref q49, .ref q57, .ref q65, .int 0, .ref q73, .ref q81, .ref q89, .ref q97, .ref q106, .ref q114, .int 0, .int 0, .ref q121, .ref q128, .ref q137, .ref q145])), (q8, .inl (g.2.2.2 0, 360, .inl (upd (fun _ => 0) 101 3))), (q17, ar0 g 360), (q26, ar0 g 360), (q34, ar0 g 6), (q41, ar0 g 5), (q49, ar0 g 90), (q57, az0 g 90), (q65, ar0 g 8), (q73, ar0 g 64), (q81, ar0 g 8), (q89, ar0 g 8), (q97, ar0 g 8), (q106, ar0 g 601), (q114, ar0 g 40), (q121, ar0 g 4), (q128, ar0 g 4), (q137, ar0 g 160), (q145, ar0 g 40)]) rfl ?_
  refine N.aload dX10_init_158 rfl (i := 0) rfl ?_
  refine N.get dX10_init_159 rfl (ci := 10) rfl inG10 (k := 0) (by decide) flw_10_7 (q0 := 0) rfl (v := .ref q8) rfl ?_
  refine N.bipush dX10_init_162 (v := 102) (by decide) ?_
  refine N.bipush dX10_init_164 (v := 60) (by decide) ?_
  refine N.iast dX10_init_166 (q0 := 1) rfl (by unfold vp_in; decide) (j := 102) (by decide) (ws' := [(q, .inr (10, [.ref q8, .ref q17, .ref q26, .int 0, .ref q34, .int 0, .int 0, .int 0, .int 0, .int 0, .int 0, .ref q41, .ref q49, .ref q57, .ref q65, .int 0, .ref q73, .ref q81, .ref q89, .ref q97, .ref q106, .ref q114, .int 0, .int 0, .ref q121, .ref q128, .ref q137, .ref q145])), (q8, .inl (g.2.2.2 0, 360, .inl (upd (upd (fun _ => 0) 101 3) 102 60))), (q17, ar0 g 360), (q26, ar0 g 360), (q34, ar0 g 6), (q41, ar0 g 5), (q49, ar0 g 90), (q57, az0 g 90), (q65, ar0 g 8), (q73, ar0 g 64), (q81, ar0 g 8), (q89, ar0 g 8), (q97, ar0 g 8), (q106, ar0 g 601), (q114, ar0 g 40), (q121, ar0 g 4), (q128, ar0 g 4), (q137, ar0 g 160), (q145, ar0 g 40)]) rfl ?_
  refine N.aload dX10_init_167 rfl (i := 0) rfl ?_
  refine N.get dX10_init_168 rfl (ci := 10) rfl inG10 (k := 0) (by decide) flw_10_7 (q0 := 0) rfl (v := .ref q8) rfl ?_
  refine N.bipush dX10_init_171 (v := 105) (by decide) ?_
  refine N.iconst dX10_init_173 (v := 1) (by decide) ?_
  refine N.iast dX10_init_174 (q0 := 1) rfl (by unfold vp_in; decide) (j := 105) (by decide) (ws' := [(q, .inr (10, [.ref q8, .ref q17, .ref q26, .int 0, .ref q34, .int 0, .int 0, .int 0, .int 0, .int 0, .int 0, .ref q41, .ref q49, .ref q57, .ref q65, .int 0, .ref q73, .ref q81, .ref q89, .ref q97, .ref q106, .ref q114, .int 0, .int 0, .ref q121, .ref q128, .ref q137, .ref q145])), (q8, .inl (g.2.2.2 0, 360, .inl (upd (upd (upd (fun _ => 0) 101 3) 102 60) 105 1))), (q17, ar0 g 360), (q26, ar0 g 360), (q34, ar0 g 6), (q41, ar0 g 5), (q49, ar0 g 90), (q57, az0 g 90), (q65, ar0 g 8), (q73, ar0 g 64), (q81, ar0 g 8), (q89, ar0 g 8), (q97, ar0 g 8), (q106, ar0 g 601), (q114, ar0 g 40), (q121, ar0 g 4), (q128, ar0 g 4), (q137, ar0 g 160), (q145, ar0 g 40)]) rfl ?_
  exact N.ret dX10_init_175 (by decide) (by decide) ⟨fun i => [q8, q17, q26, q34, q41, q49, q57, q65, q73, q81, q89, q97, q106, q114, q121, q128, q137, q145].getD i 0, rfl⟩

