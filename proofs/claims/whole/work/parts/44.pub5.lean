/-! ===== public methods: slates ===== -/
theorem insR_nd {off : Nat → Int32} {b : Nat} : ∀ {r : List Nat}, r.Nodup → b ∉ r → (insR off b r).Nodup
  | [], _, _ => by simp [insR]
  | x :: r, h, hb => by
    have h' := List.nodup_cons.mp h
    have hbx : b ≠ x := fun z => hb (by rw [z]; exact List.mem_cons_self)
    have hbr : b ∉ r := fun z => hb (List.mem_cons_of_mem _ z)
    unfold insR
    split
    · refine List.nodup_cons.mpr ⟨hb, h⟩
    · refine List.nodup_cons.mpr ⟨fun z => ?_, insR_nd h'.2 hbr⟩
      rcases insR_mem z with q | q
      · exact hbx q.symm
      · exact h'.1 q
theorem odR_nd {off : Nat → Int32} {p : Nat → Bool} : ∀ n, (odR off p n).Nodup
  | 0 => by simp [odR]
  | n + 1 => by
    unfold odR
    split
    · exact insR_nd (odR_nd n) (fun z => absurd (odR_lt z) (Nat.lt_irrefl _))
    · exact odR_nd n
/-- the k-th of those that strike -/
def odN (M : Mem) (hour : Int32) (n k : Nat) : Nat := (odR (fun x => M (30 + x) 4) (fun b => strk (M (30 + b) 0) (M (30 + b) 1) (M (30 + b) 6) hour) n).getD ((odR (fun x => M (30 + x) 4) (fun b => strk (M (30 + b) 0) (M (30 + b) 1) (M (30 + b) 6) hour) n).length - 1 - k) 0
def odM (M : Mem) (hour : Int32) (n : Nat) : Nat := (odR (fun x => M (30 + x) 4) (fun b => strk (M (30 + b) 0) (M (30 + b) 1) (M (30 + b) 6) hour) n).length
theorem getD_el {r : List Nat} {i : Nat} (h : i < r.length) : r.getD i 0 = r[i] := by rw [List.getD_eq_getElem?_getD, List.getElem?_eq_getElem h]; rfl
theorem Od_of {f : Nat → Int32} {r : List Nat} {n : Nat} (h : OdOK f r) (hl : ∀ x, x ∈ r → x < n) (hn : r.Nodup) : (∀ k, k < r.length → f k = nI (r.getD (r.length - 1 - k) 0) ∧ r.getD (r.length - 1 - k) 0 < n) ∧ ∀ i j, i < r.length → j < r.length → r.getD (r.length - 1 - i) 0 = r.getD (r.length - 1 - j) 0 → i = j := by
  have key : ∀ i j, i < r.length → j < r.length → i < j → r.getD i 0 ≠ r.getD j 0 := fun i j hi hj hij => by
    rw [getD_el hi, getD_el hj]
    exact (List.pairwise_iff_getElem.mp hn) i j hi hj hij
  refine ⟨fun k hk => ⟨?_, ?_⟩, fun i j hi hj e => ?_⟩
  · have := h (r.length - 1 - k) (by omega)
    rwa [show r.length - 1 - (r.length - 1 - k) = k by omega] at this
  · rw [getD_el (show r.length - 1 - k < r.length by omega)]
    exact hl _ (List.getElem_mem _)
  · rcases Nat.lt_trichotomy (r.length - 1 - i) (r.length - 1 - j) with q | q | q
    · exact absurd e (key _ _ (by omega) (by omega) q)
    · omega
    · exact absurd e.symm (key _ _ (by omega) (by omega) q)
theorem Od_line {M M1 : Mem} {hour : Int32} {n ne : Nat} (hV : VB M n ne) (h1 : M1 5 3 = nI (odR (fun x => M (30 + x) 4) (fun b => strk (M (30 + b) 0) (M (30 + b) 1) (M (30 + b) 6) hour) n).length) (h2 : OdOK (M1 55) (odR (fun x => M (30 + x) 4) (fun b => strk (M (30 + b) 0) (M (30 + b) 1) (M (30 + b) 6) hour) n)) : Od M1 (odN M hour n) (odM M hour n) n := by
  have h := Od_of h2 (fun x hx => odR_lt hx) (odR_nd n)
  have hl := odR_len (off := (fun x => M (30 + x) 4)) (p := (fun b => strk (M (30 + b) 0) (M (30 + b) 1) (M (30 + b) 6) hour)) n
  exact ⟨h1, Nat.le_trans hl hV.2.1, hV.2.1, h.1, h.2⟩
abbrev scrS : List Nat := 5 :: 55 :: 56 :: scrH

set_option maxHeartbeats 4000000 in
set_option maxRecDepth 100000 in
theorem c9_least {g : GG} {d : Nat} {M : Mem} {Q : Option Value → Mem → Prop} {a : Int32} {n ne : Nat} (hV : VB M n ne) (hbad : ¬ (0 ≤ a ∧ a ≤ 23) → Q (some (.int (-1000000001))) (put M 9 1 (M 9 1 + 1))) (hnone : (0 ≤ a ∧ a ≤ 23) → ∀ M1 M2, eqx (5 :: 55 :: scrH) M M1 → eqx [56] M1 M2 →  2000 < ((lbF (loT (geC (fun a' b' => gpF (hpH M a) (wyH M) (M1 1 6) a' b' ne)) (fun a' b' => gpF (hpH M a) (wyH M) (M1 1 6) a' b' ne) (fun x => M1 (30 + x) 4) (odN M a n) 0 (odM M a n)) (fun x => M2 (30 + x) 4) (odN M a n) (odM M a n)) + 1) / 2 → Q (some (.int (-1000000002))) (put M2 9 2 (M2 9 2 + 1))) (hok : (0 ≤ a ∧ a ≤ 23) → ∀ M1 M2, eqx (5 :: 55 :: scrH) M M1 → eqx [56] M1 M2 →  ¬ 2000 < ((lbF (loT (geC (fun a' b' => gpF (hpH M a) (wyH M) (M1 1 6) a' b' ne)) (fun a' b' => gpF (hpH M a) (wyH M) (M1 1 6) a' b' ne) (fun x => M1 (30 + x) 4) (odN M a n) 0 (odM M a n)) (fun x => M2 (30 + x) 4) (odN M a n) (odM M a n)) + 1) / 2 → Q (some (.int (((lbF (loT (geC (fun a' b' => gpF (hpH M a) (wyH M) (M1 1 6) a' b' ne)) (fun a' b' => gpF (hpH M a) (wyH M) (M1 1 6) a' b' ne) (fun x => M1 (30 + x) 4) (odN M a n) 0 (odM M a n)) (fun x => M2 (30 + x) 4) (odN M a n) (odM M a n)) + 1) / 2))) M2) : V cS g (d + 6) mX9_least 0 [some (.ref 0), some (.int a), none] [] M Q := by
  have h8 := hV.2.1
  by_cases h : (0 ≤ a ∧ a ≤ 23)
  · skip
    refine V.iload_n dX9_least_0 rfl (i := 1) rfl ?_
    refine V.invs (z := mX9_isHour) (As := [_]) dX9_least_1 rfl mlRX9_138 okX9_isHour npX9_isHour rfl (Nat.le_of_ble_eq_true rfl) rfl (Nat.le_of_ble_eq_true rfl) (c_isHour   ?_)
    show V cS g (d + 6) mX9_least 4 [some (.ref 0), some (.int a), none] [.int (b2i (0 ≤ a ∧ a ≤ 23))] (M) Q
    refine V.if_ne (tgt := 14) dX9_least_4 (by decide) (fun c4 => ?_) (fun q => absurd q ((fun z => b2i_0.mp z h)))
    refine V.aload_n dX9_least_14 rfl (i := 0) rfl ?_
    refine V.getR dX9_least_15 rfl flRX9_40 rfl ⟨by decide, by decide⟩ ?_
    refine V.iload_n dX9_least_18 rfl (i := 1) rfl ?_
    refine V.invv (z := mX5_lineUp) (As := [_]) dX9_least_19 rfl mlRX9_249 okX5_lineUp npX5_lineUp rfl rfl rfl ⟨by decide, by decide⟩ (Nat.le_of_ble_eq_true rfl) rfl (Nat.le_of_ble_eq_true rfl) (c_lineUp hV (fun M1 hM1 hH1 h53 h55 => ?_))
    show V cS g (d + 6) mX9_least 22 [some (.ref 0), some (.int a), none] [] M1 Q
    refine V.aload_n dX9_least_22 rfl (i := 0) rfl ?_
    refine V.getR dX9_least_23 rfl flRX9_40 rfl ⟨by decide, by decide⟩ ?_
    refine V.iconst dX9_least_26 (v := 0) (by decide) ?_
    refine V.invv (z := mX5_goEarly) (As := [_]) dX9_least_27 rfl mlRX9_252 okX5_goEarly npX5_goEarly rfl rfl rfl ⟨by decide, by decide⟩ (Nat.le_of_ble_eq_true rfl) rfl (Nat.le_of_ble_eq_true rfl) (c_goEarly (hV.eq hM1 (by decide) (by decide) (by decide) (fun b hb => by simp; omega)).cn hH1 (Od_line hV h53 h55) (fun M2 hM2 h56 => ?_))
    show V cS g (d + 6) mX9_least 30 [some (.ref 0), some (.int a), none] [] M2 Q
    refine V.aload_n dX9_least_30 rfl (i := 0) rfl ?_
    refine V.getR dX9_least_31 rfl flRX9_40 rfl ⟨by decide, by decide⟩ ?_
    refine V.invv (z := mX5_latestBehind) (As := []) dX9_least_34 rfl mlRX9_255 okX5_latestBehind npX5_latestBehind rfl rfl rfl ⟨by decide, by decide⟩ (Nat.le_of_ble_eq_true rfl) rfl (Nat.le_of_ble_eq_true rfl) (c_lb ((Od_line hV h53 h55).eq hM2 (by decide) (by decide)) h56 ?_)
    show V cS g (d + 6) mX9_least 37 [some (.ref 0), some (.int a), none] [.int (lbF (loT (geC (fun a' b' => gpF (hpH M a) (wyH M) (M1 1 6) a' b' ne)) (fun a' b' => gpF (hpH M a) (wyH M) (M1 1 6) a' b' ne) (fun x => M1 (30 + x) 4) (odN M a n) 0 (odM M a n)) (fun x => M2 (30 + x) 4) (odN M a n) (odM M a n))] M2 Q
    refine V.iconst dX9_least_37 (v := 1) (by decide) ?_
    refine V.iadd dX9_least_38 ?_
    refine V.iconst dX9_least_39 (v := 2) (by decide) ?_
    refine V.idiv dX9_least_40 (by first | assumption | decide | omega) ?_
    refine V.istore_n dX9_least_41 rfl (i := 2) (by decide) (fun _ h => by cases h; exact Or.inl rfl) rfl ?_
    refine V.iload_n dX9_least_42 rfl (i := 2) rfl ?_
    refine V.sipush dX9_least_43 (v := 2000) (by decide) ?_
    refine V.ic_le (tgt := 58) dX9_least_46 (by decide) (fun c46 => ?_) (fun c46 => ?_)
    · refine V.iload_n dX9_least_58 rfl (i := 2) rfl ?_
      exact V.ret dX9_least_59 rfl (by first | exact hnone h M1 M2 hM1 hM2 (Int32.not_le.mp c46) | exact hok h M1 M2 hM1 hM2 (Int32.not_lt.mpr c46))
    · refine V.aload_n dX9_least_49 rfl (i := 0) rfl ?_
      refine V.ldc dX9_least_50 rfl ctRX9_157 ?_
      refine V.invv (z := mX9_error) (As := [_]) dX9_least_52 rfl mlRX9_82 okX9_error npX9_error rfl rfl rfl ⟨by decide, by decide⟩ (Nat.le_of_ble_eq_true rfl) rfl (Nat.le_of_ble_eq_true rfl) (c_err2   ?_)
      show V cS g (d + 6) mX9_least 55 [some (.ref 0), some (.int a), some (.int (((lbF (loT (geC (fun a' b' => gpF (hpH M a) (wyH M) (M1 1 6) a' b' ne)) (fun a' b' => gpF (hpH M a) (wyH M) (M1 1 6) a' b' ne) (fun x => M1 (30 + x) 4) (odN M a n) 0 (odM M a n)) (fun x => M2 (30 + x) 4) (odN M a n) (odM M a n)) + (1 : Int32)) / (2 : Int32)))] [.int (-1000000002 : Int32)] (put M2 9 2 (M2 9 2 + 1)) Q
      refine V.goto dX9_least_55 (tgt := 59) (by decide) ?_
      exact V.ret dX9_least_59 rfl (by first | exact hnone h M1 M2 hM1 hM2 (Int32.not_le.mp c46) | exact hok h M1 M2 hM1 hM2 (Int32.not_lt.mpr c46))
  · skip
    refine V.iload_n dX9_least_0 rfl (i := 1) rfl ?_
    refine V.invs (z := mX9_isHour) (As := [_]) dX9_least_1 rfl mlRX9_138 okX9_isHour npX9_isHour rfl (Nat.le_of_ble_eq_true rfl) rfl (Nat.le_of_ble_eq_true rfl) (c_isHour   ?_)
    show V cS g (d + 6) mX9_least 4 [some (.ref 0), some (.int a), none] [.int (b2i (0 ≤ a ∧ a ≤ 23))] (M) Q
    refine V.if_ne (tgt := 14) dX9_least_4 (by decide) (fun c4 => ?_) (fun c4 => ?_)
    · exact absurd (Classical.byContradiction fun z => c4 (b2i_f z)) h
    · refine V.aload_n dX9_least_7 rfl (i := 0) rfl ?_
      refine V.ldc dX9_least_8 rfl ctRX9_81 ?_
      refine V.invv (z := mX9_error) (As := [_]) dX9_least_10 rfl mlRX9_82 okX9_error npX9_error rfl rfl rfl ⟨by decide, by decide⟩ (Nat.le_of_ble_eq_true rfl) rfl (Nat.le_of_ble_eq_true rfl) (c_err1   ?_)
      show V cS g (d + 6) mX9_least 13 [some (.ref 0), some (.int a), none] [.int (-1000000001 : Int32)] (put (M) 9 1 ((M) 9 1 + 1)) Q
      exact V.ret dX9_least_13 rfl (hbad h)
set_option maxHeartbeats 4000000 in
set_option maxRecDepth 100000 in
theorem c9_hang {g : GG} {d : Nat} {M : Mem} {Q : Option Value → Mem → Prop} {a : Int32} {n ne : Nat} (hV : VB M n ne) (hbad : ¬ (0 ≤ a ∧ a ≤ 23) → Q (some (.int (-1000000001))) (put M 9 1 (M 9 1 + 1))) (hnone : (0 ≤ a ∧ a ≤ 23) → ∀ M1 M2, eqx (5 :: 55 :: scrH) M M1 → eqx [56] M1 M2 →  M 1 7 < (lbF (loT (geC (fun a' b' => gpF (hpH M a) (wyH M) (M1 1 6) a' b' ne)) (fun a' b' => gpF (hpH M a) (wyH M) (M1 1 6) a' b' ne) (fun x => M1 (30 + x) 4) (odN M a n) (M 1 7) (odM M a n)) (fun x => M2 (30 + x) 4) (odN M a n) (odM M a n)) → Q (some (.int (-1000000002))) (put M2 9 2 (M2 9 2 + 1))) (hok : (0 ≤ a ∧ a ≤ 23) → ∀ M1 M2, eqx (5 :: 55 :: scrH) M M1 → eqx [56] M1 M2 →  ¬ M 1 7 < (lbF (loT (geC (fun a' b' => gpF (hpH M a) (wyH M) (M1 1 6) a' b' ne)) (fun a' b' => gpF (hpH M a) (wyH M) (M1 1 6) a' b' ne) (fun x => M1 (30 + x) 4) (odN M a n) (M 1 7) (odM M a n)) (fun x => M2 (30 + x) 4) (odN M a n) (odM M a n)) → Q (some (.int (nI (tkC (loT (geC (fun a' b' => gpF (hpH M a) (wyH M) (M1 1 6) a' b' ne)) (fun a' b' => gpF (hpH M a) (wyH M) (M1 1 6) a' b' ne) (fun x => M1 (30 + x) 4) (odN M a n) (M 1 7) (odM M a n)) (fun x => M2 (30 + x) 4) (odN M a n) (odM M a n))))) (zo M2 (foT (loT (geC (fun a' b' => gpF (hpH M a) (wyH M) (M1 1 6) a' b' ne)) (fun a' b' => gpF (hpH M a) (wyH M) (M1 1 6) a' b' ne) (fun x => M1 (30 + x) 4) (odN M a n) (M 1 7) (odM M a n)) (fun x => M2 (30 + x) 4) (odN M a n) (odM M a n)))) : V cS g (d + 6) mX9_hang 0 [some (.ref 0), some (.int a)] [] M Q := by
  have h8 := hV.2.1
  by_cases h : (0 ≤ a ∧ a ≤ 23)
  · skip
    refine V.iload_n dX9_hang_0 rfl (i := 1) rfl ?_
    refine V.invs (z := mX9_isHour) (As := [_]) dX9_hang_1 rfl mlRX9_138 okX9_isHour npX9_isHour rfl (Nat.le_of_ble_eq_true rfl) rfl (Nat.le_of_ble_eq_true rfl) (c_isHour   ?_)
    show V cS g (d + 6) mX9_hang 4 [some (.ref 0), some (.int a)] [.int (b2i (0 ≤ a ∧ a ≤ 23))] (M) Q
    refine V.if_ne (tgt := 14) dX9_hang_4 (by decide) (fun c4 => ?_) (fun q => absurd q ((fun z => b2i_0.mp z h)))
    refine V.aload_n dX9_hang_14 rfl (i := 0) rfl ?_
    refine V.getR dX9_hang_15 rfl flRX9_40 rfl ⟨by decide, by decide⟩ ?_
    refine V.iload_n dX9_hang_18 rfl (i := 1) rfl ?_
    refine V.invv (z := mX5_lineUp) (As := [_]) dX9_hang_19 rfl mlRX9_249 okX5_lineUp npX5_lineUp rfl rfl rfl ⟨by decide, by decide⟩ (Nat.le_of_ble_eq_true rfl) rfl (Nat.le_of_ble_eq_true rfl) (c_lineUp hV (fun M1 hM1 hH1 h53 h55 => ?_))
    show V cS g (d + 6) mX9_hang 22 [some (.ref 0), some (.int a)] [] M1 Q
    refine V.aload_n dX9_hang_22 rfl (i := 0) rfl ?_
    refine V.getR dX9_hang_23 rfl flRX9_40 rfl ⟨by decide, by decide⟩ ?_
    refine V.aload_n dX9_hang_26 rfl (i := 0) rfl ?_
    refine V.getR dX9_hang_27 rfl flRX9_12 rfl ⟨by decide, by decide⟩ ?_
    refine V.getI dX9_hang_30 rfl flRX9_101 rfl ⟨by decide, by decide⟩ ?_
    refine V.top (x' := (M 1 7)) ((by rw [hM1 1 (by decide)])) ?_
    refine V.invv (z := mX5_goEarly) (As := [_]) dX9_hang_33 rfl mlRX9_252 okX5_goEarly npX5_goEarly rfl rfl rfl ⟨by decide, by decide⟩ (Nat.le_of_ble_eq_true rfl) rfl (Nat.le_of_ble_eq_true rfl) (c_goEarly (hV.eq hM1 (by decide) (by decide) (by decide) (fun b hb => by simp; omega)).cn hH1 (Od_line hV h53 h55) (fun M2 hM2 h56 => ?_))
    show V cS g (d + 6) mX9_hang 36 [some (.ref 0), some (.int a)] [] M2 Q
    refine V.aload_n dX9_hang_36 rfl (i := 0) rfl ?_
    refine V.getR dX9_hang_37 rfl flRX9_40 rfl ⟨by decide, by decide⟩ ?_
    refine V.invv (z := mX5_latestBehind) (As := []) dX9_hang_40 rfl mlRX9_255 okX5_latestBehind npX5_latestBehind rfl rfl rfl ⟨by decide, by decide⟩ (Nat.le_of_ble_eq_true rfl) rfl (Nat.le_of_ble_eq_true rfl) (c_lb ((Od_line hV h53 h55).eq hM2 (by decide) (by decide)) h56 ?_)
    show V cS g (d + 6) mX9_hang 43 [some (.ref 0), some (.int a)] [.int (lbF (loT (geC (fun a' b' => gpF (hpH M a) (wyH M) (M1 1 6) a' b' ne)) (fun a' b' => gpF (hpH M a) (wyH M) (M1 1 6) a' b' ne) (fun x => M1 (30 + x) 4) (odN M a n) (M 1 7) (odM M a n)) (fun x => M2 (30 + x) 4) (odN M a n) (odM M a n))] M2 Q
    refine V.aload_n dX9_hang_43 rfl (i := 0) rfl ?_
    refine V.getR dX9_hang_44 rfl flRX9_12 rfl ⟨by decide, by decide⟩ ?_
    refine V.getI dX9_hang_47 rfl flRX9_101 rfl ⟨by decide, by decide⟩ ?_
    refine V.top (x' := (M 1 7)) ((by rw [hM2 1 (by decide), hM1 1 (by decide)])) ?_
    refine V.ic_le (tgt := 60) dX9_hang_50 (by decide) (fun c50 => ?_) (fun c50 => ?_)
    · refine V.aload_n dX9_hang_60 rfl (i := 0) rfl ?_
      refine V.getR dX9_hang_61 rfl flRX9_40 rfl ⟨by decide, by decide⟩ ?_
      refine V.invv (z := mX5_takeOver) (As := []) dX9_hang_64 rfl mlRX9_264 okX5_takeOver npX5_takeOver rfl rfl rfl ⟨by decide, by decide⟩ (Nat.le_of_ble_eq_true rfl) rfl (Nat.le_of_ble_eq_true rfl) (c_take ((Od_line hV h53 h55).eq hM2 (by decide) (by decide)) h56 ?_)
      show V cS g (d + 6) mX9_hang 67 [some (.ref 0), some (.int a)] [.int (nI (tkC (loT (geC (fun a' b' => gpF (hpH M a) (wyH M) (M1 1 6) a' b' ne)) (fun a' b' => gpF (hpH M a) (wyH M) (M1 1 6) a' b' ne) (fun x => M1 (30 + x) 4) (odN M a n) (M 1 7) (odM M a n)) (fun x => M2 (30 + x) 4) (odN M a n) (odM M a n)))] (zo M2 (foT (loT (geC (fun a' b' => gpF (hpH M a) (wyH M) (M1 1 6) a' b' ne)) (fun a' b' => gpF (hpH M a) (wyH M) (M1 1 6) a' b' ne) (fun x => M1 (30 + x) 4) (odN M a n) (M 1 7) (odM M a n)) (fun x => M2 (30 + x) 4) (odN M a n) (odM M a n))) Q
      exact V.ret dX9_hang_67 rfl (hok h M1 M2 hM1 hM2 (Int32.not_lt.mpr c50))
    · refine V.aload_n dX9_hang_53 rfl (i := 0) rfl ?_
      refine V.ldc dX9_hang_54 rfl ctRX9_157 ?_
      refine V.invv (z := mX9_error) (As := [_]) dX9_hang_56 rfl mlRX9_82 okX9_error npX9_error rfl rfl rfl ⟨by decide, by decide⟩ (Nat.le_of_ble_eq_true rfl) rfl (Nat.le_of_ble_eq_true rfl) (c_err2   ?_)
      show V cS g (d + 6) mX9_hang 59 [some (.ref 0), some (.int a)] [.int (-1000000002 : Int32)] (put M2 9 2 (M2 9 2 + 1)) Q
      exact V.ret dX9_hang_59 rfl (hnone h M1 M2 hM1 hM2 (Int32.not_le.mp c50))
  · skip
    refine V.iload_n dX9_hang_0 rfl (i := 1) rfl ?_
    refine V.invs (z := mX9_isHour) (As := [_]) dX9_hang_1 rfl mlRX9_138 okX9_isHour npX9_isHour rfl (Nat.le_of_ble_eq_true rfl) rfl (Nat.le_of_ble_eq_true rfl) (c_isHour   ?_)
    show V cS g (d + 6) mX9_hang 4 [some (.ref 0), some (.int a)] [.int (b2i (0 ≤ a ∧ a ≤ 23))] (M) Q
    refine V.if_ne (tgt := 14) dX9_hang_4 (by decide) (fun c4 => ?_) (fun c4 => ?_)
    · exact absurd (Classical.byContradiction fun z => c4 (b2i_f z)) h
    · refine V.aload_n dX9_hang_7 rfl (i := 0) rfl ?_
      refine V.ldc dX9_hang_8 rfl ctRX9_81 ?_
      refine V.invv (z := mX9_error) (As := [_]) dX9_hang_10 rfl mlRX9_82 okX9_error npX9_error rfl rfl rfl ⟨by decide, by decide⟩ (Nat.le_of_ble_eq_true rfl) rfl (Nat.le_of_ble_eq_true rfl) (c_err1   ?_)
      show V cS g (d + 6) mX9_hang 13 [some (.ref 0), some (.int a)] [.int (-1000000001 : Int32)] (put (M) 9 1 ((M) 9 1 + 1)) Q
      exact V.ret dX9_hang_13 rfl (hbad h)

