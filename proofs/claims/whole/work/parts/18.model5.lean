/-! TunerBenchModel() -/
theorem mso_1 (j : Nat) : mso (fun _ _ => 40003) j = 1 := by
  show srtF 40003 = 1
  decide
theorem mqu_0 (j : Nat) : mqu (fun _ _ => 40003) j = 0 := by
  show qrtF 40003 = 0
  decide
theorem vpz (n : Nat) (cA : ClassId) : vp_cell cA (n, .inl (fun _ => 0)) = arrV cA n (fun _ => .int 0) := rfl
theorem hb_i (n : Nat) (h : n * 4 ≤ 536870912) : n * componentBytes .int ≤ 536870912 := h
theorem hb_z (n : Nat) (h : n * 1 ≤ 536870912) : n * componentBytes .boolean ≤ 536870912 := h
theorem mis_0 (j : Nat) : mis (fun _ => none) j = 0 := rfl
theorem gse_0 (f : GT → Int32) (j : Nat) : gsel (fun _ => none) f j = 0 := rfl
set_option maxHeartbeats 4000000 in
set_option maxRecDepth 100000 in
theorem c_X2_init (l : Launch) (D : va_G) (b sz : Nat) : Met l yX2_init wsX2_init ({ frames := 1, cells := 10, slots := 196, locals := 12 }) (xW D vwCl [(b, .inr (2, [.null, .null, .int 0, .int 0, .int 0, .int 0, .null, .null, .null, .null, .null, .null, .null, .null]))] [] xB0 sz [.ref b]) (xQv (S := (Nat → Nat) × ClassId × ClassId) D vwCl (fun u => u.1 0 = b) (fun u => mb u.1 u.2.1 u.2.2 (fun _ _ => 40003) (fun _ => none) 0 (-1) 0 0) (fun u => mT u.2.1 u.2.2) (va_A [(b, .inr (2, [.null, .null, .int 0, .int 0, .int 0, .int 0, .null, .null, .null, .null, .null, .null, .null, .null]))] sz)) 10 196 (va_A [(b, .inr (2, [.null, .null, .int 0, .int 0, .int 0, .int 0, .null, .null, .null, .null, .null, .null, .null, .null]))] sz) := by
  refine xw_in (Qf := xQv (S := (Nat → Nat) × ClassId × ClassId) D vwCl (fun u => u.1 0 = b) (fun u => mb u.1 u.2.1 u.2.2 (fun _ _ => 40003) (fun _ => none) 0 (-1) 0 0) (fun u => mT u.2.1 u.2.2)) (cc := cX2_init) (maxL := 2) (ret := none) (by decide) rfl (Nat.le_of_ble_eq_true rfl) ?_
  intro p e s m below meth c ls A hx hb hr hml hts hown hlk hnm hA hP hK hD hS hB hl
  have hown : s.vm.findClass RX2 = some m.cls := hown
  have hin : meth.name = "<init>" := hnm
  have hl : lv_has ls 2 [(0, .ref b)] := hl
  have hiF : ∀ w ∈ wsX20, w ∈ wsX2_init := by decide +kernel
  refine lv_aload_n hx hb dX2_init_0 rfl (lv_at hl 0 rfl) ?_
  refine W.objInit hx hb hown (hts (.methodLink RX2 1 objectInit) (by decide +kernel)) (hts (.instanceMethod objectInit) (by decide +kernel)) (hts _ (List.mem_cons_of_mem _ (List.mem_append_left _ (List.mem_of_getElem? (i := 2) rfl)))) rfl (by rw [hml]; exact hl.1) rfl dX2_init_1 (Nat.le_of_ble_eq_true rfl) (Nat.le_of_ble_eq_true rfl) ?_
  refine W.eq (g2 := F0 m 4 ls []) rfl ?_
  refine lv_aload_n hx hb dX2_init_4 rfl (lv_at hl 0 rfl) ?_
  refine lv_bipush (v := 66) hx hb dX2_init_5 (by decide) ?_
  refine va_newa (D := D) (atype := .int) (ty := .int) (a0 := (66, .inl (fun _ => 0))) (N' := 66) hx hb (hts (.arrayClass .int) (by decide +kernel)) rfl hK hP hD hS hA (vpz 66) (by decide) (by decide) (hb_i _ (by decide)) (Nat.le_of_ble_eq_true rfl) (Nat.le_of_ble_eq_true rfl) dX2_init_7 (fun q1 cI H hK hP hD hS => ?_)
  have hP : va_P D vwCl [(b, .inr (2, [.null, .null, .int 0, .int 0, .int 0, .int 0, .null, .null, .null, .null, .null, .null, .null, .null])), (q1, .inl (cI, 66, .inl (fun _ => 0)))] H := hP
  have hD : va_D A [(b, .inr (2, [.null, .null, .int 0, .int 0, .int 0, .int 0, .null, .null, .null, .null, .null, .null, .null, .null])), (q1, .inl (cI, 66, .inl (fun _ => 0)))] := hD
  have hK : va_K D vwCl [(cI, .int)] s := hK
  refine W.widen (k := 1) (n := 66) (Nat.le_of_ble_eq_true rfl) (Nat.le_of_ble_eq_true rfl) ?_
  refine va_putF (D := D) (ci := 2) (v := .ref q1) (ty := .array .int) (C := RX2) (T := TX2) (N := 14) hx hb hts hiF tyX2 tyX2_ok nmX2 hown hK hP hD hS 0 rfl rfl 0 (by decide) (hts (.fieldLink RX2 7 "TunerBenchModel" "sorts" "[I") (by decide +kernel)) (fun _ h9 => h9) rfl hin rfl (by decide +kernel) rfl rfl (Nat.le_of_ble_eq_true rfl) dX2_init_9 (fun H locs hP hD hS => ?_)
  have hP : va_P D vwCl [(b, .inr (2, [.ref q1, .null, .int 0, .int 0, .int 0, .int 0, .null, .null, .null, .null, .null, .null, .null, .null])), (q1, .inl (cI, 66, .inl (fun _ => 0)))] H := hP
  have hD : va_D A [(b, .inr (2, [.ref q1, .null, .int 0, .int 0, .int 0, .int 0, .null, .null, .null, .null, .null, .null, .null, .null])), (q1, .inl (cI, 66, .inl (fun _ => 0)))] := hD
  refine lv_aload_n hx hb dX2_init_12 rfl (lv_at hl 0 rfl) ?_
  refine lv_bipush (v := 66) hx hb dX2_init_13 (by decide) ?_
  refine va_newa (D := D) (atype := .int) (ty := .int) (a0 := (66, .inl (fun _ => 0))) (N' := 66) hx hb (hts (.arrayClass .int) (by decide +kernel)) rfl hK hP hD hS hA (vpz 66) (by decide) (by decide) (hb_i _ (by decide)) (Nat.le_of_ble_eq_true rfl) (Nat.le_of_ble_eq_true rfl) dX2_init_15 (fun q2 c9 H hK hP hD hS => ?_)
  obtain rfl : cI = c9 := Option.some.inj ((hK.2 0 (cI, .int) rfl).2.symm.trans (hK.2 1 (c9, .int) rfl).2)
  have hK := hK.sub (tys' := [(cI, .int)]) [0] rfl
  have hP : va_P D vwCl [(b, .inr (2, [.ref q1, .null, .int 0, .int 0, .int 0, .int 0, .null, .null, .null, .null, .null, .null, .null, .null])), (q1, .inl (cI, 66, .inl (fun _ => 0))), (q2, .inl (cI, 66, .inl (fun _ => 0)))] H := hP
  have hD : va_D A [(b, .inr (2, [.ref q1, .null, .int 0, .int 0, .int 0, .int 0, .null, .null, .null, .null, .null, .null, .null, .null])), (q1, .inl (cI, 66, .inl (fun _ => 0))), (q2, .inl (cI, 66, .inl (fun _ => 0)))] := hD
  have hK : va_K D vwCl [(cI, .int)] s := hK
  refine W.widen (k := 2) (n := 132) (Nat.le_of_ble_eq_true rfl) (Nat.le_of_ble_eq_true rfl) ?_
  refine va_putF (D := D) (ci := 2) (v := .ref q2) (ty := .array .int) (C := RX2) (T := TX2) (N := 14) hx hb hts hiF tyX2 tyX2_ok nmX2 hown hK hP hD hS 0 rfl rfl 1 (by decide) (hts (.fieldLink RX2 13 "TunerBenchModel" "quarters" "[I") (by decide +kernel)) (fun _ h9 => h9) rfl hin rfl (by decide +kernel) rfl rfl (Nat.le_of_ble_eq_true rfl) dX2_init_17 (fun H locs hP hD hS => ?_)
  have hP : va_P D vwCl [(b, .inr (2, [.ref q1, .ref q2, .int 0, .int 0, .int 0, .int 0, .null, .null, .null, .null, .null, .null, .null, .null])), (q1, .inl (cI, 66, .inl (fun _ => 0))), (q2, .inl (cI, 66, .inl (fun _ => 0)))] H := hP
  have hD : va_D A [(b, .inr (2, [.ref q1, .ref q2, .int 0, .int 0, .int 0, .int 0, .null, .null, .null, .null, .null, .null, .null, .null])), (q1, .inl (cI, 66, .inl (fun _ => 0))), (q2, .inl (cI, 66, .inl (fun _ => 0)))] := hD
  refine lv_aload_n hx hb dX2_init_20 rfl (lv_at hl 0 rfl) ?_
  refine lv_iconst (v := -1) hx hb dX2_init_21 (by decide) ?_
  refine va_put (D := D) (ci := 2) (v := .int (-1)) (ty := .int) (C := RX2) (T := TX2) (N := 14) hx hb hts hiF tyX2 tyX2_ok nmX2 hown hK hP hD hS 0 rfl rfl 3 (by decide) (hts (.fieldLink RX2 16 "TunerBenchModel" "latest" "I") (by decide +kernel)) (fun _ h9 => h9) rfl (by decide +kernel) rfl rfl (Nat.le_of_ble_eq_true rfl) dX2_init_22 (fun H locs hP hD hS => ?_)
  have hP : va_P D vwCl [(b, .inr (2, [.ref q1, .ref q2, .int 0, .int (-1), .int 0, .int 0, .null, .null, .null, .null, .null, .null, .null, .null])), (q1, .inl (cI, 66, .inl (fun _ => 0))), (q2, .inl (cI, 66, .inl (fun _ => 0)))] H := hP
  have hD : va_D A [(b, .inr (2, [.ref q1, .ref q2, .int 0, .int (-1), .int 0, .int 0, .null, .null, .null, .null, .null, .null, .null, .null])), (q1, .inl (cI, 66, .inl (fun _ => 0))), (q2, .inl (cI, 66, .inl (fun _ => 0)))] := hD
  refine lv_aload_n hx hb dX2_init_25 rfl (lv_at hl 0 rfl) ?_
  refine lv_bipush (v := 8) hx hb dX2_init_26 (by decide) ?_
  refine va_newa (D := D) (atype := .boolean) (ty := .boolean) (a0 := (8, .inl (fun _ => 0))) (N' := 8) hx hb (hts (.arrayClass .boolean) (by decide +kernel)) rfl hK hP hD hS hA (vpz 8) (by decide) (by decide) (hb_z _ (by decide)) (Nat.le_of_ble_eq_true rfl) (Nat.le_of_ble_eq_true rfl) dX2_init_28 (fun q3 cZ H hK hP hD hS => ?_)
  have hP : va_P D vwCl [(b, .inr (2, [.ref q1, .ref q2, .int 0, .int (-1), .int 0, .int 0, .null, .null, .null, .null, .null, .null, .null, .null])), (q1, .inl (cI, 66, .inl (fun _ => 0))), (q2, .inl (cI, 66, .inl (fun _ => 0))), (q3, .inl (cZ, 8, .inl (fun _ => 0)))] H := hP
  have hD : va_D A [(b, .inr (2, [.ref q1, .ref q2, .int 0, .int (-1), .int 0, .int 0, .null, .null, .null, .null, .null, .null, .null, .null])), (q1, .inl (cI, 66, .inl (fun _ => 0))), (q2, .inl (cI, 66, .inl (fun _ => 0))), (q3, .inl (cZ, 8, .inl (fun _ => 0)))] := hD
  have hK : va_K D vwCl [(cI, .int), (cZ, .boolean)] s := hK
  refine W.widen (k := 3) (n := 140) (Nat.le_of_ble_eq_true rfl) (Nat.le_of_ble_eq_true rfl) ?_
  refine va_putF (D := D) (ci := 2) (v := .ref q3) (ty := .array .boolean) (C := RX2) (T := TX2) (N := 14) hx hb hts hiF tyX2 tyX2_ok nmX2 hown hK hP hD hS 0 rfl rfl 6 (by decide) (hts (.fieldLink RX2 20 "TunerBenchModel" "isSet" "[Z") (by decide +kernel)) (fun _ h9 => h9) rfl hin rfl (by decide +kernel) rfl rfl (Nat.le_of_ble_eq_true rfl) dX2_init_30 (fun H locs hP hD hS => ?_)
  have hP : va_P D vwCl [(b, .inr (2, [.ref q1, .ref q2, .int 0, .int (-1), .int 0, .int 0, .ref q3, .null, .null, .null, .null, .null, .null, .null])), (q1, .inl (cI, 66, .inl (fun _ => 0))), (q2, .inl (cI, 66, .inl (fun _ => 0))), (q3, .inl (cZ, 8, .inl (fun _ => 0)))] H := hP
  have hD : va_D A [(b, .inr (2, [.ref q1, .ref q2, .int 0, .int (-1), .int 0, .int 0, .ref q3, .null, .null, .null, .null, .null, .null, .null])), (q1, .inl (cI, 66, .inl (fun _ => 0))), (q2, .inl (cI, 66, .inl (fun _ => 0))), (q3, .inl (cZ, 8, .inl (fun _ => 0)))] := hD
  refine lv_aload_n hx hb dX2_init_33 rfl (lv_at hl 0 rfl) ?_
  refine lv_bipush (v := 8) hx hb dX2_init_34 (by decide) ?_
  refine va_newa (D := D) (atype := .int) (ty := .int) (a0 := (8, .inl (fun _ => 0))) (N' := 8) hx hb (hts (.arrayClass .int) (by decide +kernel)) rfl hK hP hD hS hA (vpz 8) (by decide) (by decide) (hb_i _ (by decide)) (Nat.le_of_ble_eq_true rfl) (Nat.le_of_ble_eq_true rfl) dX2_init_36 (fun q4 c9 H hK hP hD hS => ?_)
  obtain rfl : cI = c9 := Option.some.inj ((hK.2 0 (cI, .int) rfl).2.symm.trans (hK.2 2 (c9, .int) rfl).2)
  have hK := hK.sub (tys' := [(cI, .int), (cZ, .boolean)]) [0, 1] rfl
  have hP : va_P D vwCl [(b, .inr (2, [.ref q1, .ref q2, .int 0, .int (-1), .int 0, .int 0, .ref q3, .null, .null, .null, .null, .null, .null, .null])), (q1, .inl (cI, 66, .inl (fun _ => 0))), (q2, .inl (cI, 66, .inl (fun _ => 0))), (q3, .inl (cZ, 8, .inl (fun _ => 0))), (q4, .inl (cI, 8, .inl (fun _ => 0)))] H := hP
  have hD : va_D A [(b, .inr (2, [.ref q1, .ref q2, .int 0, .int (-1), .int 0, .int 0, .ref q3, .null, .null, .null, .null, .null, .null, .null])), (q1, .inl (cI, 66, .inl (fun _ => 0))), (q2, .inl (cI, 66, .inl (fun _ => 0))), (q3, .inl (cZ, 8, .inl (fun _ => 0))), (q4, .inl (cI, 8, .inl (fun _ => 0)))] := hD
  have hK : va_K D vwCl [(cI, .int), (cZ, .boolean)] s := hK
  refine W.widen (k := 4) (n := 148) (Nat.le_of_ble_eq_true rfl) (Nat.le_of_ble_eq_true rfl) ?_
  refine va_putF (D := D) (ci := 2) (v := .ref q4) (ty := .array .int) (C := RX2) (T := TX2) (N := 14) hx hb hts hiF tyX2 tyX2_ok nmX2 hown hK hP hD hS 0 rfl rfl 7 (by decide) (hts (.fieldLink RX2 24 "TunerBenchModel" "what" "[I") (by decide +kernel)) (fun _ h9 => h9) rfl hin rfl (by decide +kernel) rfl rfl (Nat.le_of_ble_eq_true rfl) dX2_init_38 (fun H locs hP hD hS => ?_)
  have hP : va_P D vwCl [(b, .inr (2, [.ref q1, .ref q2, .int 0, .int (-1), .int 0, .int 0, .ref q3, .ref q4, .null, .null, .null, .null, .null, .null])), (q1, .inl (cI, 66, .inl (fun _ => 0))), (q2, .inl (cI, 66, .inl (fun _ => 0))), (q3, .inl (cZ, 8, .inl (fun _ => 0))), (q4, .inl (cI, 8, .inl (fun _ => 0)))] H := hP
  have hD : va_D A [(b, .inr (2, [.ref q1, .ref q2, .int 0, .int (-1), .int 0, .int 0, .ref q3, .ref q4, .null, .null, .null, .null, .null, .null])), (q1, .inl (cI, 66, .inl (fun _ => 0))), (q2, .inl (cI, 66, .inl (fun _ => 0))), (q3, .inl (cZ, 8, .inl (fun _ => 0))), (q4, .inl (cI, 8, .inl (fun _ => 0)))] := hD
  refine lv_aload_n hx hb dX2_init_41 rfl (lv_at hl 0 rfl) ?_
  refine lv_bipush (v := 8) hx hb dX2_init_42 (by decide) ?_
  refine va_newa (D := D) (atype := .int) (ty := .int) (a0 := (8, .inl (fun _ => 0))) (N' := 8) hx hb (hts (.arrayClass .int) (by decide +kernel)) rfl hK hP hD hS hA (vpz 8) (by decide) (by decide) (hb_i _ (by decide)) (Nat.le_of_ble_eq_true rfl) (Nat.le_of_ble_eq_true rfl) dX2_init_44 (fun q5 c9 H hK hP hD hS => ?_)
  obtain rfl : cI = c9 := Option.some.inj ((hK.2 0 (cI, .int) rfl).2.symm.trans (hK.2 2 (c9, .int) rfl).2)
  have hK := hK.sub (tys' := [(cI, .int), (cZ, .boolean)]) [0, 1] rfl
  have hP : va_P D vwCl [(b, .inr (2, [.ref q1, .ref q2, .int 0, .int (-1), .int 0, .int 0, .ref q3, .ref q4, .null, .null, .null, .null, .null, .null])), (q1, .inl (cI, 66, .inl (fun _ => 0))), (q2, .inl (cI, 66, .inl (fun _ => 0))), (q3, .inl (cZ, 8, .inl (fun _ => 0))), (q4, .inl (cI, 8, .inl (fun _ => 0))), (q5, .inl (cI, 8, .inl (fun _ => 0)))] H := hP
  have hD : va_D A [(b, .inr (2, [.ref q1, .ref q2, .int 0, .int (-1), .int 0, .int 0, .ref q3, .ref q4, .null, .null, .null, .null, .null, .null])), (q1, .inl (cI, 66, .inl (fun _ => 0))), (q2, .inl (cI, 66, .inl (fun _ => 0))), (q3, .inl (cZ, 8, .inl (fun _ => 0))), (q4, .inl (cI, 8, .inl (fun _ => 0))), (q5, .inl (cI, 8, .inl (fun _ => 0)))] := hD
  have hK : va_K D vwCl [(cI, .int), (cZ, .boolean)] s := hK
  refine W.widen (k := 5) (n := 156) (Nat.le_of_ble_eq_true rfl) (Nat.le_of_ble_eq_true rfl) ?_
  refine va_putF (D := D) (ci := 2) (v := .ref q5) (ty := .array .int) (C := RX2) (T := TX2) (N := 14) hx hb hts hiF tyX2 tyX2_ok nmX2 hown hK hP hD hS 0 rfl rfl 8 (by decide) (hts (.fieldLink RX2 27 "TunerBenchModel" "how" "[I") (by decide +kernel)) (fun _ h9 => h9) rfl hin rfl (by decide +kernel) rfl rfl (Nat.le_of_ble_eq_true rfl) dX2_init_46 (fun H locs hP hD hS => ?_)
  have hP : va_P D vwCl [(b, .inr (2, [.ref q1, .ref q2, .int 0, .int (-1), .int 0, .int 0, .ref q3, .ref q4, .ref q5, .null, .null, .null, .null, .null])), (q1, .inl (cI, 66, .inl (fun _ => 0))), (q2, .inl (cI, 66, .inl (fun _ => 0))), (q3, .inl (cZ, 8, .inl (fun _ => 0))), (q4, .inl (cI, 8, .inl (fun _ => 0))), (q5, .inl (cI, 8, .inl (fun _ => 0)))] H := hP
  have hD : va_D A [(b, .inr (2, [.ref q1, .ref q2, .int 0, .int (-1), .int 0, .int 0, .ref q3, .ref q4, .ref q5, .null, .null, .null, .null, .null])), (q1, .inl (cI, 66, .inl (fun _ => 0))), (q2, .inl (cI, 66, .inl (fun _ => 0))), (q3, .inl (cZ, 8, .inl (fun _ => 0))), (q4, .inl (cI, 8, .inl (fun _ => 0))), (q5, .inl (cI, 8, .inl (fun _ => 0)))] := hD
  refine lv_aload_n hx hb dX2_init_49 rfl (lv_at hl 0 rfl) ?_
  refine lv_bipush (v := 8) hx hb dX2_init_50 (by decide) ?_
  refine va_newa (D := D) (atype := .int) (ty := .int) (a0 := (8, .inl (fun _ => 0))) (N' := 8) hx hb (hts (.arrayClass .int) (by decide +kernel)) rfl hK hP hD hS hA (vpz 8) (by decide) (by decide) (hb_i _ (by decide)) (Nat.le_of_ble_eq_true rfl) (Nat.le_of_ble_eq_true rfl) dX2_init_52 (fun q6 c9 H hK hP hD hS => ?_)
  obtain rfl : cI = c9 := Option.some.inj ((hK.2 0 (cI, .int) rfl).2.symm.trans (hK.2 2 (c9, .int) rfl).2)
  have hK := hK.sub (tys' := [(cI, .int), (cZ, .boolean)]) [0, 1] rfl
  have hP : va_P D vwCl [(b, .inr (2, [.ref q1, .ref q2, .int 0, .int (-1), .int 0, .int 0, .ref q3, .ref q4, .ref q5, .null, .null, .null, .null, .null])), (q1, .inl (cI, 66, .inl (fun _ => 0))), (q2, .inl (cI, 66, .inl (fun _ => 0))), (q3, .inl (cZ, 8, .inl (fun _ => 0))), (q4, .inl (cI, 8, .inl (fun _ => 0))), (q5, .inl (cI, 8, .inl (fun _ => 0))), (q6, .inl (cI, 8, .inl (fun _ => 0)))] H := hP
  have hD : va_D A [(b, .inr (2, [.ref q1, .ref q2, .int 0, .int (-1), .int 0, .int 0, .ref q3, .ref q4, .ref q5, .null, .null, .null, .null, .null])), (q1, .inl (cI, 66, .inl (fun _ => 0))), (q2, .inl (cI, 66, .inl (fun _ => 0))), (q3, .inl (cZ, 8, .inl (fun _ => 0))), (q4, .inl (cI, 8, .inl (fun _ => 0))), (q5, .inl (cI, 8, .inl (fun _ => 0))), (q6, .inl (cI, 8, .inl (fun _ => 0)))] := hD
  have hK : va_K D vwCl [(cI, .int), (cZ, .boolean)] s := hK
  refine W.widen (k := 6) (n := 164) (Nat.le_of_ble_eq_true rfl) (Nat.le_of_ble_eq_true rfl) ?_
  refine va_putF (D := D) (ci := 2) (v := .ref q6) (ty := .array .int) (C := RX2) (T := TX2) (N := 14) hx hb hts hiF tyX2 tyX2_ok nmX2 hown hK hP hD hS 0 rfl rfl 9 (by decide) (hts (.fieldLink RX2 30 "TunerBenchModel" "mode" "[I") (by decide +kernel)) (fun _ h9 => h9) rfl hin rfl (by decide +kernel) rfl rfl (Nat.le_of_ble_eq_true rfl) dX2_init_54 (fun H locs hP hD hS => ?_)
  have hP : va_P D vwCl [(b, .inr (2, [.ref q1, .ref q2, .int 0, .int (-1), .int 0, .int 0, .ref q3, .ref q4, .ref q5, .ref q6, .null, .null, .null, .null])), (q1, .inl (cI, 66, .inl (fun _ => 0))), (q2, .inl (cI, 66, .inl (fun _ => 0))), (q3, .inl (cZ, 8, .inl (fun _ => 0))), (q4, .inl (cI, 8, .inl (fun _ => 0))), (q5, .inl (cI, 8, .inl (fun _ => 0))), (q6, .inl (cI, 8, .inl (fun _ => 0)))] H := hP
  have hD : va_D A [(b, .inr (2, [.ref q1, .ref q2, .int 0, .int (-1), .int 0, .int 0, .ref q3, .ref q4, .ref q5, .ref q6, .null, .null, .null, .null])), (q1, .inl (cI, 66, .inl (fun _ => 0))), (q2, .inl (cI, 66, .inl (fun _ => 0))), (q3, .inl (cZ, 8, .inl (fun _ => 0))), (q4, .inl (cI, 8, .inl (fun _ => 0))), (q5, .inl (cI, 8, .inl (fun _ => 0))), (q6, .inl (cI, 8, .inl (fun _ => 0)))] := hD
  refine lv_aload_n hx hb dX2_init_57 rfl (lv_at hl 0 rfl) ?_
  refine lv_bipush (v := 8) hx hb dX2_init_58 (by decide) ?_
  refine va_newa (D := D) (atype := .int) (ty := .int) (a0 := (8, .inl (fun _ => 0))) (N' := 8) hx hb (hts (.arrayClass .int) (by decide +kernel)) rfl hK hP hD hS hA (vpz 8) (by decide) (by decide) (hb_i _ (by decide)) (Nat.le_of_ble_eq_true rfl) (Nat.le_of_ble_eq_true rfl) dX2_init_60 (fun q7 c9 H hK hP hD hS => ?_)
  obtain rfl : cI = c9 := Option.some.inj ((hK.2 0 (cI, .int) rfl).2.symm.trans (hK.2 2 (c9, .int) rfl).2)
  have hK := hK.sub (tys' := [(cI, .int), (cZ, .boolean)]) [0, 1] rfl
  have hP : va_P D vwCl [(b, .inr (2, [.ref q1, .ref q2, .int 0, .int (-1), .int 0, .int 0, .ref q3, .ref q4, .ref q5, .ref q6, .null, .null, .null, .null])), (q1, .inl (cI, 66, .inl (fun _ => 0))), (q2, .inl (cI, 66, .inl (fun _ => 0))), (q3, .inl (cZ, 8, .inl (fun _ => 0))), (q4, .inl (cI, 8, .inl (fun _ => 0))), (q5, .inl (cI, 8, .inl (fun _ => 0))), (q6, .inl (cI, 8, .inl (fun _ => 0))), (q7, .inl (cI, 8, .inl (fun _ => 0)))] H := hP
  have hD : va_D A [(b, .inr (2, [.ref q1, .ref q2, .int 0, .int (-1), .int 0, .int 0, .ref q3, .ref q4, .ref q5, .ref q6, .null, .null, .null, .null])), (q1, .inl (cI, 66, .inl (fun _ => 0))), (q2, .inl (cI, 66, .inl (fun _ => 0))), (q3, .inl (cZ, 8, .inl (fun _ => 0))), (q4, .inl (cI, 8, .inl (fun _ => 0))), (q5, .inl (cI, 8, .inl (fun _ => 0))), (q6, .inl (cI, 8, .inl (fun _ => 0))), (q7, .inl (cI, 8, .inl (fun _ => 0)))] := hD
  have hK : va_K D vwCl [(cI, .int), (cZ, .boolean)] s := hK
  refine W.widen (k := 7) (n := 172) (Nat.le_of_ble_eq_true rfl) (Nat.le_of_ble_eq_true rfl) ?_
  refine va_putF (D := D) (ci := 2) (v := .ref q7) (ty := .array .int) (C := RX2) (T := TX2) (N := 14) hx hb hts hiF tyX2 tyX2_ok nmX2 hown hK hP hD hS 0 rfl rfl 10 (by decide) (hts (.fieldLink RX2 33 "TunerBenchModel" "keptSort" "[I") (by decide +kernel)) (fun _ h9 => h9) rfl hin rfl (by decide +kernel) rfl rfl (Nat.le_of_ble_eq_true rfl) dX2_init_62 (fun H locs hP hD hS => ?_)
  have hP : va_P D vwCl [(b, .inr (2, [.ref q1, .ref q2, .int 0, .int (-1), .int 0, .int 0, .ref q3, .ref q4, .ref q5, .ref q6, .ref q7, .null, .null, .null])), (q1, .inl (cI, 66, .inl (fun _ => 0))), (q2, .inl (cI, 66, .inl (fun _ => 0))), (q3, .inl (cZ, 8, .inl (fun _ => 0))), (q4, .inl (cI, 8, .inl (fun _ => 0))), (q5, .inl (cI, 8, .inl (fun _ => 0))), (q6, .inl (cI, 8, .inl (fun _ => 0))), (q7, .inl (cI, 8, .inl (fun _ => 0)))] H := hP
  have hD : va_D A [(b, .inr (2, [.ref q1, .ref q2, .int 0, .int (-1), .int 0, .int 0, .ref q3, .ref q4, .ref q5, .ref q6, .ref q7, .null, .null, .null])), (q1, .inl (cI, 66, .inl (fun _ => 0))), (q2, .inl (cI, 66, .inl (fun _ => 0))), (q3, .inl (cZ, 8, .inl (fun _ => 0))), (q4, .inl (cI, 8, .inl (fun _ => 0))), (q5, .inl (cI, 8, .inl (fun _ => 0))), (q6, .inl (cI, 8, .inl (fun _ => 0))), (q7, .inl (cI, 8, .inl (fun _ => 0)))] := hD
  refine lv_aload_n hx hb dX2_init_65 rfl (lv_at hl 0 rfl) ?_
  refine lv_bipush (v := 8) hx hb dX2_init_66 (by decide) ?_
  refine va_newa (D := D) (atype := .int) (ty := .int) (a0 := (8, .inl (fun _ => 0))) (N' := 8) hx hb (hts (.arrayClass .int) (by decide +kernel)) rfl hK hP hD hS hA (vpz 8) (by decide) (by decide) (hb_i _ (by decide)) (Nat.le_of_ble_eq_true rfl) (Nat.le_of_ble_eq_true rfl) dX2_init_68 (fun q8 c9 H hK hP hD hS => ?_)
  obtain rfl : cI = c9 := Option.some.inj ((hK.2 0 (cI, .int) rfl).2.symm.trans (hK.2 2 (c9, .int) rfl).2)
  have hK := hK.sub (tys' := [(cI, .int), (cZ, .boolean)]) [0, 1] rfl
  have hP : va_P D vwCl [(b, .inr (2, [.ref q1, .ref q2, .int 0, .int (-1), .int 0, .int 0, .ref q3, .ref q4, .ref q5, .ref q6, .ref q7, .null, .null, .null])), (q1, .inl (cI, 66, .inl (fun _ => 0))), (q2, .inl (cI, 66, .inl (fun _ => 0))), (q3, .inl (cZ, 8, .inl (fun _ => 0))), (q4, .inl (cI, 8, .inl (fun _ => 0))), (q5, .inl (cI, 8, .inl (fun _ => 0))), (q6, .inl (cI, 8, .inl (fun _ => 0))), (q7, .inl (cI, 8, .inl (fun _ => 0))), (q8, .inl (cI, 8, .inl (fun _ => 0)))] H := hP
  have hD : va_D A [(b, .inr (2, [.ref q1, .ref q2, .int 0, .int (-1), .int 0, .int 0, .ref q3, .ref q4, .ref q5, .ref q6, .ref q7, .null, .null, .null])), (q1, .inl (cI, 66, .inl (fun _ => 0))), (q2, .inl (cI, 66, .inl (fun _ => 0))), (q3, .inl (cZ, 8, .inl (fun _ => 0))), (q4, .inl (cI, 8, .inl (fun _ => 0))), (q5, .inl (cI, 8, .inl (fun _ => 0))), (q6, .inl (cI, 8, .inl (fun _ => 0))), (q7, .inl (cI, 8, .inl (fun _ => 0))), (q8, .inl (cI, 8, .inl (fun _ => 0)))] := hD
  have hK : va_K D vwCl [(cI, .int), (cZ, .boolean)] s := hK
  refine W.widen (k := 8) (n := 180) (Nat.le_of_ble_eq_true rfl) (Nat.le_of_ble_eq_true rfl) ?_
  refine va_putF (D := D) (ci := 2) (v := .ref q8) (ty := .array .int) (C := RX2) (T := TX2) (N := 14) hx hb hts hiF tyX2 tyX2_ok nmX2 hown hK hP hD hS 0 rfl rfl 11 (by decide) (hts (.fieldLink RX2 36 "TunerBenchModel" "keptQuarters" "[I") (by decide +kernel)) (fun _ h9 => h9) rfl hin rfl (by decide +kernel) rfl rfl (Nat.le_of_ble_eq_true rfl) dX2_init_70 (fun H locs hP hD hS => ?_)
  have hP : va_P D vwCl [(b, .inr (2, [.ref q1, .ref q2, .int 0, .int (-1), .int 0, .int 0, .ref q3, .ref q4, .ref q5, .ref q6, .ref q7, .ref q8, .null, .null])), (q1, .inl (cI, 66, .inl (fun _ => 0))), (q2, .inl (cI, 66, .inl (fun _ => 0))), (q3, .inl (cZ, 8, .inl (fun _ => 0))), (q4, .inl (cI, 8, .inl (fun _ => 0))), (q5, .inl (cI, 8, .inl (fun _ => 0))), (q6, .inl (cI, 8, .inl (fun _ => 0))), (q7, .inl (cI, 8, .inl (fun _ => 0))), (q8, .inl (cI, 8, .inl (fun _ => 0)))] H := hP
  have hD : va_D A [(b, .inr (2, [.ref q1, .ref q2, .int 0, .int (-1), .int 0, .int 0, .ref q3, .ref q4, .ref q5, .ref q6, .ref q7, .ref q8, .null, .null])), (q1, .inl (cI, 66, .inl (fun _ => 0))), (q2, .inl (cI, 66, .inl (fun _ => 0))), (q3, .inl (cZ, 8, .inl (fun _ => 0))), (q4, .inl (cI, 8, .inl (fun _ => 0))), (q5, .inl (cI, 8, .inl (fun _ => 0))), (q6, .inl (cI, 8, .inl (fun _ => 0))), (q7, .inl (cI, 8, .inl (fun _ => 0))), (q8, .inl (cI, 8, .inl (fun _ => 0)))] := hD
  refine lv_aload_n hx hb dX2_init_73 rfl (lv_at hl 0 rfl) ?_
  refine lv_bipush (v := 8) hx hb dX2_init_74 (by decide) ?_
  refine va_newa (D := D) (atype := .boolean) (ty := .boolean) (a0 := (8, .inl (fun _ => 0))) (N' := 8) hx hb (hts (.arrayClass .boolean) (by decide +kernel)) rfl hK hP hD hS hA (vpz 8) (by decide) (by decide) (hb_z _ (by decide)) (Nat.le_of_ble_eq_true rfl) (Nat.le_of_ble_eq_true rfl) dX2_init_76 (fun q9 c9 H hK hP hD hS => ?_)
  obtain rfl : cZ = c9 := Option.some.inj ((hK.2 1 (cZ, .boolean) rfl).2.symm.trans (hK.2 2 (c9, .boolean) rfl).2)
  have hK := hK.sub (tys' := [(cI, .int), (cZ, .boolean)]) [0, 1] rfl
  have hP : va_P D vwCl [(b, .inr (2, [.ref q1, .ref q2, .int 0, .int (-1), .int 0, .int 0, .ref q3, .ref q4, .ref q5, .ref q6, .ref q7, .ref q8, .null, .null])), (q1, .inl (cI, 66, .inl (fun _ => 0))), (q2, .inl (cI, 66, .inl (fun _ => 0))), (q3, .inl (cZ, 8, .inl (fun _ => 0))), (q4, .inl (cI, 8, .inl (fun _ => 0))), (q5, .inl (cI, 8, .inl (fun _ => 0))), (q6, .inl (cI, 8, .inl (fun _ => 0))), (q7, .inl (cI, 8, .inl (fun _ => 0))), (q8, .inl (cI, 8, .inl (fun _ => 0))), (q9, .inl (cZ, 8, .inl (fun _ => 0)))] H := hP
  have hD : va_D A [(b, .inr (2, [.ref q1, .ref q2, .int 0, .int (-1), .int 0, .int 0, .ref q3, .ref q4, .ref q5, .ref q6, .ref q7, .ref q8, .null, .null])), (q1, .inl (cI, 66, .inl (fun _ => 0))), (q2, .inl (cI, 66, .inl (fun _ => 0))), (q3, .inl (cZ, 8, .inl (fun _ => 0))), (q4, .inl (cI, 8, .inl (fun _ => 0))), (q5, .inl (cI, 8, .inl (fun _ => 0))), (q6, .inl (cI, 8, .inl (fun _ => 0))), (q7, .inl (cI, 8, .inl (fun _ => 0))), (q8, .inl (cI, 8, .inl (fun _ => 0))), (q9, .inl (cZ, 8, .inl (fun _ => 0)))] := hD
  have hK : va_K D vwCl [(cI, .int), (cZ, .boolean)] s := hK
  refine W.widen (k := 9) (n := 188) (Nat.le_of_ble_eq_true rfl) (Nat.le_of_ble_eq_true rfl) ?_
  refine va_putF (D := D) (ci := 2) (v := .ref q9) (ty := .array .boolean) (C := RX2) (T := TX2) (N := 14) hx hb hts hiF tyX2 tyX2_ok nmX2 hown hK hP hD hS 0 rfl rfl 12 (by decide) (hts (.fieldLink RX2 39 "TunerBenchModel" "did" "[Z") (by decide +kernel)) (fun _ h9 => h9) rfl hin rfl (by decide +kernel) rfl rfl (Nat.le_of_ble_eq_true rfl) dX2_init_78 (fun H locs hP hD hS => ?_)
  have hP : va_P D vwCl [(b, .inr (2, [.ref q1, .ref q2, .int 0, .int (-1), .int 0, .int 0, .ref q3, .ref q4, .ref q5, .ref q6, .ref q7, .ref q8, .ref q9, .null])), (q1, .inl (cI, 66, .inl (fun _ => 0))), (q2, .inl (cI, 66, .inl (fun _ => 0))), (q3, .inl (cZ, 8, .inl (fun _ => 0))), (q4, .inl (cI, 8, .inl (fun _ => 0))), (q5, .inl (cI, 8, .inl (fun _ => 0))), (q6, .inl (cI, 8, .inl (fun _ => 0))), (q7, .inl (cI, 8, .inl (fun _ => 0))), (q8, .inl (cI, 8, .inl (fun _ => 0))), (q9, .inl (cZ, 8, .inl (fun _ => 0)))] H := hP
  have hD : va_D A [(b, .inr (2, [.ref q1, .ref q2, .int 0, .int (-1), .int 0, .int 0, .ref q3, .ref q4, .ref q5, .ref q6, .ref q7, .ref q8, .ref q9, .null])), (q1, .inl (cI, 66, .inl (fun _ => 0))), (q2, .inl (cI, 66, .inl (fun _ => 0))), (q3, .inl (cZ, 8, .inl (fun _ => 0))), (q4, .inl (cI, 8, .inl (fun _ => 0))), (q5, .inl (cI, 8, .inl (fun _ => 0))), (q6, .inl (cI, 8, .inl (fun _ => 0))), (q7, .inl (cI, 8, .inl (fun _ => 0))), (q8, .inl (cI, 8, .inl (fun _ => 0))), (q9, .inl (cZ, 8, .inl (fun _ => 0)))] := hD
  refine lv_aload_n hx hb dX2_init_81 rfl (lv_at hl 0 rfl) ?_
  refine lv_bipush (v := 8) hx hb dX2_init_82 (by decide) ?_
  refine va_newa (D := D) (atype := .int) (ty := .int) (a0 := (8, .inl (fun _ => 0))) (N' := 8) hx hb (hts (.arrayClass .int) (by decide +kernel)) rfl hK hP hD hS hA (vpz 8) (by decide) (by decide) (hb_i _ (by decide)) (Nat.le_of_ble_eq_true rfl) (Nat.le_of_ble_eq_true rfl) dX2_init_84 (fun q10 c9 H hK hP hD hS => ?_)
  obtain rfl : cI = c9 := Option.some.inj ((hK.2 0 (cI, .int) rfl).2.symm.trans (hK.2 2 (c9, .int) rfl).2)
  have hK := hK.sub (tys' := [(cI, .int), (cZ, .boolean)]) [0, 1] rfl
  have hP : va_P D vwCl [(b, .inr (2, [.ref q1, .ref q2, .int 0, .int (-1), .int 0, .int 0, .ref q3, .ref q4, .ref q5, .ref q6, .ref q7, .ref q8, .ref q9, .null])), (q1, .inl (cI, 66, .inl (fun _ => 0))), (q2, .inl (cI, 66, .inl (fun _ => 0))), (q3, .inl (cZ, 8, .inl (fun _ => 0))), (q4, .inl (cI, 8, .inl (fun _ => 0))), (q5, .inl (cI, 8, .inl (fun _ => 0))), (q6, .inl (cI, 8, .inl (fun _ => 0))), (q7, .inl (cI, 8, .inl (fun _ => 0))), (q8, .inl (cI, 8, .inl (fun _ => 0))), (q9, .inl (cZ, 8, .inl (fun _ => 0))), (q10, .inl (cI, 8, .inl (fun _ => 0)))] H := hP
  have hD : va_D A [(b, .inr (2, [.ref q1, .ref q2, .int 0, .int (-1), .int 0, .int 0, .ref q3, .ref q4, .ref q5, .ref q6, .ref q7, .ref q8, .ref q9, .null])), (q1, .inl (cI, 66, .inl (fun _ => 0))), (q2, .inl (cI, 66, .inl (fun _ => 0))), (q3, .inl (cZ, 8, .inl (fun _ => 0))), (q4, .inl (cI, 8, .inl (fun _ => 0))), (q5, .inl (cI, 8, .inl (fun _ => 0))), (q6, .inl (cI, 8, .inl (fun _ => 0))), (q7, .inl (cI, 8, .inl (fun _ => 0))), (q8, .inl (cI, 8, .inl (fun _ => 0))), (q9, .inl (cZ, 8, .inl (fun _ => 0))), (q10, .inl (cI, 8, .inl (fun _ => 0)))] := hD
  have hK : va_K D vwCl [(cI, .int), (cZ, .boolean)] s := hK
  refine W.widen (k := 10) (n := 196) (Nat.le_of_ble_eq_true rfl) (Nat.le_of_ble_eq_true rfl) ?_
  refine va_putF (D := D) (ci := 2) (v := .ref q10) (ty := .array .int) (C := RX2) (T := TX2) (N := 14) hx hb hts hiF tyX2 tyX2_ok nmX2 hown hK hP hD hS 0 rfl rfl 13 (by decide) (hts (.fieldLink RX2 42 "TunerBenchModel" "rings" "[I") (by decide +kernel)) (fun _ h9 => h9) rfl hin rfl (by decide +kernel) rfl rfl (Nat.le_of_ble_eq_true rfl) dX2_init_86 (fun H locs hP hD hS => ?_)
  have hP : va_P D vwCl [(b, .inr (2, [.ref q1, .ref q2, .int 0, .int (-1), .int 0, .int 0, .ref q3, .ref q4, .ref q5, .ref q6, .ref q7, .ref q8, .ref q9, .ref q10])), (q1, .inl (cI, 66, .inl (fun _ => 0))), (q2, .inl (cI, 66, .inl (fun _ => 0))), (q3, .inl (cZ, 8, .inl (fun _ => 0))), (q4, .inl (cI, 8, .inl (fun _ => 0))), (q5, .inl (cI, 8, .inl (fun _ => 0))), (q6, .inl (cI, 8, .inl (fun _ => 0))), (q7, .inl (cI, 8, .inl (fun _ => 0))), (q8, .inl (cI, 8, .inl (fun _ => 0))), (q9, .inl (cZ, 8, .inl (fun _ => 0))), (q10, .inl (cI, 8, .inl (fun _ => 0)))] H := hP
  have hD : va_D A [(b, .inr (2, [.ref q1, .ref q2, .int 0, .int (-1), .int 0, .int 0, .ref q3, .ref q4, .ref q5, .ref q6, .ref q7, .ref q8, .ref q9, .ref q10])), (q1, .inl (cI, 66, .inl (fun _ => 0))), (q2, .inl (cI, 66, .inl (fun _ => 0))), (q3, .inl (cZ, 8, .inl (fun _ => 0))), (q4, .inl (cI, 8, .inl (fun _ => 0))), (q5, .inl (cI, 8, .inl (fun _ => 0))), (q6, .inl (cI, 8, .inl (fun _ => 0))), (q7, .inl (cI, 8, .inl (fun _ => 0))), (q8, .inl (cI, 8, .inl (fun _ => 0))), (q9, .inl (cZ, 8, .inl (fun _ => 0))), (q10, .inl (cI, 8, .inl (fun _ => 0)))] := hD
  refine lv_iconst (v := 0) hx hb dX2_init_89 (by decide) ?_
  refine lv_istore_n (lv' := [(1, .int 0), (0, .ref b)]) hx hb dX2_init_90 rfl hl (by decide) rfl (fun ls hl => ?_)
  have loop : ∀ (n k : Nat), k + n = 66 → ∀ (H : Heap) (locs : List Loc), va_P D vwCl [(b, .inr (2, [.ref q1, .ref q2, .int 0, .int (-1), .int 0, .int 0, .ref q3, .ref q4, .ref q5, .ref q6, .ref q7, .ref q8, .ref q9, .ref q10])), (q1, .inl (cI, 66, .inl (flF (fun _ => 0) 1 k))), (q2, .inl (cI, 66, .inl (fun _ => 0))), (q3, .inl (cZ, 8, .inl (fun _ => 0))), (q4, .inl (cI, 8, .inl (fun _ => 0))), (q5, .inl (cI, 8, .inl (fun _ => 0))), (q6, .inl (cI, 8, .inl (fun _ => 0))), (q7, .inl (cI, 8, .inl (fun _ => 0))), (q8, .inl (cI, 8, .inl (fun _ => 0))), (q9, .inl (cZ, 8, .inl (fun _ => 0))), (q10, .inl (cI, 8, .inl (fun _ => 0)))] H → va_D A [(b, .inr (2, [.ref q1, .ref q2, .int 0, .int (-1), .int 0, .int 0, .ref q3, .ref q4, .ref q5, .ref q6, .ref q7, .ref q8, .ref q9, .ref q10])), (q1, .inl (cI, 66, .inl (flF (fun _ => 0) 1 k))), (q2, .inl (cI, 66, .inl (fun _ => 0))), (q3, .inl (cZ, 8, .inl (fun _ => 0))), (q4, .inl (cI, 8, .inl (fun _ => 0))), (q5, .inl (cI, 8, .inl (fun _ => 0))), (q6, .inl (cI, 8, .inl (fun _ => 0))), (q7, .inl (cI, 8, .inl (fun _ => 0))), (q8, .inl (cI, 8, .inl (fun _ => 0))), (q9, .inl (cZ, 8, .inl (fun _ => 0))), (q10, .inl (cI, 8, .inl (fun _ => 0)))] → va_S A s.heap H locs → ∀ ls : Array Slot, lv_has ls 2 [(1, .int (nI k)), (0, .ref b)] → W p l e ({ frames := 1, cells := 10, slots := 196, locals := 12 }) s m ([.ref b] : List Value).toArray below meth c H locs 10 196 (MQ below (xQv (S := (Nat → Nat) × ClassId × ClassId) D vwCl (fun u => u.1 0 = b) (fun u => mb u.1 u.2.1 u.2.2 (fun _ _ => 40003) (fun _ => none) 0 (-1) 0 0) (fun u => mT u.2.1 u.2.2) A) ([.ref b] : List Value).toArray s 10 196 A) (F0 m 91 ls []) := by
    intro n
    induction n with
    | zero =>
      intro k hk H locs hP hD hS ls hl
      obtain rfl : k = 66 := by omega
      refine lv_iload_n hx hb dX2_init_91 rfl (lv_at hl 0 rfl) ?_
      refine lv_aload_n hx hb dX2_init_92 rfl (lv_at hl 1 rfl) ?_
      refine va_get (D := D) (ci := 2) (v := .ref q1) (C := RX2) (T := TX2) (N := 14) hx hb hts hiF hown hK hP 0 rfl rfl 0 (by decide) (hts (.fieldLink RX2 7 "TunerBenchModel" "sorts" "[I") (by decide +kernel)) (fun _ h9 => h9) rfl dX2_init_93 ?_
      refine va_alen (D := D) hx hb hK hP 1 0 rfl rfl (v := 66) rfl dX2_init_96 ?_
      refine lv_icmp_ge (tgt := 113) hx hb dX2_init_97 (by decide) (fun c_1 => ?_) (fun c_1 => absurd (by decide) c_1)
      have hP : va_P D vwCl (mb (fun i => if i = 0 then b else if i = 1 then q1 else if i = 2 then q2 else if i = 3 then q3 else if i = 4 then q4 else if i = 5 then q5 else if i = 6 then q6 else if i = 7 then q7 else if i = 8 then q8 else if i = 9 then q9 else q10) cI cZ (fun _ _ => 40003) (fun _ => none) 0 (-1) 0 0) H := fun k x hk => by
        match k, hk with
        | 0, hk => cases hk; exact hP 0 _ rfl
        | 1, hk => cases hk; exact va_ci (fun j hj => by rw [mso_1]; simp [flF, hj]) (hP 1 _ rfl)
        | 2, hk => cases hk; exact va_ci (fun j hj => (mqu_0 j).symm) (hP 2 _ rfl)
        | 3, hk => cases hk; exact va_ci (fun j hj => (mis_0 j).symm) (hP 3 _ rfl)
        | 4, hk => cases hk; exact va_ci (fun j hj => (gse_0 _ j).symm) (hP 4 _ rfl)
        | 5, hk => cases hk; exact va_ci (fun j hj => (gse_0 _ j).symm) (hP 5 _ rfl)
        | 6, hk => cases hk; exact va_ci (fun j hj => (gse_0 _ j).symm) (hP 6 _ rfl)
        | 7, hk => cases hk; exact va_ci (fun j hj => (gse_0 _ j).symm) (hP 7 _ rfl)
        | 8, hk => cases hk; exact va_ci (fun j hj => (gse_0 _ j).symm) (hP 8 _ rfl)
        | 9, hk => cases hk; exact va_ci (fun j hj => (gse_0 _ j).symm) (hP 9 _ rfl)
        | 10, hk => cases hk; exact va_ci (fun j hj => (gse_0 _ j).symm) (hP 10 _ rfl)
        | k + 11, hk => simp at hk
      have hD : va_D A (mb (fun i => if i = 0 then b else if i = 1 then q1 else if i = 2 then q2 else if i = 3 then q3 else if i = 4 then q4 else if i = 5 then q5 else if i = 6 then q6 else if i = 7 then q7 else if i = 8 then q8 else if i = 9 then q9 else q10) cI cZ (fun _ _ => 40003) (fun _ => none) 0 (-1) 0 0) := xd_ad hD rfl
      exact xw_v (S := (Nat → Nat) × ClassId × ClassId) ((fun i => if i = 0 then b else if i = 1 then q1 else if i = 2 then q2 else if i = 3 then q3 else if i = 4 then q4 else if i = 5 then q5 else if i = 6 then q6 else if i = 7 then q7 else if i = 8 then q8 else if i = 9 then q9 else q10), cI, cZ) hx hb hr hlk dX2_init_113 hP hK hD hS rfl
    | succ n ih =>
      intro k hk H locs hP hD hS ls hl
      refine lv_iload_n hx hb dX2_init_91 rfl (lv_at hl 0 rfl) ?_
      refine lv_aload_n hx hb dX2_init_92 rfl (lv_at hl 1 rfl) ?_
      refine va_get (D := D) (ci := 2) (v := .ref q1) (C := RX2) (T := TX2) (N := 14) hx hb hts hiF hown hK hP 0 rfl rfl 0 (by decide) (hts (.fieldLink RX2 7 "TunerBenchModel" "sorts" "[I") (by decide +kernel)) (fun _ h9 => h9) rfl dX2_init_93 ?_
      refine va_alen (D := D) hx hb hK hP 1 0 rfl rfl (v := 66) rfl dX2_init_96 ?_
      refine lv_icmp_ge (tgt := 113) hx hb dX2_init_97 (by decide) (fun c_2 => absurd c_2 (nI_ge (show k < 66 by omega) (by decide))) (fun c_2 => ?_)
      refine lv_aload_n hx hb dX2_init_100 rfl (lv_at hl 1 rfl) ?_
      refine va_get (D := D) (ci := 2) (v := .ref q1) (C := RX2) (T := TX2) (N := 14) hx hb hts hiF hown hK hP 0 rfl rfl 0 (by decide) (hts (.fieldLink RX2 7 "TunerBenchModel" "sorts" "[I") (by decide +kernel)) (fun _ h9 => h9) rfl dX2_init_101 ?_
      refine lv_iload_n hx hb dX2_init_104 rfl (lv_at hl 0 rfl) ?_
      refine lv_iconst (v := 1) hx hb dX2_init_105 (by decide) ?_
      refine va_iast (D := D) hx hb hK hP hD hS 1 0 rfl rfl (vp_in_nI (show k < 66 by omega) (by decide)) dX2_init_106 (fun H locs hP hD hS => ?_)
      rw [nI_clamp (show k < 2 ^ 31 by omega)] at hP hD
      have hP : va_P D vwCl [(b, .inr (2, [.ref q1, .ref q2, .int 0, .int (-1), .int 0, .int 0, .ref q3, .ref q4, .ref q5, .ref q6, .ref q7, .ref q8, .ref q9, .ref q10])), (q1, .inl (cI, 66, .inl (flF (fun _ => 0) 1 (k + 1)))), (q2, .inl (cI, 66, .inl (fun _ => 0))), (q3, .inl (cZ, 8, .inl (fun _ => 0))), (q4, .inl (cI, 8, .inl (fun _ => 0))), (q5, .inl (cI, 8, .inl (fun _ => 0))), (q6, .inl (cI, 8, .inl (fun _ => 0))), (q7, .inl (cI, 8, .inl (fun _ => 0))), (q8, .inl (cI, 8, .inl (fun _ => 0))), (q9, .inl (cZ, 8, .inl (fun _ => 0))), (q10, .inl (cI, 8, .inl (fun _ => 0)))] H := by rw [← flF_up]; exact hP
      have hD : va_D A [(b, .inr (2, [.ref q1, .ref q2, .int 0, .int (-1), .int 0, .int 0, .ref q3, .ref q4, .ref q5, .ref q6, .ref q7, .ref q8, .ref q9, .ref q10])), (q1, .inl (cI, 66, .inl (flF (fun _ => 0) 1 (k + 1)))), (q2, .inl (cI, 66, .inl (fun _ => 0))), (q3, .inl (cZ, 8, .inl (fun _ => 0))), (q4, .inl (cI, 8, .inl (fun _ => 0))), (q5, .inl (cI, 8, .inl (fun _ => 0))), (q6, .inl (cI, 8, .inl (fun _ => 0))), (q7, .inl (cI, 8, .inl (fun _ => 0))), (q8, .inl (cI, 8, .inl (fun _ => 0))), (q9, .inl (cZ, 8, .inl (fun _ => 0))), (q10, .inl (cI, 8, .inl (fun _ => 0)))] := by rw [← flF_up]; exact hD
      refine lv_iinc (v := nI (k + 1)) (lv' := [(1, .int (nI (k + 1))), (0, .ref b)]) hx hb dX2_init_107 hl (k := 0) rfl (nI_1 k) (by decide) rfl (fun ls hl => ?_)
      refine lv_goto (tgt := 91) hx hb dX2_init_110 (by decide) ?_
      exact ih (k + 1) (by omega) H locs hP hD hS ls (lv_sub hl [0, 1] rfl)
  exact loop 66 0 (by omega) _ _ (by rw [flF_0]; exact hP) (by rw [flF_0]; exact hD) hS ls (lv_sub hl [0, 1] rfl)
