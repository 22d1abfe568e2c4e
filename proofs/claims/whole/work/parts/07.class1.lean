/-! the class: methods over its values -/
theorem isQ_h {w h : Int32} (q : isQb w h = true) : isHb h = true := by simp [isQb] at q; exact q.2
set_option maxHeartbeats 4000000 in
set_option maxRecDepth 100000 in
theorem c_X1_stands (l : Launch) (D : va_G) (a : Nat → Nat) (cV cI cG : ClassId) (v : Nat → Nat → Int32) (gg : Nat → Option Nat) (dn lt ch : Int32) (w h x y : Int32) (hw : vp_in w 2) (hx1 : vp_in x 33) (hy1 : vp_in y 33) : Met l yX1_stands wsX1_stands ({ frames := 2, cells := 0, slots := 0, locals := 44 }) (xR D vwCl (cb a cV cI cG v gg dn lt ch) (cT cV cI cG) xB0 [.ref (a 0), .int w, .int h, .int x, .int y]) (QcRead (b2i (sdF v w h x y))) 0 0 (fun _ => False) := by
  refine xr_in (cc := cX1_stands) (maxL := 5) (ret := (some .boolean)) (by decide) rfl (Nat.le_of_ble_eq_true rfl) ?_
  intro p e s m below meth c ls hx hb hr hml hts hown hlk hP hK hB hl
  have hown : s.vm.findClass RX1 = some m.cls := hown
  have hl : lv_has ls 5 [(0, .ref (a 0)), (1, .int w), (2, .int h), (3, .int x), (4, .int y)] := hl
  have hiF : ∀ w ∈ wsX10, w ∈ wsX1_stands := by decide +kernel
  refine lv_iload_n hx hb dX1_stands_0 rfl (lv_at hl 2 rfl) ?_
  refine lv_aload_n hx hb dX1_stands_1 rfl (lv_at hl 0 rfl) ?_
  refine va_get (D := D) (ci := 1) (v := .ref (a 1)) (C := RX1) (T := TX1) (N := 5) hx hb hts hiF hown hK hP 0 rfl rfl 0 (by decide) (hts (.fieldLink RX1 11 "TunerBench" "values" "[[I") (by decide +kernel)) (fun _ h9 => h9) rfl dX1_stands_2 ?_
  refine lv_iload_n hx hb dX1_stands_5 rfl (lv_at hl 1 rfl) ?_
  refine xa_ald (D := D) hx hb hK hP 1 0 rfl rfl hw dX1_stands_6 ?_
  refine lv_iload_n hx hb dX1_stands_7 rfl (lv_at hl 3 rfl) ?_
  refine va_iald (D := D) hx hb hK hP (2 + cn w) 1 (cb_row (vp_lt hw)) rfl hx1 dX1_stands_8 ?_
  refine lv_aload_n hx hb dX1_stands_9 rfl (lv_at hl 0 rfl) ?_
  refine va_get (D := D) (ci := 1) (v := .ref (a 1)) (C := RX1) (T := TX1) (N := 5) hx hb hts hiF hown hK hP 0 rfl rfl 0 (by decide) (hts (.fieldLink RX1 11 "TunerBench" "values" "[[I") (by decide +kernel)) (fun _ h9 => h9) rfl dX1_stands_10 ?_
  refine lv_iload_n hx hb dX1_stands_13 rfl (lv_at hl 1 rfl) ?_
  refine xa_ald (D := D) hx hb hK hP 1 0 rfl rfl hw dX1_stands_14 ?_
  refine lv_iload hx hb dX1_stands_15 (lv_at hl 4 rfl) ?_
  refine va_iald (D := D) hx hb hK hP (2 + cn w) 1 (cb_row (vp_lt hw)) rfl hy1 dX1_stands_17 ?_
  refine xc_T (As := [.int h, .int (v (cn w) (cn x)), .int (v (cn w) (cn y))]) (rest := []) ⟨hx, hb, hml, hown, hts⟩ (c_X1_valueStands l h (v (cn w) (cn x)) (v (cn w) (cn y))) (va_cwS 3 hts gX1_stands_X1_valueStands rfl rfl rfl (by decide +kernel) ⟨Nat.le_of_ble_eq_true rfl, Nat.le_of_ble_eq_true rfl⟩) rfl hl.1 rfl (Nat.le_of_ble_eq_true rfl) dX1_stands_18 ⟨Nat.zero_le _, Nat.zero_le _⟩ ?_
  exact xr_z hx hb hr hlk dX1_stands_21 (b2i_nar _) rfl
set_option maxHeartbeats 4000000 in
set_option maxRecDepth 100000 in
theorem c_X1_sort (l : Launch) (D : va_G) (a : Nat → Nat) (cV cI cG : ClassId) (v : Nat → Nat → Int32) (gg : Nat → Option Nat) (dn lt ch : Int32) (w x : Int32) : Met l yX1_sort wsX1_sort ({ frames := 2, cells := 0, slots := 0, locals := 40 }) (xR D vwCl (cb a cV cI cG v gg dn lt ch) (cT cV cI cG) xB0 [.ref (a 0), .int w, .int x]) (QcRead (aSort v w x)) 0 0 (fun _ => False) := by
  refine xr_in (cc := cX1_sort) (maxL := 3) (ret := (some .int)) (by decide) rfl (Nat.le_of_ble_eq_true rfl) ?_
  intro p e s m below meth c ls hx hb hr hml hts hown hlk hP hK hB hl
  have hown : s.vm.findClass RX1 = some m.cls := hown
  have hl : lv_has ls 3 [(0, .ref (a 0)), (1, .int w), (2, .int x)] := hl
  have hiF : ∀ w ∈ wsX10, w ∈ wsX1_sort := by decide +kernel
  refine lv_iload_n hx hb dX1_sort_0 rfl (lv_at hl 1 rfl) ?_
  refine xc_T (As := [.int w]) (rest := []) ⟨hx, hb, hml, hown, hts⟩ (c_X1_isWhat l w) (va_cwS 1 hts gX1_sort_X1_isWhat rfl rfl rfl (by decide +kernel) ⟨Nat.le_of_ble_eq_true rfl, Nat.le_of_ble_eq_true rfl⟩) rfl hl.1 rfl (Nat.le_of_ble_eq_true rfl) dX1_sort_1 ⟨Nat.zero_le _, Nat.zero_le _⟩ ?_
  refine lv_if_eq (tgt := 14) hx hb dX1_sort_4 (by decide) (fun c_1 => ?_) (fun c_1 => ?_)
  · have c_1 := b2i_e c_1
    refine lv_iconst (v := -1) hx hb dX1_sort_14 (by decide) ?_
    exact xr_i hx hb hr hlk dX1_sort_15 (by simp [aSort, c_1])
  · have c_1 := b2i_n c_1
    refine lv_iload_n hx hb dX1_sort_7 rfl (lv_at hl 2 rfl) ?_
    refine xc_T (As := [.int x]) (rest := []) ⟨hx, hb, hml, hown, hts⟩ (c_X1_isStringOrFork l x) (va_cwS 1 hts gX1_sort_X1_isStringOrFork rfl rfl rfl (by decide +kernel) ⟨Nat.le_of_ble_eq_true rfl, Nat.le_of_ble_eq_true rfl⟩) rfl hl.1 rfl (Nat.le_of_ble_eq_true rfl) dX1_sort_8 ⟨Nat.zero_le _, Nat.zero_le _⟩ ?_
    refine lv_if_ne (tgt := 16) hx hb dX1_sort_11 (by decide) (fun c_2 => ?_) (fun c_2 => ?_)
    · have c_2 := b2i_n c_2
      refine lv_aload_n hx hb dX1_sort_16 rfl (lv_at hl 0 rfl) ?_
      refine va_get (D := D) (ci := 1) (v := .ref (a 1)) (C := RX1) (T := TX1) (N := 5) hx hb hts hiF hown hK hP 0 rfl rfl 0 (by decide) (hts (.fieldLink RX1 11 "TunerBench" "values" "[[I") (by decide +kernel)) (fun _ h9 => h9) rfl dX1_sort_17 ?_
      refine lv_iload_n hx hb dX1_sort_20 rfl (lv_at hl 1 rfl) ?_
      refine xa_ald (D := D) hx hb hK hP 1 0 rfl rfl (isW_in c_1) dX1_sort_21 ?_
      refine lv_iload_n hx hb dX1_sort_22 rfl (lv_at hl 2 rfl) ?_
      refine va_iald (D := D) hx hb hK hP (2 + cn w) 1 (cb_row (vp_lt (isW_in c_1))) rfl (isF_in c_2) dX1_sort_23 ?_
      refine xc_T (As := [.int (v (cn w) (cn x))]) (rest := []) ⟨hx, hb, hml, hown, hts⟩ (c_X1_sortOf l (v (cn w) (cn x))) (va_cwS 1 hts gX1_sort_X1_sortOf rfl rfl rfl (by decide +kernel) ⟨Nat.le_of_ble_eq_true rfl, Nat.le_of_ble_eq_true rfl⟩) rfl hl.1 rfl (Nat.le_of_ble_eq_true rfl) dX1_sort_24 ⟨Nat.zero_le _, Nat.zero_le _⟩ ?_
      exact xr_i hx hb hr hlk dX1_sort_27 (by simp [aSort, c_1, c_2])
    · have c_2 := b2i_e c_2
      refine lv_iconst (v := -1) hx hb dX1_sort_14 (by decide) ?_
      exact xr_i hx hb hr hlk dX1_sort_15 (by simp [aSort, c_1, c_2])
set_option maxHeartbeats 4000000 in
set_option maxRecDepth 100000 in
theorem c_X1_quarters (l : Launch) (D : va_G) (a : Nat → Nat) (cV cI cG : ClassId) (v : Nat → Nat → Int32) (gg : Nat → Option Nat) (dn lt ch : Int32) (w x : Int32) : Met l yX1_quarters wsX1_quarters ({ frames := 2, cells := 0, slots := 0, locals := 40 }) (xR D vwCl (cb a cV cI cG v gg dn lt ch) (cT cV cI cG) xB0 [.ref (a 0), .int w, .int x]) (QcRead (aQuar v w x)) 0 0 (fun _ => False) := by
  refine xr_in (cc := cX1_quarters) (maxL := 4) (ret := (some .int)) (by decide) rfl (Nat.le_of_ble_eq_true rfl) ?_
  intro p e s m below meth c ls hx hb hr hml hts hown hlk hP hK hB hl
  have hown : s.vm.findClass RX1 = some m.cls := hown
  have hl : lv_has ls 4 [(0, .ref (a 0)), (1, .int w), (2, .int x)] := hl
  have hiF : ∀ w ∈ wsX10, w ∈ wsX1_quarters := by decide +kernel
  refine lv_iload_n hx hb dX1_quarters_0 rfl (lv_at hl 1 rfl) ?_
  refine xc_T (As := [.int w]) (rest := []) ⟨hx, hb, hml, hown, hts⟩ (c_X1_isWhat l w) (va_cwS 1 hts gX1_quarters_X1_isWhat rfl rfl rfl (by decide +kernel) ⟨Nat.le_of_ble_eq_true rfl, Nat.le_of_ble_eq_true rfl⟩) rfl hl.1 rfl (Nat.le_of_ble_eq_true rfl) dX1_quarters_1 ⟨Nat.zero_le _, Nat.zero_le _⟩ ?_
  refine lv_if_eq (tgt := 14) hx hb dX1_quarters_4 (by decide) (fun c_1 => ?_) (fun c_1 => ?_)
  · have c_1 := b2i_e c_1
    refine lv_iconst (v := 0) hx hb dX1_quarters_14 (by decide) ?_
    exact xr_i hx hb hr hlk dX1_quarters_15 (by simp [aQuar, qrtF, c_1])
  · have c_1 := b2i_n c_1
    refine lv_iload_n hx hb dX1_quarters_7 rfl (lv_at hl 2 rfl) ?_
    refine xc_T (As := [.int x]) (rest := []) ⟨hx, hb, hml, hown, hts⟩ (c_X1_isStringOrFork l x) (va_cwS 1 hts gX1_quarters_X1_isStringOrFork rfl rfl rfl (by decide +kernel) ⟨Nat.le_of_ble_eq_true rfl, Nat.le_of_ble_eq_true rfl⟩) rfl hl.1 rfl (Nat.le_of_ble_eq_true rfl) dX1_quarters_8 ⟨Nat.zero_le _, Nat.zero_le _⟩ ?_
    refine lv_if_ne (tgt := 16) hx hb dX1_quarters_11 (by decide) (fun c_2 => ?_) (fun c_2 => ?_)
    · have c_2 := b2i_n c_2
      refine lv_aload_n hx hb dX1_quarters_16 rfl (lv_at hl 0 rfl) ?_
      refine va_get (D := D) (ci := 1) (v := .ref (a 1)) (C := RX1) (T := TX1) (N := 5) hx hb hts hiF hown hK hP 0 rfl rfl 0 (by decide) (hts (.fieldLink RX1 11 "TunerBench" "values" "[[I") (by decide +kernel)) (fun _ h9 => h9) rfl dX1_quarters_17 ?_
      refine lv_iload_n hx hb dX1_quarters_20 rfl (lv_at hl 1 rfl) ?_
      refine xa_ald (D := D) hx hb hK hP 1 0 rfl rfl (isW_in c_1) dX1_quarters_21 ?_
      refine lv_iload_n hx hb dX1_quarters_22 rfl (lv_at hl 2 rfl) ?_
      refine va_iald (D := D) hx hb hK hP (2 + cn w) 1 (cb_row (vp_lt (isW_in c_1))) rfl (isF_in c_2) dX1_quarters_23 ?_
      refine lv_istore_n (lv' := [(3, .int (v (cn w) (cn x))), (0, .ref (a 0)), (1, .int w), (2, .int x)]) hx hb dX1_quarters_24 rfl hl (by decide) rfl (fun ls hl => ?_)
      refine lv_iload_n hx hb dX1_quarters_25 rfl (lv_at hl 0 rfl) ?_
      refine xc_T (As := [.int (v (cn w) (cn x))]) (rest := []) ⟨hx, hb, hml, hown, hts⟩ (c_X1_sortOf l (v (cn w) (cn x))) (va_cwS 1 hts gX1_quarters_X1_sortOf rfl rfl rfl (by decide +kernel) ⟨Nat.le_of_ble_eq_true rfl, Nat.le_of_ble_eq_true rfl⟩) rfl hl.1 rfl (Nat.le_of_ble_eq_true rfl) dX1_quarters_26 ⟨Nat.zero_le _, Nat.zero_le _⟩ ?_
      refine lv_if_ne (tgt := 36) hx hb dX1_quarters_29 (by decide) (fun c_3 => ?_) (fun c_3 => ?_)
      · refine lv_iconst (v := 0) hx hb dX1_quarters_36 (by decide) ?_
        exact xr_i hx hb hr hlk dX1_quarters_37 (by simp [aQuar, qrtF, c_1, c_2, c_3])
      · refine lv_iload_n hx hb dX1_quarters_32 rfl (lv_at hl 0 rfl) ?_
        refine lv_goto (tgt := 37) hx hb dX1_quarters_33 (by decide) ?_
        exact xr_i hx hb hr hlk dX1_quarters_37 (by simp [aQuar, qrtF, c_1, c_2, c_3])
    · have c_2 := b2i_e c_2
      refine lv_iconst (v := 0) hx hb dX1_quarters_14 (by decide) ?_
      exact xr_i hx hb hr hlk dX1_quarters_15 (by simp [aQuar, qrtF, c_1, c_2])
set_option maxHeartbeats 4000000 in
set_option maxRecDepth 100000 in
theorem c_X1_pick (l : Launch) (D : va_G) (a : Nat → Nat) (cV cI cG : ClassId) (v : Nat → Nat → Int32) (gg : Nat → Option Nat) (dn lt ch : Int32) (w h x y : Int32) : Met l yX1_pick wsX1_pick ({ frames := 3, cells := 0, slots := 0, locals := 68 }) (xR D vwCl (cb a cV cI cG v gg dn lt ch) (cT cV cI cG) xB0 [.ref (a 0), .int w, .int h, .int x, .int y]) (QcRead (aPick v w h x y)) 0 0 (fun _ => False) := by
  refine xr_in (cc := cX1_pick) (maxL := 5) (ret := (some .int)) (by decide) rfl (Nat.le_of_ble_eq_true rfl) ?_
  intro p e s m below meth c ls hx hb hr hml hts hown hlk hP hK hB hl
  have hown : s.vm.findClass RX1 = some m.cls := hown
  have hl : lv_has ls 5 [(0, .ref (a 0)), (1, .int w), (2, .int h), (3, .int x), (4, .int y)] := hl
  have hiF : ∀ w ∈ wsX10, w ∈ wsX1_pick := by decide +kernel
  refine lv_iload_n hx hb dX1_pick_0 rfl (lv_at hl 1 rfl) ?_
  refine lv_iload_n hx hb dX1_pick_1 rfl (lv_at hl 2 rfl) ?_
  refine xc_T (As := [.int w, .int h]) (rest := []) ⟨hx, hb, hml, hown, hts⟩ (c_X1_isQuestion l w h) (va_cwS 2 hts gX1_pick_X1_isQuestion rfl rfl rfl (by decide +kernel) ⟨Nat.le_of_ble_eq_true rfl, Nat.le_of_ble_eq_true rfl⟩) rfl hl.1 rfl (Nat.le_of_ble_eq_true rfl) dX1_pick_2 ⟨Nat.zero_le _, Nat.zero_le _⟩ ?_
  refine lv_if_eq (tgt := 23) hx hb dX1_pick_5 (by decide) (fun c_1 => ?_) (fun c_1 => ?_)
  · have c_1 := b2i_e c_1
    refine lv_iconst (v := -1) hx hb dX1_pick_23 (by decide) ?_
    exact xr_i hx hb hr hlk dX1_pick_24 (by simp [aPick, qB, c_1])
  · have c_1 := b2i_n c_1
    refine lv_iload_n hx hb dX1_pick_8 rfl (lv_at hl 3 rfl) ?_
    refine xc_T (As := [.int x]) (rest := []) ⟨hx, hb, hml, hown, hts⟩ (c_X1_isStringOrFork l x) (va_cwS 1 hts gX1_pick_X1_isStringOrFork rfl rfl rfl (by decide +kernel) ⟨Nat.le_of_ble_eq_true rfl, Nat.le_of_ble_eq_true rfl⟩) rfl hl.1 rfl (Nat.le_of_ble_eq_true rfl) dX1_pick_9 ⟨Nat.zero_le _, Nat.zero_le _⟩ ?_
    refine lv_if_eq (tgt := 23) hx hb dX1_pick_12 (by decide) (fun c_2 => ?_) (fun c_2 => ?_)
    · have c_2 := b2i_e c_2
      refine lv_iconst (v := -1) hx hb dX1_pick_23 (by decide) ?_
      exact xr_i hx hb hr hlk dX1_pick_24 (by simp [aPick, qB, c_1, c_2])
    · have c_2 := b2i_n c_2
      refine lv_iload hx hb dX1_pick_15 (lv_at hl 4 rfl) ?_
      refine xc_T (As := [.int y]) (rest := []) ⟨hx, hb, hml, hown, hts⟩ (c_X1_isStringOrFork l y) (va_cwS 1 hts gX1_pick_X1_isStringOrFork rfl rfl rfl (by decide +kernel) ⟨Nat.le_of_ble_eq_true rfl, Nat.le_of_ble_eq_true rfl⟩) rfl hl.1 rfl (Nat.le_of_ble_eq_true rfl) dX1_pick_17 ⟨Nat.zero_le _, Nat.zero_le _⟩ ?_
      refine lv_if_ne (tgt := 25) hx hb dX1_pick_20 (by decide) (fun c_3 => ?_) (fun c_3 => ?_)
      · have c_3 := b2i_n c_3
        refine lv_aload_n hx hb dX1_pick_25 rfl (lv_at hl 0 rfl) ?_
        refine lv_iload_n hx hb dX1_pick_26 rfl (lv_at hl 1 rfl) ?_
        refine lv_iload_n hx hb dX1_pick_27 rfl (lv_at hl 2 rfl) ?_
        refine lv_iload_n hx hb dX1_pick_28 rfl (lv_at hl 3 rfl) ?_
        refine lv_iload hx hb dX1_pick_29 (lv_at hl 4 rfl) ?_
        refine xc_R (As := [.int w, .int h, .int x, .int y]) (rest := []) ⟨hx, hb, hml, hown, hts⟩ (c_X1_stands l D a cV cI cG v gg dn lt ch w h x y (isQ_w c_1) (isF_in c_2) (isF_in c_3)) (cwV 4 hts gX1_pick_X1_stands rfl rfl rfl (by decide +kernel) ⟨Nat.le_of_ble_eq_true rfl, Nat.le_of_ble_eq_true rfl⟩) xMv0 trivial hP hK (va_recv hK hP (ci := 1) (q0 := 0) rfl rfl) rfl hl.1 rfl (Nat.le_of_ble_eq_true rfl) dX1_pick_31 ⟨Nat.zero_le _, Nat.zero_le _⟩ ?_
        refine lv_if_eq (tgt := 41) hx hb dX1_pick_34 (by decide) (fun c_4 => ?_) (fun c_4 => ?_)
        · have c_4 := b2i_e c_4
          refine lv_iload hx hb dX1_pick_41 (lv_at hl 4 rfl) ?_
          exact xr_i hx hb hr hlk dX1_pick_43 (by simp [aPick, qB, c_1, c_2, c_3, c_4])
        · have c_4 := b2i_n c_4
          refine lv_iload_n hx hb dX1_pick_37 rfl (lv_at hl 3 rfl) ?_
          refine lv_goto (tgt := 43) hx hb dX1_pick_38 (by decide) ?_
          exact xr_i hx hb hr hlk dX1_pick_43 (by simp [aPick, qB, c_1, c_2, c_3, c_4])
      · have c_3 := b2i_e c_3
        refine lv_iconst (v := -1) hx hb dX1_pick_23 (by decide) ?_
        exact xr_i hx hb hr hlk dX1_pick_24 (by simp [aPick, qB, c_1, c_2, c_3])
set_option maxHeartbeats 4000000 in
set_option maxRecDepth 100000 in
theorem c_X1_put (l : Launch) (D : va_G) (a : Nat → Nat) (cV cI cG : ClassId) (v : Nat → Nat → Int32) (gg : Nat → Option Nat) (dn lt ch : Int32) (sz : Nat) (w x so q : Int32) : Met l yX1_put wsX1_put ({ frames := 2, cells := 0, slots := 0, locals := 40 }) (xW D vwCl (cb a cV cI cG v gg dn lt ch) (cT cV cI cG) xB0 sz [.ref (a 0), .int w, .int x, .int so, .int q]) (xQ (S := Unit) D vwCl (fun r _ => r = b2i (aPut w x so q)) (fun _ => cb a cV cI cG (nPut v w x so q) gg dn lt ch) (fun _ => cT cV cI cG) (va_A (cb a cV cI cG v gg dn lt ch) sz)) 0 0 (va_A (cb a cV cI cG v gg dn lt ch) sz) := by
  refine xw_in (Qf := xQ (S := Unit) D vwCl (fun r _ => r = b2i (aPut w x so q)) (fun _ => cb a cV cI cG (nPut v w x so q) gg dn lt ch) (fun _ => cT cV cI cG)) (cc := cX1_put) (maxL := 5) (ret := (some .boolean)) (by decide) rfl (Nat.le_of_ble_eq_true rfl) ?_
  intro p e s m below meth c ls A hx hb hr hml hts hown hlk hnm hA hP hK hD hS hB hl
  have hown : s.vm.findClass RX1 = some m.cls := hown
  have hl : lv_has ls 5 [(0, .ref (a 0)), (1, .int w), (2, .int x), (3, .int so), (4, .int q)] := hl
  have hiF : ∀ w ∈ wsX10, w ∈ wsX1_put := by decide +kernel
  refine lv_iload_n hx hb dX1_put_0 rfl (lv_at hl 1 rfl) ?_
  refine xc_T (As := [.int w]) (rest := []) ⟨hx, hb, hml, hown, hts⟩ (c_X1_isWhat l w) (va_cwS 1 hts gX1_put_X1_isWhat rfl rfl rfl (by decide +kernel) ⟨Nat.le_of_ble_eq_true rfl, Nat.le_of_ble_eq_true rfl⟩) rfl hl.1 rfl (Nat.le_of_ble_eq_true rfl) dX1_put_1 ⟨Nat.zero_le _, Nat.zero_le _⟩ ?_
  refine lv_if_eq (tgt := 23) hx hb dX1_put_4 (by decide) (fun c_1 => ?_) (fun c_1 => ?_)
  · have c_1 := b2i_e c_1
    refine lv_iconst (v := 0) hx hb dX1_put_23 (by decide) ?_
    have e_v : v = nPut v w x so q := by simp [nPut, aPut, c_1]
    rw [e_v] at hP hD
    exact xw_z (S := Unit) () hx hb hr hlk dX1_put_24 (by decide) hP hK hD hS (by simp [nPut, aPut, b2i, c_1])
  · have c_1 := b2i_n c_1
    refine lv_iload_n hx hb dX1_put_7 rfl (lv_at hl 2 rfl) ?_
    refine xc_T (As := [.int x]) (rest := []) ⟨hx, hb, hml, hown, hts⟩ (c_X1_isStringOrFork l x) (va_cwS 1 hts gX1_put_X1_isStringOrFork rfl rfl rfl (by decide +kernel) ⟨Nat.le_of_ble_eq_true rfl, Nat.le_of_ble_eq_true rfl⟩) rfl hl.1 rfl (Nat.le_of_ble_eq_true rfl) dX1_put_8 ⟨Nat.zero_le _, Nat.zero_le _⟩ ?_
    refine lv_if_eq (tgt := 23) hx hb dX1_put_11 (by decide) (fun c_2 => ?_) (fun c_2 => ?_)
    · have c_2 := b2i_e c_2
      refine lv_iconst (v := 0) hx hb dX1_put_23 (by decide) ?_
      have e_v : v = nPut v w x so q := by simp [nPut, aPut, c_1, c_2]
      rw [e_v] at hP hD
      exact xw_z (S := Unit) () hx hb hr hlk dX1_put_24 (by decide) hP hK hD hS (by simp [nPut, aPut, b2i, c_1, c_2])
    · have c_2 := b2i_n c_2
      refine lv_iload_n hx hb dX1_put_14 rfl (lv_at hl 3 rfl) ?_
      refine lv_iload hx hb dX1_put_15 (lv_at hl 4 rfl) ?_
      refine xc_T (As := [.int so, .int q]) (rest := []) ⟨hx, hb, hml, hown, hts⟩ (c_X1_isValue l so q) (va_cwS 2 hts gX1_put_X1_isValue rfl rfl rfl (by decide +kernel) ⟨Nat.le_of_ble_eq_true rfl, Nat.le_of_ble_eq_true rfl⟩) rfl hl.1 rfl (Nat.le_of_ble_eq_true rfl) dX1_put_17 ⟨Nat.zero_le _, Nat.zero_le _⟩ ?_
      refine lv_if_ne (tgt := 25) hx hb dX1_put_20 (by decide) (fun c_3 => ?_) (fun c_3 => ?_)
      · have c_3 := b2i_n c_3
        refine lv_aload_n hx hb dX1_put_25 rfl (lv_at hl 0 rfl) ?_
        refine va_get (D := D) (ci := 1) (v := .ref (a 1)) (C := RX1) (T := TX1) (N := 5) hx hb hts hiF hown hK hP 0 rfl rfl 0 (by decide) (hts (.fieldLink RX1 11 "TunerBench" "values" "[[I") (by decide +kernel)) (fun _ h9 => h9) rfl dX1_put_26 ?_
        refine lv_iload_n hx hb dX1_put_29 rfl (lv_at hl 1 rfl) ?_
        refine xa_ald (D := D) hx hb hK hP 1 0 rfl rfl (isW_in c_1) dX1_put_30 ?_
        refine lv_iload_n hx hb dX1_put_31 rfl (lv_at hl 2 rfl) ?_
        refine lv_iload_n hx hb dX1_put_32 rfl (lv_at hl 3 rfl) ?_
        refine lv_iload hx hb dX1_put_33 (lv_at hl 4 rfl) ?_
        refine xc_T (As := [.int so, .int q]) (rest := [.int x, .ref (a (2 + cn w))]) ⟨hx, hb, hml, hown, hts⟩ (c_X1_valueOf l so q) (va_cwS 2 hts gX1_put_X1_valueOf rfl rfl rfl (by decide +kernel) ⟨Nat.le_of_ble_eq_true rfl, Nat.le_of_ble_eq_true rfl⟩) rfl hl.1 rfl (Nat.le_of_ble_eq_true rfl) dX1_put_35 ⟨Nat.zero_le _, Nat.zero_le _⟩ ?_
        refine va_iast (D := D) hx hb hK hP hD hS (2 + cn w) 1 (cb_row (vp_lt (isW_in c_1))) rfl (isF_in c_2) dX1_put_38 (fun H locs hP hD hS => ?_)
        rw [cb_set (vp_lt (isW_in c_1))] at hP hD
        have hP : va_P D vwCl (cb a cV cI cG (up2 v (cn w) (cn x) (valF so q)) gg dn lt ch) H := hP
        have hD : va_D A (cb a cV cI cG (up2 v (cn w) (cn x) (valF so q)) gg dn lt ch) := hD
        refine lv_iconst (v := 1) hx hb dX1_put_39 (by decide) ?_
        have e_v : up2 v (cn w) (cn x) (valF so q) = nPut v w x so q := by simp [nPut, aPut, c_1, c_2, c_3]
        rw [e_v] at hP hD
        exact xw_z (S := Unit) () hx hb hr hlk dX1_put_40 (by decide) hP hK hD hS (by simp [nPut, aPut, b2i, c_1, c_2, c_3])
      · have c_3 := b2i_e c_3
        refine lv_iconst (v := 0) hx hb dX1_put_23 (by decide) ?_
        have e_v : v = nPut v w x so q := by simp [nPut, aPut, c_1, c_2, c_3]
        rw [e_v] at hP hD
        exact xw_z (S := Unit) () hx hb hr hlk dX1_put_24 (by decide) hP hK hD hS (by simp [nPut, aPut, b2i, c_1, c_2, c_3])
set_option maxHeartbeats 4000000 in
set_option maxRecDepth 100000 in
theorem c_X1_holds (l : Launch) (D : va_G) (a : Nat → Nat) (cV cI cG : ClassId) (v : Nat → Nat → Int32) (gg : Nat → Option Nat) (dn lt ch : Int32) (sz : Nat) (w h x y : Int32) : Met l yX1_holds wsX1_holds ({ frames := 3, cells := 0, slots := 0, locals := 68 }) (xW D vwCl (cb a cV cI cG v gg dn lt ch) (cT cV cI cG) xB0 sz [.ref (a 0), .int w, .int h, .int x, .int y]) (xQ (S := Unit) D vwCl (fun r _ => r = aHold v w h x y) (fun _ => cb a cV cI cG v gg dn (nHold v lt w h x y) ch) (fun _ => cT cV cI cG) (va_A (cb a cV cI cG v gg dn lt ch) sz)) 0 0 (va_A (cb a cV cI cG v gg dn lt ch) sz) := by
  refine xw_in (Qf := xQ (S := Unit) D vwCl (fun r _ => r = aHold v w h x y) (fun _ => cb a cV cI cG v gg dn (nHold v lt w h x y) ch) (fun _ => cT cV cI cG)) (cc := cX1_holds) (maxL := 5) (ret := (some .int)) (by decide) rfl (Nat.le_of_ble_eq_true rfl) ?_
  intro p e s m below meth c ls A hx hb hr hml hts hown hlk hnm hA hP hK hD hS hB hl
  have hown : s.vm.findClass RX1 = some m.cls := hown
  have hl : lv_has ls 5 [(0, .ref (a 0)), (1, .int w), (2, .int h), (3, .int x), (4, .int y)] := hl
  have hiF : ∀ w ∈ wsX10, w ∈ wsX1_holds := by decide +kernel
  refine lv_iload_n hx hb dX1_holds_0 rfl (lv_at hl 1 rfl) ?_
  refine lv_iload_n hx hb dX1_holds_1 rfl (lv_at hl 2 rfl) ?_
  refine xc_T (As := [.int w, .int h]) (rest := []) ⟨hx, hb, hml, hown, hts⟩ (c_X1_isQuestion l w h) (va_cwS 2 hts gX1_holds_X1_isQuestion rfl rfl rfl (by decide +kernel) ⟨Nat.le_of_ble_eq_true rfl, Nat.le_of_ble_eq_true rfl⟩) rfl hl.1 rfl (Nat.le_of_ble_eq_true rfl) dX1_holds_2 ⟨Nat.zero_le _, Nat.zero_le _⟩ ?_
  refine lv_if_eq (tgt := 23) hx hb dX1_holds_5 (by decide) (fun c_1 => ?_) (fun c_1 => ?_)
  · have c_1 := b2i_e c_1
    refine lv_iconst (v := -1) hx hb dX1_holds_23 (by decide) ?_
    have e_lt : lt = nHold v lt w h x y := by simp [aHold, nHold, qB, b2i, c_1]
    rw [e_lt] at hP hD
    exact xw_i (S := Unit) () hx hb hr hlk dX1_holds_24 hP hK hD hS (by simp [aHold, nHold, qB, b2i, b2i, c_1])
  · have c_1 := b2i_n c_1
    refine lv_iload_n hx hb dX1_holds_8 rfl (lv_at hl 3 rfl) ?_
    refine xc_T (As := [.int x]) (rest := []) ⟨hx, hb, hml, hown, hts⟩ (c_X1_isStringOrFork l x) (va_cwS 1 hts gX1_holds_X1_isStringOrFork rfl rfl rfl (by decide +kernel) ⟨Nat.le_of_ble_eq_true rfl, Nat.le_of_ble_eq_true rfl⟩) rfl hl.1 rfl (Nat.le_of_ble_eq_true rfl) dX1_holds_9 ⟨Nat.zero_le _, Nat.zero_le _⟩ ?_
    refine lv_if_eq (tgt := 23) hx hb dX1_holds_12 (by decide) (fun c_2 => ?_) (fun c_2 => ?_)
    · have c_2 := b2i_e c_2
      refine lv_iconst (v := -1) hx hb dX1_holds_23 (by decide) ?_
      have e_lt : lt = nHold v lt w h x y := by simp [aHold, nHold, qB, b2i, c_1, c_2]
      rw [e_lt] at hP hD
      exact xw_i (S := Unit) () hx hb hr hlk dX1_holds_24 hP hK hD hS (by simp [aHold, nHold, qB, b2i, b2i, c_1, c_2])
    · have c_2 := b2i_n c_2
      refine lv_iload hx hb dX1_holds_15 (lv_at hl 4 rfl) ?_
      refine xc_T (As := [.int y]) (rest := []) ⟨hx, hb, hml, hown, hts⟩ (c_X1_isStringOrFork l y) (va_cwS 1 hts gX1_holds_X1_isStringOrFork rfl rfl rfl (by decide +kernel) ⟨Nat.le_of_ble_eq_true rfl, Nat.le_of_ble_eq_true rfl⟩) rfl hl.1 rfl (Nat.le_of_ble_eq_true rfl) dX1_holds_17 ⟨Nat.zero_le _, Nat.zero_le _⟩ ?_
      refine lv_if_ne (tgt := 25) hx hb dX1_holds_20 (by decide) (fun c_3 => ?_) (fun c_3 => ?_)
      · have c_3 := b2i_n c_3
        refine lv_aload_n hx hb dX1_holds_25 rfl (lv_at hl 0 rfl) ?_
        refine lv_aload_n hx hb dX1_holds_26 rfl (lv_at hl 0 rfl) ?_
        refine lv_iload_n hx hb dX1_holds_27 rfl (lv_at hl 1 rfl) ?_
        refine lv_iload_n hx hb dX1_holds_28 rfl (lv_at hl 2 rfl) ?_
        refine lv_iload_n hx hb dX1_holds_29 rfl (lv_at hl 3 rfl) ?_
        refine lv_iload hx hb dX1_holds_30 (lv_at hl 4 rfl) ?_
        refine xc_R (As := [.int w, .int h, .int x, .int y]) (rest := [.ref (a 0)]) ⟨hx, hb, hml, hown, hts⟩ (c_X1_stands l D a cV cI cG v gg dn lt ch w h x y (isQ_w c_1) (isF_in c_2) (isF_in c_3)) (cwV 4 hts gX1_holds_X1_stands rfl rfl rfl (by decide +kernel) ⟨Nat.le_of_ble_eq_true rfl, Nat.le_of_ble_eq_true rfl⟩) xMv0 trivial hP hK (va_recv hK hP (ci := 1) (q0 := 0) rfl rfl) rfl hl.1 rfl (Nat.le_of_ble_eq_true rfl) dX1_holds_32 ⟨Nat.zero_le _, Nat.zero_le _⟩ ?_
        refine lv_if_eq (tgt := 42) hx hb dX1_holds_35 (by decide) (fun c_4 => ?_) (fun c_4 => ?_)
        · have c_4 := b2i_e c_4
          refine lv_iconst (v := 0) hx hb dX1_holds_42 (by decide) ?_
          refine va_put (D := D) (ci := 1) (v := .int 0) (ty := .int) (C := RX1) (T := TX1) (N := 5) hx hb hts hiF tyX1 tyX1_ok nmX1 hown hK hP hD hS 0 rfl rfl 3 (by decide) (hts (.fieldLink RX1 24 "TunerBench" "latestTruth" "I") (by decide +kernel)) (fun _ h9 => h9) rfl (by decide +kernel) rfl rfl (Nat.le_of_ble_eq_true rfl) dX1_holds_43 (fun H locs hP hD hS => ?_)
          have hP : va_P D vwCl (cb a cV cI cG v gg dn 0 ch) H := hP
          have hD : va_D A (cb a cV cI cG v gg dn 0 ch) := hD
          refine lv_aload_n hx hb dX1_holds_46 rfl (lv_at hl 0 rfl) ?_
          refine va_get (D := D) (ci := 1) (v := .int 0) (C := RX1) (T := TX1) (N := 5) hx hb hts hiF hown hK hP 0 rfl rfl 3 (by decide) (hts (.fieldLink RX1 24 "TunerBench" "latestTruth" "I") (by decide +kernel)) (fun _ h9 => h9) rfl dX1_holds_47 ?_
          have e_lt : 0 = nHold v lt w h x y := by simp [aHold, nHold, qB, b2i, c_1, c_2, c_3, c_4]
          rw [e_lt] at hP hD
          exact xw_i (S := Unit) () hx hb hr hlk dX1_holds_50 hP hK hD hS (by simp [aHold, nHold, qB, b2i, b2i, c_1, c_2, c_3, c_4])
        · have c_4 := b2i_n c_4
          refine lv_iconst (v := 1) hx hb dX1_holds_38 (by decide) ?_
          refine lv_goto (tgt := 43) hx hb dX1_holds_39 (by decide) ?_
          refine va_put (D := D) (ci := 1) (v := .int 1) (ty := .int) (C := RX1) (T := TX1) (N := 5) hx hb hts hiF tyX1 tyX1_ok nmX1 hown hK hP hD hS 0 rfl rfl 3 (by decide) (hts (.fieldLink RX1 24 "TunerBench" "latestTruth" "I") (by decide +kernel)) (fun _ h9 => h9) rfl (by decide +kernel) rfl rfl (Nat.le_of_ble_eq_true rfl) dX1_holds_43 (fun H locs hP hD hS => ?_)
          have hP : va_P D vwCl (cb a cV cI cG v gg dn 1 ch) H := hP
          have hD : va_D A (cb a cV cI cG v gg dn 1 ch) := hD
          refine lv_aload_n hx hb dX1_holds_46 rfl (lv_at hl 0 rfl) ?_
          refine va_get (D := D) (ci := 1) (v := .int 1) (C := RX1) (T := TX1) (N := 5) hx hb hts hiF hown hK hP 0 rfl rfl 3 (by decide) (hts (.fieldLink RX1 24 "TunerBench" "latestTruth" "I") (by decide +kernel)) (fun _ h9 => h9) rfl dX1_holds_47 ?_
          have e_lt : 1 = nHold v lt w h x y := by simp [aHold, nHold, qB, b2i, c_1, c_2, c_3, c_4]
          rw [e_lt] at hP hD
          exact xw_i (S := Unit) () hx hb hr hlk dX1_holds_50 hP hK hD hS (by simp [aHold, nHold, qB, b2i, b2i, c_1, c_2, c_3, c_4])
      · have c_3 := b2i_e c_3
        refine lv_iconst (v := -1) hx hb dX1_holds_23 (by decide) ?_
        have e_lt : lt = nHold v lt w h x y := by simp [aHold, nHold, qB, b2i, c_1, c_2, c_3]
        rw [e_lt] at hP hD
        exact xw_i (S := Unit) () hx hb hr hlk dX1_holds_24 hP hK hD hS (by simp [aHold, nHold, qB, b2i, b2i, c_1, c_2, c_3])
set_option maxHeartbeats 4000000 in
set_option maxRecDepth 100000 in
theorem c_X1_denies (l : Launch) (D : va_G) (a : Nat → Nat) (cV cI cG : ClassId) (v : Nat → Nat → Int32) (gg : Nat → Option Nat) (dn lt ch : Int32) (sz : Nat) (w h x y : Int32) : Met l yX1_denies wsX1_denies ({ frames := 3, cells := 0, slots := 0, locals := 68 }) (xW D vwCl (cb a cV cI cG v gg dn lt ch) (cT cV cI cG) xB0 sz [.ref (a 0), .int w, .int h, .int x, .int y]) (xQ (S := Unit) D vwCl (fun r _ => r = aDeny v w h x y) (fun _ => cb a cV cI cG v gg (nDeny v dn w h x y) lt ch) (fun _ => cT cV cI cG) (va_A (cb a cV cI cG v gg dn lt ch) sz)) 0 0 (va_A (cb a cV cI cG v gg dn lt ch) sz) := by
  refine xw_in (Qf := xQ (S := Unit) D vwCl (fun r _ => r = aDeny v w h x y) (fun _ => cb a cV cI cG v gg (nDeny v dn w h x y) lt ch) (fun _ => cT cV cI cG)) (cc := cX1_denies) (maxL := 5) (ret := (some .int)) (by decide) rfl (Nat.le_of_ble_eq_true rfl) ?_
  intro p e s m below meth c ls A hx hb hr hml hts hown hlk hnm hA hP hK hD hS hB hl
  have hown : s.vm.findClass RX1 = some m.cls := hown
  have hl : lv_has ls 5 [(0, .ref (a 0)), (1, .int w), (2, .int h), (3, .int x), (4, .int y)] := hl
  have hiF : ∀ w ∈ wsX10, w ∈ wsX1_denies := by decide +kernel
  refine lv_iload_n hx hb dX1_denies_0 rfl (lv_at hl 1 rfl) ?_
  refine lv_iload_n hx hb dX1_denies_1 rfl (lv_at hl 2 rfl) ?_
  refine xc_T (As := [.int w, .int h]) (rest := []) ⟨hx, hb, hml, hown, hts⟩ (c_X1_isQuestion l w h) (va_cwS 2 hts gX1_denies_X1_isQuestion rfl rfl rfl (by decide +kernel) ⟨Nat.le_of_ble_eq_true rfl, Nat.le_of_ble_eq_true rfl⟩) rfl hl.1 rfl (Nat.le_of_ble_eq_true rfl) dX1_denies_2 ⟨Nat.zero_le _, Nat.zero_le _⟩ ?_
  refine lv_if_eq (tgt := 23) hx hb dX1_denies_5 (by decide) (fun c_1 => ?_) (fun c_1 => ?_)
  · have c_1 := b2i_e c_1
    refine lv_iconst (v := -1) hx hb dX1_denies_23 (by decide) ?_
    have e_dn : dn = nDeny v dn w h x y := by simp [aDeny, nDeny, qB, c_1]
    rw [e_dn] at hP hD
    exact xw_i (S := Unit) () hx hb hr hlk dX1_denies_24 hP hK hD hS (by simp [aDeny, nDeny, qB, b2i, c_1])
  · have c_1 := b2i_n c_1
    refine lv_iload_n hx hb dX1_denies_8 rfl (lv_at hl 3 rfl) ?_
    refine xc_T (As := [.int x]) (rest := []) ⟨hx, hb, hml, hown, hts⟩ (c_X1_isStringOrFork l x) (va_cwS 1 hts gX1_denies_X1_isStringOrFork rfl rfl rfl (by decide +kernel) ⟨Nat.le_of_ble_eq_true rfl, Nat.le_of_ble_eq_true rfl⟩) rfl hl.1 rfl (Nat.le_of_ble_eq_true rfl) dX1_denies_9 ⟨Nat.zero_le _, Nat.zero_le _⟩ ?_
    refine lv_if_eq (tgt := 23) hx hb dX1_denies_12 (by decide) (fun c_2 => ?_) (fun c_2 => ?_)
    · have c_2 := b2i_e c_2
      refine lv_iconst (v := -1) hx hb dX1_denies_23 (by decide) ?_
      have e_dn : dn = nDeny v dn w h x y := by simp [aDeny, nDeny, qB, c_1, c_2]
      rw [e_dn] at hP hD
      exact xw_i (S := Unit) () hx hb hr hlk dX1_denies_24 hP hK hD hS (by simp [aDeny, nDeny, qB, b2i, c_1, c_2])
    · have c_2 := b2i_n c_2
      refine lv_iload hx hb dX1_denies_15 (lv_at hl 4 rfl) ?_
      refine xc_T (As := [.int y]) (rest := []) ⟨hx, hb, hml, hown, hts⟩ (c_X1_isStringOrFork l y) (va_cwS 1 hts gX1_denies_X1_isStringOrFork rfl rfl rfl (by decide +kernel) ⟨Nat.le_of_ble_eq_true rfl, Nat.le_of_ble_eq_true rfl⟩) rfl hl.1 rfl (Nat.le_of_ble_eq_true rfl) dX1_denies_17 ⟨Nat.zero_le _, Nat.zero_le _⟩ ?_
      refine lv_if_ne (tgt := 25) hx hb dX1_denies_20 (by decide) (fun c_3 => ?_) (fun c_3 => ?_)
      · have c_3 := b2i_n c_3
        refine lv_aload_n hx hb dX1_denies_25 rfl (lv_at hl 0 rfl) ?_
        refine lv_iload_n hx hb dX1_denies_26 rfl (lv_at hl 1 rfl) ?_
        refine lv_iload_n hx hb dX1_denies_27 rfl (lv_at hl 2 rfl) ?_
        refine lv_iload_n hx hb dX1_denies_28 rfl (lv_at hl 3 rfl) ?_
        refine lv_iload hx hb dX1_denies_29 (lv_at hl 4 rfl) ?_
        refine xc_R (As := [.int w, .int h, .int x, .int y]) (rest := []) ⟨hx, hb, hml, hown, hts⟩ (c_X1_stands l D a cV cI cG v gg dn lt ch w h x y (isQ_w c_1) (isF_in c_2) (isF_in c_3)) (cwV 4 hts gX1_denies_X1_stands rfl rfl rfl (by decide +kernel) ⟨Nat.le_of_ble_eq_true rfl, Nat.le_of_ble_eq_true rfl⟩) xMv0 trivial hP hK (va_recv hK hP (ci := 1) (q0 := 0) rfl rfl) rfl hl.1 rfl (Nat.le_of_ble_eq_true rfl) dX1_denies_31 ⟨Nat.zero_le _, Nat.zero_le _⟩ ?_
        refine lv_if_eq (tgt := 39) hx hb dX1_denies_34 (by decide) (fun c_4 => ?_) (fun c_4 => ?_)
        · have c_4 := b2i_e c_4
          refine lv_aload_n hx hb dX1_denies_39 rfl (lv_at hl 0 rfl) ?_
          refine lv_dup hx hb dX1_denies_40 rfl ?_
          refine va_get (D := D) (ci := 1) (v := .int dn) (C := RX1) (T := TX1) (N := 5) hx hb hts hiF hown hK hP 0 rfl rfl 2 (by decide) (hts (.fieldLink RX1 20 "TunerBench" "denials" "I") (by decide +kernel)) (fun _ h9 => h9) rfl dX1_denies_41 ?_
          refine lv_iconst (v := 1) hx hb dX1_denies_44 (by decide) ?_
          refine lv_iadd hx hb dX1_denies_45 ?_
          refine va_put (D := D) (ci := 1) (v := .int (dn + 1)) (ty := .int) (C := RX1) (T := TX1) (N := 5) hx hb hts hiF tyX1 tyX1_ok nmX1 hown hK hP hD hS 0 rfl rfl 2 (by decide) (hts (.fieldLink RX1 20 "TunerBench" "denials" "I") (by decide +kernel)) (fun _ h9 => h9) rfl (by decide +kernel) rfl rfl (Nat.le_of_ble_eq_true rfl) dX1_denies_46 (fun H locs hP hD hS => ?_)
          have hP : va_P D vwCl (cb a cV cI cG v gg (dn + 1) lt ch) H := hP
          have hD : va_D A (cb a cV cI cG v gg (dn + 1) lt ch) := hD
          refine lv_iconst (v := 1) hx hb dX1_denies_49 (by decide) ?_
          have e_dn : dn + 1 = nDeny v dn w h x y := by simp [aDeny, nDeny, qB, c_1, c_2, c_3, c_4]
          rw [e_dn] at hP hD
          exact xw_i (S := Unit) () hx hb hr hlk dX1_denies_50 hP hK hD hS (by simp [aDeny, nDeny, qB, b2i, c_1, c_2, c_3, c_4])
        · have c_4 := b2i_n c_4
          refine lv_iconst (v := 0) hx hb dX1_denies_37 (by decide) ?_
          have e_dn : dn = nDeny v dn w h x y := by simp [aDeny, nDeny, qB, c_1, c_2, c_3, c_4]
          rw [e_dn] at hP hD
          exact xw_i (S := Unit) () hx hb hr hlk dX1_denies_38 hP hK hD hS (by simp [aDeny, nDeny, qB, b2i, c_1, c_2, c_3, c_4])
      · have c_3 := b2i_e c_3
        refine lv_iconst (v := -1) hx hb dX1_denies_23 (by decide) ?_
        have e_dn : dn = nDeny v dn w h x y := by simp [aDeny, nDeny, qB, c_1, c_2, c_3]
        rw [e_dn] at hP hD
        exact xw_i (S := Unit) () hx hb hr hlk dX1_denies_24 hP hK hD hS (by simp [aDeny, nDeny, qB, b2i, c_1, c_2, c_3])
set_option maxHeartbeats 4000000 in
set_option maxRecDepth 100000 in
theorem c_X1_climb (l : Launch) (D : va_G) (a : Nat → Nat) (cV cI cG : ClassId) (v : Nat → Nat → Int32) (gg : Nat → Option Nat) (dn lt ch : Int32) (w h x : Int32) : Met l yX1_climb wsX1_climb ({ frames := 3, cells := 0, slots := 0, locals := 68 }) (xR D vwCl (cb a cV cI cG v gg dn lt ch) (cT cV cI cG) xB0 [.ref (a 0), .int w, .int h, .int x]) (QcRead (aClim v w h x)) 0 0 (fun _ => False) := by
  refine xr_in (cc := cX1_climb) (maxL := 5) (ret := (some .int)) (by decide) rfl (Nat.le_of_ble_eq_true rfl) ?_
  intro p e s m below meth c ls hx hb hr hml hts hown hlk hP hK hB hl
  have hown : s.vm.findClass RX1 = some m.cls := hown
  have hl : lv_has ls 5 [(0, .ref (a 0)), (1, .int w), (2, .int h), (3, .int x)] := hl
  have hiF : ∀ w ∈ wsX10, w ∈ wsX1_climb := by decide +kernel
  have loop : vp_in w 2 → isHb h = true → ∀ (n k : Nat), k + n = 31 → nI (clF v (cn w) h n k) = aClim v w h x → ∀ ls : Array Slot, lv_has ls 5 [(4, .int (nI k)), (0, .ref (a 0)), (1, .int w), (2, .int h), (3, .int x)] → W p l e ({ frames := 3, cells := 0, slots := 0, locals := 68 }) s m ([.ref (a 0), .int w, .int h, .int x] : List Value).toArray below meth c s.heap [] 0 0 (MQ below (QcRead (aClim v w h x)) ([.ref (a 0), .int w, .int h, .int x] : List Value).toArray s 0 0 (fun _ => False)) (F0 m 20 ls []) := by
    intro hw hh n
    induction n with
    | zero =>
      intro k hk hres ls hl
      obtain rfl : k = 31 := by omega
      refine lv_iload hx hb dX1_climb_20 (lv_at hl 0 rfl) ?_
      refine lv_bipush (v := 31) hx hb dX1_climb_22 (by decide) ?_
      refine lv_icmp_ge (tgt := 48) hx hb dX1_climb_24 (by decide) (fun c_1 => ?_) (fun c_1 => absurd (by decide) c_1)
      refine lv_iload hx hb dX1_climb_48 (lv_at hl 0 rfl) ?_
      exact xr_i hx hb hr hlk dX1_climb_50 hres
    | succ n ih =>
      intro k hk hres ls hl
      refine lv_iload hx hb dX1_climb_20 (lv_at hl 0 rfl) ?_
      refine lv_bipush (v := 31) hx hb dX1_climb_22 (by decide) ?_
      refine lv_icmp_ge (tgt := 48) hx hb dX1_climb_24 (by decide) (fun c_2 => absurd c_2 (nI_ge (show k < 31 by omega) (by decide))) (fun c_2 => ?_)
      refine lv_aload_n hx hb dX1_climb_27 rfl (lv_at hl 1 rfl) ?_
      refine lv_iload_n hx hb dX1_climb_28 rfl (lv_at hl 2 rfl) ?_
      refine lv_iload_n hx hb dX1_climb_29 rfl (lv_at hl 3 rfl) ?_
      refine lv_iload hx hb dX1_climb_30 (lv_at hl 0 rfl) ?_
      refine lv_iload hx hb dX1_climb_32 (lv_at hl 0 rfl) ?_
      refine lv_iconst (v := 1) hx hb dX1_climb_34 (by decide) ?_
      refine lv_iadd hx hb dX1_climb_35 ?_
      rw [nI_1 k]
      refine xc_R (As := [.int w, .int h, .int (nI k), .int (nI (k + 1))]) (rest := []) ⟨hx, hb, hml, hown, hts⟩ (c_X1_stands l D a cV cI cG v gg dn lt ch w h (nI k) (nI (k + 1)) hw (vp_in_nI (show k < 33 by omega) (by decide)) (vp_in_nI (show k + 1 < 33 by omega) (by decide))) (cwV 4 hts gX1_climb_X1_stands rfl rfl rfl (by decide +kernel) ⟨Nat.le_of_ble_eq_true rfl, Nat.le_of_ble_eq_true rfl⟩) xMv0 trivial hP hK (va_recv hK hP (ci := 1) (q0 := 0) rfl rfl) rfl hl.1 rfl (Nat.le_of_ble_eq_true rfl) dX1_climb_36 ⟨Nat.zero_le _, Nat.zero_le _⟩ ?_
      refine lv_if_eq (tgt := 48) hx hb dX1_climb_39 (by decide) (fun c_3 => ?_) (fun c_3 => ?_)
      · have c_3 := b2i_e c_3
        have c_3 : stnF h (v (cn w) k) (v (cn w) (k + 1)) = false := by simpa [sdF, nI_cn (show k < 2 ^ 31 by omega), nI_cn (show k + 1 < 2 ^ 31 by omega)] using c_3
        refine lv_iload hx hb dX1_climb_48 (lv_at hl 0 rfl) ?_
        exact xr_i hx hb hr hlk dX1_climb_50 (by rw [← hres]; simp [clF, c_3])
      · have c_3 := b2i_n c_3
        have c_3 : stnF h (v (cn w) k) (v (cn w) (k + 1)) = true := by simpa [sdF, nI_cn (show k < 2 ^ 31 by omega), nI_cn (show k + 1 < 2 ^ 31 by omega)] using c_3
        refine lv_iinc (v := nI (k + 1)) (lv' := [(4, .int (nI (k + 1))), (0, .ref (a 0)), (1, .int w), (2, .int h), (3, .int x)]) hx hb dX1_climb_42 hl (k := 0) rfl (nI_1 k) (by decide) rfl (fun ls hl => ?_)
        refine lv_goto (tgt := 20) hx hb dX1_climb_45 (by decide) ?_
        refine ih (k + 1) (by omega) ?_ ls (lv_sub hl [0, 1, 2, 3, 4] rfl)
        rw [← hres]; simp [clF, c_3]
  refine lv_iload_n hx hb dX1_climb_0 rfl (lv_at hl 1 rfl) ?_
  refine lv_iload_n hx hb dX1_climb_1 rfl (lv_at hl 2 rfl) ?_
  refine xc_T (As := [.int w, .int h]) (rest := []) ⟨hx, hb, hml, hown, hts⟩ (c_X1_isQuestion l w h) (va_cwS 2 hts gX1_climb_X1_isQuestion rfl rfl rfl (by decide +kernel) ⟨Nat.le_of_ble_eq_true rfl, Nat.le_of_ble_eq_true rfl⟩) rfl hl.1 rfl (Nat.le_of_ble_eq_true rfl) dX1_climb_2 ⟨Nat.zero_le _, Nat.zero_le _⟩ ?_
  refine lv_if_eq (tgt := 15) hx hb dX1_climb_5 (by decide) (fun c_4 => ?_) (fun c_4 => ?_)
  · have c_4 := b2i_e c_4
    refine lv_iconst (v := -1) hx hb dX1_climb_15 (by decide) ?_
    exact xr_i hx hb hr hlk dX1_climb_16 (by simp [aClim, c_4])
  · have c_4 := b2i_n c_4
    refine lv_iload_n hx hb dX1_climb_8 rfl (lv_at hl 3 rfl) ?_
    refine xc_T (As := [.int x]) (rest := []) ⟨hx, hb, hml, hown, hts⟩ (c_X1_isString l x) (va_cwS 1 hts gX1_climb_X1_isString rfl rfl rfl (by decide +kernel) ⟨Nat.le_of_ble_eq_true rfl, Nat.le_of_ble_eq_true rfl⟩) rfl hl.1 rfl (Nat.le_of_ble_eq_true rfl) dX1_climb_9 ⟨Nat.zero_le _, Nat.zero_le _⟩ ?_
    refine lv_if_ne (tgt := 17) hx hb dX1_climb_12 (by decide) (fun c_5 => ?_) (fun c_5 => ?_)
    · have c_5 := b2i_n c_5
      refine lv_iload_n hx hb dX1_climb_17 rfl (lv_at hl 3 rfl) ?_
      refine lv_istore (lv' := [(4, .int x), (0, .ref (a 0)), (1, .int w), (2, .int h), (3, .int x)]) hx hb dX1_climb_18 hl (by decide) rfl (fun ls hl => ?_)
      obtain ⟨j, hj, ej⟩ := vp_in_of (isS_in c_5) (by decide)
      have hcj : cn x = j := by rw [ej]; exact nI_cn (by omega)
      refine loop (isQ_w c_4) (isQ_h c_4) (31 - j) j (by omega) ?_ ls ?_
      · simp [aClim, hcj, c_4, c_5]
      · rw [← ej]; exact lv_sub hl [0, 1, 2, 3, 4] rfl
    · have c_5 := b2i_e c_5
      refine lv_iconst (v := -1) hx hb dX1_climb_15 (by decide) ?_
      exact xr_i hx hb hr hlk dX1_climb_16 (by simp [aClim, c_4, c_5])
set_option maxHeartbeats 4000000 in
set_option maxRecDepth 100000 in
theorem c_X1_first (l : Launch) (D : va_G) (a : Nat → Nat) (cV cI cG : ClassId) (v : Nat → Nat → Int32) (gg : Nat → Option Nat) (dn lt ch : Int32) (w h x : Int32) (nb : Bool) : Met l yX1_first wsX1_first ({ frames := 3, cells := 0, slots := 0, locals := 68 }) (xR D vwCl (cb a cV cI cG v gg dn lt ch) (cT cV cI cG) xB0 [.ref (a 0), .int w, .int h, .int x, .int (b2i nb)]) (QcRead (aFirs v w h x nb)) 0 0 (fun _ => False) := by
  refine xr_in (cc := cX1_first) (maxL := 6) (ret := (some .int)) (by decide) rfl (Nat.le_of_ble_eq_true rfl) ?_
  intro p e s m below meth c ls hx hb hr hml hts hown hlk hP hK hB hl
  have hown : s.vm.findClass RX1 = some m.cls := hown
  have hl : lv_has ls 6 [(0, .ref (a 0)), (1, .int w), (2, .int h), (3, .int x), (4, .int (b2i nb))] := hl
  have hiF : ∀ w ∈ wsX10, w ∈ wsX1_first := by decide +kernel
  have loop : vp_in w 2 → isHb h = true → ∀ (n k : Nat), k + n = 32 → fsF v (cn w) h nb n k = aFirs v w h x nb → ∀ ls : Array Slot, lv_has ls 6 [(5, .int (nI k)), (0, .ref (a 0)), (1, .int w), (2, .int h), (3, .int x), (4, .int (b2i nb))] → W p l e ({ frames := 3, cells := 0, slots := 0, locals := 68 }) s m ([.ref (a 0), .int w, .int h, .int x, .int (b2i nb)] : List Value).toArray below meth c s.heap [] 0 0 (MQ below (QcRead (aFirs v w h x nb)) ([.ref (a 0), .int w, .int h, .int x, .int (b2i nb)] : List Value).toArray s 0 0 (fun _ => False)) (F0 m 20 ls []) := by
    intro hw hh n
    induction n with
    | zero =>
      intro k hk hres ls hl
      obtain rfl : k = 32 := by omega
      refine lv_iload hx hb dX1_first_20 (lv_at hl 0 rfl) ?_
      refine lv_bipush (v := 32) hx hb dX1_first_22 (by decide) ?_
      refine lv_icmp_ge (tgt := 51) hx hb dX1_first_24 (by decide) (fun c_1 => ?_) (fun c_1 => absurd (by decide) c_1)
      refine lv_iconst (v := -1) hx hb dX1_first_51 (by decide) ?_
      exact xr_i hx hb hr hlk dX1_first_52 hres
    | succ n ih =>
      intro k hk hres ls hl
      refine lv_iload hx hb dX1_first_20 (lv_at hl 0 rfl) ?_
      refine lv_bipush (v := 32) hx hb dX1_first_22 (by decide) ?_
      refine lv_icmp_ge (tgt := 51) hx hb dX1_first_24 (by decide) (fun c_2 => absurd c_2 (nI_ge (show k < 32 by omega) (by decide))) (fun c_2 => ?_)
      refine lv_aload_n hx hb dX1_first_27 rfl (lv_at hl 1 rfl) ?_
      refine lv_iload_n hx hb dX1_first_28 rfl (lv_at hl 2 rfl) ?_
      refine lv_iload_n hx hb dX1_first_29 rfl (lv_at hl 3 rfl) ?_
      refine lv_iload hx hb dX1_first_30 (lv_at hl 0 rfl) ?_
      refine lv_bipush (v := 32) hx hb dX1_first_32 (by decide) ?_
      refine xc_R (As := [.int w, .int h, .int (nI k), .int 32]) (rest := []) ⟨hx, hb, hml, hown, hts⟩ (c_X1_stands l D a cV cI cG v gg dn lt ch w h (nI k) 32 hw (vp_in_nI (show k < 33 by omega) (by decide)) (show vp_in (32) 33 by unfold vp_in; decide)) (cwV 4 hts gX1_first_X1_stands rfl rfl rfl (by decide +kernel) ⟨Nat.le_of_ble_eq_true rfl, Nat.le_of_ble_eq_true rfl⟩) xMv0 trivial hP hK (va_recv hK hP (ci := 1) (q0 := 0) rfl rfl) rfl hl.1 rfl (Nat.le_of_ble_eq_true rfl) dX1_first_34 ⟨Nat.zero_le _, Nat.zero_le _⟩ ?_
      refine lv_iload hx hb dX1_first_37 (lv_at hl 5 rfl) ?_
      refine lv_icmp_eq (tgt := 45) hx hb dX1_first_39 (by decide) (fun c_3 => ?_) (fun c_3 => ?_)
      · have c_3 : (stnF h (v (cn w) k) (v (cn w) 32) != nb) = false := by
          have q9 := b2i_eq c_3
          simpa [sdF, nI_cn (show k < 2 ^ 31 by omega), show cn 32 = 32 by decide] using q9
        refine lv_iinc (v := nI (k + 1)) (lv' := [(5, .int (nI (k + 1))), (0, .ref (a 0)), (1, .int w), (2, .int h), (3, .int x), (4, .int (b2i nb))]) hx hb dX1_first_45 hl (k := 0) rfl (nI_1 k) (by decide) rfl (fun ls hl => ?_)
        refine lv_goto (tgt := 20) hx hb dX1_first_48 (by decide) ?_
        refine ih (k + 1) (by omega) ?_ ls (lv_sub hl [0, 1, 2, 3, 4, 5] rfl)
        rw [← hres]; simp only [fsF, c_3]; simp
      · have c_3 : (stnF h (v (cn w) k) (v (cn w) 32) != nb) = true := by
          have q9 := b2i_ne c_3
          simpa [sdF, nI_cn (show k < 2 ^ 31 by omega), show cn 32 = 32 by decide] using q9
        refine lv_iload hx hb dX1_first_42 (lv_at hl 0 rfl) ?_
        exact xr_i hx hb hr hlk dX1_first_44 (by rw [← hres]; simp only [fsF, c_3]; simp)
  refine lv_iload_n hx hb dX1_first_0 rfl (lv_at hl 1 rfl) ?_
  refine lv_iload_n hx hb dX1_first_1 rfl (lv_at hl 2 rfl) ?_
  refine xc_T (As := [.int w, .int h]) (rest := []) ⟨hx, hb, hml, hown, hts⟩ (c_X1_isQuestion l w h) (va_cwS 2 hts gX1_first_X1_isQuestion rfl rfl rfl (by decide +kernel) ⟨Nat.le_of_ble_eq_true rfl, Nat.le_of_ble_eq_true rfl⟩) rfl hl.1 rfl (Nat.le_of_ble_eq_true rfl) dX1_first_2 ⟨Nat.zero_le _, Nat.zero_le _⟩ ?_
  refine lv_if_eq (tgt := 15) hx hb dX1_first_5 (by decide) (fun c_4 => ?_) (fun c_4 => ?_)
  · have c_4 := b2i_e c_4
    refine lv_iconst (v := -1) hx hb dX1_first_15 (by decide) ?_
    exact xr_i hx hb hr hlk dX1_first_16 (by simp [aFirs, c_4])
  · have c_4 := b2i_n c_4
    refine lv_iload_n hx hb dX1_first_8 rfl (lv_at hl 3 rfl) ?_
    refine xc_T (As := [.int x]) (rest := []) ⟨hx, hb, hml, hown, hts⟩ (c_X1_isString l x) (va_cwS 1 hts gX1_first_X1_isString rfl rfl rfl (by decide +kernel) ⟨Nat.le_of_ble_eq_true rfl, Nat.le_of_ble_eq_true rfl⟩) rfl hl.1 rfl (Nat.le_of_ble_eq_true rfl) dX1_first_9 ⟨Nat.zero_le _, Nat.zero_le _⟩ ?_
    refine lv_if_ne (tgt := 17) hx hb dX1_first_12 (by decide) (fun c_5 => ?_) (fun c_5 => ?_)
    · have c_5 := b2i_n c_5
      refine lv_iload_n hx hb dX1_first_17 rfl (lv_at hl 3 rfl) ?_
      refine lv_istore (lv' := [(5, .int x), (0, .ref (a 0)), (1, .int w), (2, .int h), (3, .int x), (4, .int (b2i nb))]) hx hb dX1_first_18 hl (by decide) rfl (fun ls hl => ?_)
      obtain ⟨j, hj, ej⟩ := vp_in_of (isS_in c_5) (by decide)
      have hcj : cn x = j := by rw [ej]; exact nI_cn (by omega)
      refine loop (isQ_w c_4) (isQ_h c_4) (32 - j) j (by omega) ?_ ls ?_
      · simp [aFirs, hcj, c_4, c_5]
      · rw [← ej]; exact lv_sub hl [0, 1, 2, 3, 4, 5] rfl
    · have c_5 := b2i_e c_5
      refine lv_iconst (v := -1) hx hb dX1_first_15 (by decide) ?_
      exact xr_i hx hb hr hlk dX1_first_16 (by simp [aFirs, c_4, c_5])
set_option maxHeartbeats 4000000 in
set_option maxRecDepth 100000 in
theorem c_X1_best (l : Launch) (D : va_G) (a : Nat → Nat) (cV cI cG : ClassId) (v : Nat → Nat → Int32) (gg : Nat → Option Nat) (dn lt ch : Int32) (w h : Int32) (nb : Bool) : Met l yX1_best wsX1_best ({ frames := 3, cells := 0, slots := 0, locals := 68 }) (xR D vwCl (cb a cV cI cG v gg dn lt ch) (cT cV cI cG) xB0 [.ref (a 0), .int w, .int h, .int (b2i nb)]) (QcRead (aBest v w h nb)) 0 0 (fun _ => False) := by
  refine xr_in (cc := cX1_best) (maxL := 6) (ret := (some .int)) (by decide) rfl (Nat.le_of_ble_eq_true rfl) ?_
  intro p e s m below meth c ls hx hb hr hml hts hown hlk hP hK hB hl
  have hown : s.vm.findClass RX1 = some m.cls := hown
  have hl : lv_has ls 6 [(0, .ref (a 0)), (1, .int w), (2, .int h), (3, .int (b2i nb))] := hl
  have hiF : ∀ w ∈ wsX10, w ∈ wsX1_best := by decide +kernel
  have loop : vp_in w 2 → isHb h = true → ∀ (n k f : Nat), k + n = 32 → f < 32 → nI (bsF v (cn w) h nb n k f) = aBest v w h nb → ∀ ls : Array Slot, lv_has ls 6 [(5, .int (nI k)), (4, .int (nI f)), (0, .ref (a 0)), (1, .int w), (2, .int h), (3, .int (b2i nb))] → W p l e ({ frames := 3, cells := 0, slots := 0, locals := 68 }) s m ([.ref (a 0), .int w, .int h, .int (b2i nb)] : List Value).toArray below meth c s.heap [] 0 0 (MQ below (QcRead (aBest v w h nb)) ([.ref (a 0), .int w, .int h, .int (b2i nb)] : List Value).toArray s 0 0 (fun _ => False)) (F0 m 16 ls []) := by
    intro hw hh n
    induction n with
    | zero =>
      intro k f hk hf hres ls hl
      obtain rfl : k = 32 := by omega
      refine lv_iload hx hb dX1_best_16 (lv_at hl 0 rfl) ?_
      refine lv_bipush (v := 32) hx hb dX1_best_18 (by decide) ?_
      refine lv_icmp_ge (tgt := 47) hx hb dX1_best_20 (by decide) (fun c_1 => ?_) (fun c_1 => absurd (by decide) c_1)
      refine lv_iload hx hb dX1_best_47 (lv_at hl 1 rfl) ?_
      exact xr_i hx hb hr hlk dX1_best_49 hres
    | succ n ih =>
      intro k f hk hf hres ls hl
      refine lv_iload hx hb dX1_best_16 (lv_at hl 0 rfl) ?_
      refine lv_bipush (v := 32) hx hb dX1_best_18 (by decide) ?_
      refine lv_icmp_ge (tgt := 47) hx hb dX1_best_20 (by decide) (fun c_2 => absurd c_2 (nI_ge (show k < 32 by omega) (by decide))) (fun c_2 => ?_)
      refine lv_aload_n hx hb dX1_best_23 rfl (lv_at hl 2 rfl) ?_
      refine lv_iload_n hx hb dX1_best_24 rfl (lv_at hl 3 rfl) ?_
      refine lv_iload_n hx hb dX1_best_25 rfl (lv_at hl 4 rfl) ?_
      refine lv_iload hx hb dX1_best_26 (lv_at hl 0 rfl) ?_
      refine lv_iload hx hb dX1_best_28 (lv_at hl 1 rfl) ?_
      refine xc_R (As := [.int w, .int h, .int (nI k), .int (nI f)]) (rest := []) ⟨hx, hb, hml, hown, hts⟩ (c_X1_stands l D a cV cI cG v gg dn lt ch w h (nI k) (nI f) hw (vp_in_nI (show k < 33 by omega) (by decide)) (vp_in_nI (show f < 33 by omega) (by decide))) (cwV 4 hts gX1_best_X1_stands rfl rfl rfl (by decide +kernel) ⟨Nat.le_of_ble_eq_true rfl, Nat.le_of_ble_eq_true rfl⟩) xMv0 trivial hP hK (va_recv hK hP (ci := 1) (q0 := 0) rfl rfl) rfl hl.1 rfl (Nat.le_of_ble_eq_true rfl) dX1_best_30 ⟨Nat.zero_le _, Nat.zero_le _⟩ ?_
      refine lv_iload_n hx hb dX1_best_33 rfl (lv_at hl 5 rfl) ?_
      refine lv_icmp_eq (tgt := 41) hx hb dX1_best_34 (by decide) (fun c_3 => ?_) (fun c_3 => ?_)
      · have c_3 : (stnF h (v (cn w) k) (v (cn w) f) != nb) = false := by
          have q9 := b2i_eq c_3
          simpa [sdF, nI_cn (show k < 2 ^ 31 by omega), nI_cn (show f < 2 ^ 31 by omega)] using q9
        refine lv_iinc (v := nI (k + 1)) (lv' := [(5, .int (nI (k + 1))), (4, .int (nI f)), (0, .ref (a 0)), (1, .int w), (2, .int h), (3, .int (b2i nb))]) hx hb dX1_best_41 hl (k := 0) rfl (nI_1 k) (by decide) rfl (fun ls hl => ?_)
        refine lv_goto (tgt := 16) hx hb dX1_best_44 (by decide) ?_
        refine ih (k + 1) f (by omega) (by omega) ?_ ls (lv_sub hl [0, 1, 2, 3, 4, 5] rfl)
        rw [← hres]; simp only [bsF, c_3]; simp
      · have c_3 : (stnF h (v (cn w) k) (v (cn w) f) != nb) = true := by
          have q9 := b2i_ne c_3
          simpa [sdF, nI_cn (show k < 2 ^ 31 by omega), nI_cn (show f < 2 ^ 31 by omega)] using q9
        refine lv_iload hx hb dX1_best_37 (lv_at hl 0 rfl) ?_
        refine lv_istore (lv' := [(4, .int (nI k)), (5, .int (nI k)), (0, .ref (a 0)), (1, .int w), (2, .int h), (3, .int (b2i nb))]) hx hb dX1_best_39 hl (by decide) rfl (fun ls hl => ?_)
        refine lv_iinc (v := nI (k + 1)) (lv' := [(5, .int (nI (k + 1))), (4, .int (nI k)), (0, .ref (a 0)), (1, .int w), (2, .int h), (3, .int (b2i nb))]) hx hb dX1_best_41 hl (k := 1) rfl (nI_1 k) (by decide) rfl (fun ls hl => ?_)
        refine lv_goto (tgt := 16) hx hb dX1_best_44 (by decide) ?_
        refine ih (k + 1) k (by omega) (by omega) ?_ ls (lv_sub hl [0, 1, 2, 3, 4, 5] rfl)
        rw [← hres]; simp only [bsF, c_3]; simp
  refine lv_iload_n hx hb dX1_best_0 rfl (lv_at hl 1 rfl) ?_
  refine lv_iload_n hx hb dX1_best_1 rfl (lv_at hl 2 rfl) ?_
  refine xc_T (As := [.int w, .int h]) (rest := []) ⟨hx, hb, hml, hown, hts⟩ (c_X1_isQuestion l w h) (va_cwS 2 hts gX1_best_X1_isQuestion rfl rfl rfl (by decide +kernel) ⟨Nat.le_of_ble_eq_true rfl, Nat.le_of_ble_eq_true rfl⟩) rfl hl.1 rfl (Nat.le_of_ble_eq_true rfl) dX1_best_2 ⟨Nat.zero_le _, Nat.zero_le _⟩ ?_
  refine lv_if_ne (tgt := 10) hx hb dX1_best_5 (by decide) (fun c_4 => ?_) (fun c_4 => ?_)
  · have c_4 := b2i_n c_4
    refine lv_iconst (v := 0) hx hb dX1_best_10 (by decide) ?_
    refine lv_istore (lv' := [(4, .int 0), (0, .ref (a 0)), (1, .int w), (2, .int h), (3, .int (b2i nb))]) hx hb dX1_best_11 hl (by decide) rfl (fun ls hl => ?_)
    refine lv_iconst (v := 1) hx hb dX1_best_13 (by decide) ?_
    refine lv_istore (lv' := [(5, .int 1), (4, .int 0), (0, .ref (a 0)), (1, .int w), (2, .int h), (3, .int (b2i nb))]) hx hb dX1_best_14 hl (by decide) rfl (fun ls hl => ?_)
    refine loop (isQ_w c_4) (isQ_h c_4) 31 1 0 (by omega) (by omega) ?_ ls (lv_sub hl [0, 1, 2, 3, 4, 5] rfl)
    simp [aBest, c_4]
  · have c_4 := b2i_e c_4
    refine lv_iconst (v := -1) hx hb dX1_best_8 (by decide) ?_
    exact xr_i hx hb hr hlk dX1_best_9 (by simp [aBest, c_4])
