/-! the model: methods over its values -/
theorem isV_in (so q : Int32) : isVb so q = (inB so 0 4 && (!(decide (so = 0)) || inB q (-40000) 40000)) := by
  by_cases h : so = 0
  · subst h
    have : inB 0 0 4 = true := by decide
    simp [isVb, inB, this]
  · have h1 : (so < 1) ↔ (so < 0) := by
      rw [i32_eq] at h
      rw [i32_lt, i32_lt]
      simp at h ⊢
      omega
    simp [isVb, inB, h, h1]
theorem at_s (w : Int32) (k : Nat) : 33 * w + nI k + 1 = 33 * w + nI (k + 1) := by rw [Int32.add_assoc, nI_1]
theorem okS {v : Nat → Nat → Int32} {w k : Nat} (h : ∀ i j : Nat, okV (v i j)) (_ : True) : ∀ i j : Nat, okV (swp v w k i j) := by
  intro i j
  unfold swp up2
  by_cases h1 : i = w ∧ j = k + 1
  · simp only [h1, and_self, if_true]; exact h _ _
  · simp only [h1, if_false]
    by_cases h2 : i = w ∧ j = k
    · simp only [h2, and_self, if_true]; exact h _ _
    · simp only [h2, if_false]; exact h _ _
set_option maxHeartbeats 4000000 in
set_option maxRecDepth 100000 in
theorem c_X2_stands (l : Launch) (D : va_G) (a : Nat → Nat) (cI cZ : ClassId) (v : Nat → Nat → Int32) (G : Nat → Option GT) (dn lt ch gn : Int32) (w h x y : Int32) (hw : vp_in w 2) (hx1 : vp_in x 33) (hy1 : vp_in y 33) (hh : isHb h = true) (okv : ∀ i j : Nat, okV (v i j)) : Met l yX2_stands wsX2_stands ({ frames := 2, cells := 0, slots := 0, locals := 47 }) (xR D vwCl (mb a cI cZ v G dn lt ch gn) (mT cI cZ) xB0 [.ref (a 0), .int w, .int h, .int x, .int y]) (QcRead (b2i (sdF v w h x y))) 0 0 (fun _ => False) := by
  refine xr_in (cc := cX2_stands) (maxL := 7) (ret := (some .boolean)) (by decide) rfl (Nat.le_of_ble_eq_true rfl) ?_
  intro p e s m below meth c ls hx hb hr hml hts hown hlk hP hK hB hl
  have hown : s.vm.findClass RX2 = some m.cls := hown
  have hl : lv_has ls 7 [(0, .ref (a 0)), (1, .int w), (2, .int h), (3, .int x), (4, .int y)] := hl
  have hiF : ∀ w ∈ wsX20, w ∈ wsX2_stands := by decide +kernel
  refine lv_iload_n hx hb dX2_stands_0 rfl (lv_at hl 1 rfl) ?_
  refine lv_iload_n hx hb dX2_stands_1 rfl (lv_at hl 3 rfl) ?_
  refine xc_T (As := [.int w, .int x]) (rest := []) ⟨hx, hb, hml, hown, hts⟩ (c_X2_at l w x) (va_cwS 2 hts gX2_stands_X2_at rfl rfl rfl (by decide +kernel) ⟨Nat.le_of_ble_eq_true rfl, Nat.le_of_ble_eq_true rfl⟩) rfl hl.1 rfl (Nat.le_of_ble_eq_true rfl) dX2_stands_2 ⟨Nat.zero_le _, Nat.zero_le _⟩ ?_
  refine lv_istore (lv' := [(5, .int (33 * w + x)), (0, .ref (a 0)), (1, .int w), (2, .int h), (3, .int x), (4, .int y)]) hx hb dX2_stands_5 hl (by decide) rfl (fun ls hl => ?_)
  refine lv_iload_n hx hb dX2_stands_7 rfl (lv_at hl 2 rfl) ?_
  refine lv_iload hx hb dX2_stands_8 (lv_at hl 5 rfl) ?_
  refine xc_T (As := [.int w, .int y]) (rest := []) ⟨hx, hb, hml, hown, hts⟩ (c_X2_at l w y) (va_cwS 2 hts gX2_stands_X2_at rfl rfl rfl (by decide +kernel) ⟨Nat.le_of_ble_eq_true rfl, Nat.le_of_ble_eq_true rfl⟩) rfl hl.1 rfl (Nat.le_of_ble_eq_true rfl) dX2_stands_10 ⟨Nat.zero_le _, Nat.zero_le _⟩ ?_
  refine lv_istore (lv' := [(6, .int (33 * w + y)), (5, .int (33 * w + x)), (0, .ref (a 0)), (1, .int w), (2, .int h), (3, .int x), (4, .int y)]) hx hb dX2_stands_13 hl (by decide) rfl (fun ls hl => ?_)
  refine lv_iload_n hx hb dX2_stands_15 rfl (lv_at hl 4 rfl) ?_
  refine lv_aload_n hx hb dX2_stands_16 rfl (lv_at hl 2 rfl) ?_
  refine va_get (D := D) (ci := 2) (v := .ref (a 1)) (C := RX2) (T := TX2) (N := 14) hx hb hts hiF hown hK hP 0 rfl rfl 0 (by decide) (hts (.fieldLink RX2 7 "TunerBenchModel" "sorts" "[I") (by decide +kernel)) (fun _ h9 => h9) rfl dX2_stands_17 ?_
  refine lv_iload hx hb dX2_stands_20 (lv_at hl 1 rfl) ?_
  refine va_iald (D := D) hx hb hK hP 1 0 rfl rfl (at_in hw hx1) dX2_stands_22 ?_
  rw [at_cn hw hx1, mso_at v (vp_lt hx1)]
  refine lv_aload_n hx hb dX2_stands_23 rfl (lv_at hl 2 rfl) ?_
  refine va_get (D := D) (ci := 2) (v := .ref (a 2)) (C := RX2) (T := TX2) (N := 14) hx hb hts hiF hown hK hP 0 rfl rfl 1 (by decide) (hts (.fieldLink RX2 13 "TunerBenchModel" "quarters" "[I") (by decide +kernel)) (fun _ h9 => h9) rfl dX2_stands_24 ?_
  refine lv_iload hx hb dX2_stands_27 (lv_at hl 1 rfl) ?_
  refine va_iald (D := D) hx hb hK hP 2 0 rfl rfl (at_in hw hx1) dX2_stands_29 ?_
  rw [at_cn hw hx1, mqu_at v (vp_lt hx1)]
  refine lv_aload_n hx hb dX2_stands_30 rfl (lv_at hl 2 rfl) ?_
  refine va_get (D := D) (ci := 2) (v := .ref (a 1)) (C := RX2) (T := TX2) (N := 14) hx hb hts hiF hown hK hP 0 rfl rfl 0 (by decide) (hts (.fieldLink RX2 7 "TunerBenchModel" "sorts" "[I") (by decide +kernel)) (fun _ h9 => h9) rfl dX2_stands_31 ?_
  refine lv_iload hx hb dX2_stands_34 (lv_at hl 0 rfl) ?_
  refine va_iald (D := D) hx hb hK hP 1 0 rfl rfl (at_in hw hy1) dX2_stands_36 ?_
  rw [at_cn hw hy1, mso_at v (vp_lt hy1)]
  refine lv_aload_n hx hb dX2_stands_37 rfl (lv_at hl 2 rfl) ?_
  refine va_get (D := D) (ci := 2) (v := .ref (a 2)) (C := RX2) (T := TX2) (N := 14) hx hb hts hiF hown hK hP 0 rfl rfl 1 (by decide) (hts (.fieldLink RX2 13 "TunerBenchModel" "quarters" "[I") (by decide +kernel)) (fun _ h9 => h9) rfl dX2_stands_38 ?_
  refine lv_iload hx hb dX2_stands_41 (lv_at hl 0 rfl) ?_
  refine va_iald (D := D) hx hb hK hP 2 0 rfl rfl (at_in hw hy1) dX2_stands_43 ?_
  rw [at_cn hw hy1, mqu_at v (vp_lt hy1)]
  refine xc_T (As := [.int h, .int (srtF (v (cn w) (cn x))), .int (qrtF (v (cn w) (cn x))), .int (srtF (v (cn w) (cn y))), .int (qrtF (v (cn w) (cn y)))]) (rest := []) ⟨hx, hb, hml, hown, hts⟩ (c_X2_goes l h (srtF (v (cn w) (cn x))) (qrtF (v (cn w) (cn x))) (srtF (v (cn w) (cn y))) (qrtF (v (cn w) (cn y)))) (va_cwS 5 hts gX2_stands_X2_goes rfl rfl rfl (by decide +kernel) ⟨Nat.le_of_ble_eq_true rfl, Nat.le_of_ble_eq_true rfl⟩) rfl hl.1 rfl (Nat.le_of_ble_eq_true rfl) dX2_stands_44 ⟨Nat.zero_le _, Nat.zero_le _⟩ ?_
  exact xr_z hx hb hr hlk dX2_stands_47 (b2i_nar _) (by rw [go_stn h _ _ hh (okv _ _) (okv _ _)]; rfl)
set_option maxHeartbeats 4000000 in
set_option maxRecDepth 100000 in
theorem c_X2_sort (l : Launch) (D : va_G) (a : Nat → Nat) (cI cZ : ClassId) (v : Nat → Nat → Int32) (G : Nat → Option GT) (dn lt ch gn : Int32) (w x : Int32) : Met l yX2_sort wsX2_sort ({ frames := 2, cells := 0, slots := 0, locals := 42 }) (xR D vwCl (mb a cI cZ v G dn lt ch gn) (mT cI cZ) xB0 [.ref (a 0), .int w, .int x]) (QcRead (aSort v w x)) 0 0 (fun _ => False) := by
  refine xr_in (cc := cX2_sort) (maxL := 3) (ret := (some .int)) (by decide) rfl (Nat.le_of_ble_eq_true rfl) ?_
  intro p e s m below meth c ls hx hb hr hml hts hown hlk hP hK hB hl
  have hown : s.vm.findClass RX2 = some m.cls := hown
  have hl : lv_has ls 3 [(0, .ref (a 0)), (1, .int w), (2, .int x)] := hl
  have hiF : ∀ w ∈ wsX20, w ∈ wsX2_sort := by decide +kernel
  refine lv_iload_n hx hb dX2_sort_0 rfl (lv_at hl 1 rfl) ?_
  refine lv_iconst (v := 0) hx hb dX2_sort_1 (by decide) ?_
  refine lv_iconst (v := 1) hx hb dX2_sort_2 (by decide) ?_
  refine xc_T (As := [.int w, .int 0, .int 1]) (rest := []) ⟨hx, hb, hml, hown, hts⟩ (c_X2_in l w 0 1) (va_cwS 3 hts gX2_sort_X2_in rfl rfl rfl (by decide +kernel) ⟨Nat.le_of_ble_eq_true rfl, Nat.le_of_ble_eq_true rfl⟩) rfl hl.1 rfl (Nat.le_of_ble_eq_true rfl) dX2_sort_3 ⟨Nat.zero_le _, Nat.zero_le _⟩ ?_
  rw [in01]
  refine lv_if_eq (tgt := 29) hx hb dX2_sort_6 (by decide) (fun c_1 => ?_) (fun c_1 => ?_)
  · have c_1 := b2i_e c_1
    refine lv_iconst (v := -1) hx hb dX2_sort_29 (by decide) ?_
    exact xr_i hx hb hr hlk dX2_sort_30 (by simp [aSort, c_1])
  · have c_1 := b2i_n c_1
    refine lv_iload_n hx hb dX2_sort_9 rfl (lv_at hl 2 rfl) ?_
    refine xc_T (As := [.int x]) (rest := []) ⟨hx, hb, hml, hown, hts⟩ (c_X2_isStringOrFork l x) (va_cwS 1 hts gX2_sort_X2_isStringOrFork rfl rfl rfl (by decide +kernel) ⟨Nat.le_of_ble_eq_true rfl, Nat.le_of_ble_eq_true rfl⟩) rfl hl.1 rfl (Nat.le_of_ble_eq_true rfl) dX2_sort_10 ⟨Nat.zero_le _, Nat.zero_le _⟩ ?_
    refine lv_if_eq (tgt := 29) hx hb dX2_sort_13 (by decide) (fun c_2 => ?_) (fun c_2 => ?_)
    · have c_2 := b2i_e c_2
      refine lv_iconst (v := -1) hx hb dX2_sort_29 (by decide) ?_
      exact xr_i hx hb hr hlk dX2_sort_30 (by simp [aSort, c_1, c_2])
    · have c_2 := b2i_n c_2
      refine lv_aload_n hx hb dX2_sort_16 rfl (lv_at hl 0 rfl) ?_
      refine va_get (D := D) (ci := 2) (v := .ref (a 1)) (C := RX2) (T := TX2) (N := 14) hx hb hts hiF hown hK hP 0 rfl rfl 0 (by decide) (hts (.fieldLink RX2 7 "TunerBenchModel" "sorts" "[I") (by decide +kernel)) (fun _ h9 => h9) rfl dX2_sort_17 ?_
      refine lv_iload_n hx hb dX2_sort_20 rfl (lv_at hl 1 rfl) ?_
      refine lv_iload_n hx hb dX2_sort_21 rfl (lv_at hl 2 rfl) ?_
      refine xc_T (As := [.int w, .int x]) (rest := [.ref (a 1)]) ⟨hx, hb, hml, hown, hts⟩ (c_X2_at l w x) (va_cwS 2 hts gX2_sort_X2_at rfl rfl rfl (by decide +kernel) ⟨Nat.le_of_ble_eq_true rfl, Nat.le_of_ble_eq_true rfl⟩) rfl hl.1 rfl (Nat.le_of_ble_eq_true rfl) dX2_sort_22 ⟨Nat.zero_le _, Nat.zero_le _⟩ ?_
      refine va_iald (D := D) hx hb hK hP 1 0 rfl rfl (at_in (isW_in c_1) (isF_in c_2)) dX2_sort_25 ?_
      rw [at_cn (isW_in c_1) (isF_in c_2), mso_at v (vp_lt (isF_in c_2))]
      refine lv_goto (tgt := 30) hx hb dX2_sort_26 (by decide) ?_
      exact xr_i hx hb hr hlk dX2_sort_30 (by simp [aSort, c_1, c_2])
set_option maxHeartbeats 4000000 in
set_option maxRecDepth 100000 in
theorem c_X2_quarters (l : Launch) (D : va_G) (a : Nat → Nat) (cI cZ : ClassId) (v : Nat → Nat → Int32) (G : Nat → Option GT) (dn lt ch gn : Int32) (w x : Int32) : Met l yX2_quarters wsX2_quarters ({ frames := 2, cells := 0, slots := 0, locals := 42 }) (xR D vwCl (mb a cI cZ v G dn lt ch gn) (mT cI cZ) xB0 [.ref (a 0), .int w, .int x]) (QcRead (aQuar v w x)) 0 0 (fun _ => False) := by
  refine xr_in (cc := cX2_quarters) (maxL := 3) (ret := (some .int)) (by decide) rfl (Nat.le_of_ble_eq_true rfl) ?_
  intro p e s m below meth c ls hx hb hr hml hts hown hlk hP hK hB hl
  have hown : s.vm.findClass RX2 = some m.cls := hown
  have hl : lv_has ls 3 [(0, .ref (a 0)), (1, .int w), (2, .int x)] := hl
  have hiF : ∀ w ∈ wsX20, w ∈ wsX2_quarters := by decide +kernel
  refine lv_iload_n hx hb dX2_quarters_0 rfl (lv_at hl 1 rfl) ?_
  refine lv_iconst (v := 0) hx hb dX2_quarters_1 (by decide) ?_
  refine lv_iconst (v := 1) hx hb dX2_quarters_2 (by decide) ?_
  refine xc_T (As := [.int w, .int 0, .int 1]) (rest := []) ⟨hx, hb, hml, hown, hts⟩ (c_X2_in l w 0 1) (va_cwS 3 hts gX2_quarters_X2_in rfl rfl rfl (by decide +kernel) ⟨Nat.le_of_ble_eq_true rfl, Nat.le_of_ble_eq_true rfl⟩) rfl hl.1 rfl (Nat.le_of_ble_eq_true rfl) dX2_quarters_3 ⟨Nat.zero_le _, Nat.zero_le _⟩ ?_
  rw [in01]
  refine lv_if_eq (tgt := 29) hx hb dX2_quarters_6 (by decide) (fun c_1 => ?_) (fun c_1 => ?_)
  · have c_1 := b2i_e c_1
    refine lv_iconst (v := 0) hx hb dX2_quarters_29 (by decide) ?_
    exact xr_i hx hb hr hlk dX2_quarters_30 (by simp [aQuar, c_1])
  · have c_1 := b2i_n c_1
    refine lv_iload_n hx hb dX2_quarters_9 rfl (lv_at hl 2 rfl) ?_
    refine xc_T (As := [.int x]) (rest := []) ⟨hx, hb, hml, hown, hts⟩ (c_X2_isStringOrFork l x) (va_cwS 1 hts gX2_quarters_X2_isStringOrFork rfl rfl rfl (by decide +kernel) ⟨Nat.le_of_ble_eq_true rfl, Nat.le_of_ble_eq_true rfl⟩) rfl hl.1 rfl (Nat.le_of_ble_eq_true rfl) dX2_quarters_10 ⟨Nat.zero_le _, Nat.zero_le _⟩ ?_
    refine lv_if_eq (tgt := 29) hx hb dX2_quarters_13 (by decide) (fun c_2 => ?_) (fun c_2 => ?_)
    · have c_2 := b2i_e c_2
      refine lv_iconst (v := 0) hx hb dX2_quarters_29 (by decide) ?_
      exact xr_i hx hb hr hlk dX2_quarters_30 (by simp [aQuar, c_1, c_2])
    · have c_2 := b2i_n c_2
      refine lv_aload_n hx hb dX2_quarters_16 rfl (lv_at hl 0 rfl) ?_
      refine va_get (D := D) (ci := 2) (v := .ref (a 2)) (C := RX2) (T := TX2) (N := 14) hx hb hts hiF hown hK hP 0 rfl rfl 1 (by decide) (hts (.fieldLink RX2 13 "TunerBenchModel" "quarters" "[I") (by decide +kernel)) (fun _ h9 => h9) rfl dX2_quarters_17 ?_
      refine lv_iload_n hx hb dX2_quarters_20 rfl (lv_at hl 1 rfl) ?_
      refine lv_iload_n hx hb dX2_quarters_21 rfl (lv_at hl 2 rfl) ?_
      refine xc_T (As := [.int w, .int x]) (rest := [.ref (a 2)]) ⟨hx, hb, hml, hown, hts⟩ (c_X2_at l w x) (va_cwS 2 hts gX2_quarters_X2_at rfl rfl rfl (by decide +kernel) ⟨Nat.le_of_ble_eq_true rfl, Nat.le_of_ble_eq_true rfl⟩) rfl hl.1 rfl (Nat.le_of_ble_eq_true rfl) dX2_quarters_22 ⟨Nat.zero_le _, Nat.zero_le _⟩ ?_
      refine va_iald (D := D) hx hb hK hP 2 0 rfl rfl (at_in (isW_in c_1) (isF_in c_2)) dX2_quarters_25 ?_
      rw [at_cn (isW_in c_1) (isF_in c_2), mqu_at v (vp_lt (isF_in c_2))]
      refine lv_goto (tgt := 30) hx hb dX2_quarters_26 (by decide) ?_
      exact xr_i hx hb hr hlk dX2_quarters_30 (by simp [aQuar, c_1, c_2])
set_option maxHeartbeats 4000000 in
set_option maxRecDepth 100000 in
theorem c_X2_pick (l : Launch) (D : va_G) (a : Nat → Nat) (cI cZ : ClassId) (v : Nat → Nat → Int32) (G : Nat → Option GT) (dn lt ch gn : Int32) (w h x y : Int32) (okv : ∀ i j : Nat, okV (v i j)) : Met l yX2_pick wsX2_pick ({ frames := 3, cells := 0, slots := 0, locals := 73 }) (xR D vwCl (mb a cI cZ v G dn lt ch gn) (mT cI cZ) xB0 [.ref (a 0), .int w, .int h, .int x, .int y]) (QcRead (aPick v w h x y)) 0 0 (fun _ => False) := by
  refine xr_in (cc := cX2_pick) (maxL := 5) (ret := (some .int)) (by decide) rfl (Nat.le_of_ble_eq_true rfl) ?_
  intro p e s m below meth c ls hx hb hr hml hts hown hlk hP hK hB hl
  have hown : s.vm.findClass RX2 = some m.cls := hown
  have hl : lv_has ls 5 [(0, .ref (a 0)), (1, .int w), (2, .int h), (3, .int x), (4, .int y)] := hl
  have hiF : ∀ w ∈ wsX20, w ∈ wsX2_pick := by decide +kernel
  refine lv_iload_n hx hb dX2_pick_0 rfl (lv_at hl 1 rfl) ?_
  refine lv_iload_n hx hb dX2_pick_1 rfl (lv_at hl 2 rfl) ?_
  refine xc_T (As := [.int w, .int h]) (rest := []) ⟨hx, hb, hml, hown, hts⟩ (c_X2_isAsked l w h) (va_cwS 2 hts gX2_pick_X2_isAsked rfl rfl rfl (by decide +kernel) ⟨Nat.le_of_ble_eq_true rfl, Nat.le_of_ble_eq_true rfl⟩) rfl hl.1 rfl (Nat.le_of_ble_eq_true rfl) dX2_pick_2 ⟨Nat.zero_le _, Nat.zero_le _⟩ ?_
  refine lv_if_eq (tgt := 23) hx hb dX2_pick_5 (by decide) (fun c_1 => ?_) (fun c_1 => ?_)
  · have c_1 := b2i_e c_1
    refine lv_iconst (v := -1) hx hb dX2_pick_23 (by decide) ?_
    exact xr_i hx hb hr hlk dX2_pick_24 (by simp [aPick, qB, c_1])
  · have c_1 := b2i_n c_1
    refine lv_iload_n hx hb dX2_pick_8 rfl (lv_at hl 3 rfl) ?_
    refine xc_T (As := [.int x]) (rest := []) ⟨hx, hb, hml, hown, hts⟩ (c_X2_isStringOrFork l x) (va_cwS 1 hts gX2_pick_X2_isStringOrFork rfl rfl rfl (by decide +kernel) ⟨Nat.le_of_ble_eq_true rfl, Nat.le_of_ble_eq_true rfl⟩) rfl hl.1 rfl (Nat.le_of_ble_eq_true rfl) dX2_pick_9 ⟨Nat.zero_le _, Nat.zero_le _⟩ ?_
    refine lv_if_eq (tgt := 23) hx hb dX2_pick_12 (by decide) (fun c_2 => ?_) (fun c_2 => ?_)
    · have c_2 := b2i_e c_2
      refine lv_iconst (v := -1) hx hb dX2_pick_23 (by decide) ?_
      exact xr_i hx hb hr hlk dX2_pick_24 (by simp [aPick, qB, c_1, c_2])
    · have c_2 := b2i_n c_2
      refine lv_iload hx hb dX2_pick_15 (lv_at hl 4 rfl) ?_
      refine xc_T (As := [.int y]) (rest := []) ⟨hx, hb, hml, hown, hts⟩ (c_X2_isStringOrFork l y) (va_cwS 1 hts gX2_pick_X2_isStringOrFork rfl rfl rfl (by decide +kernel) ⟨Nat.le_of_ble_eq_true rfl, Nat.le_of_ble_eq_true rfl⟩) rfl hl.1 rfl (Nat.le_of_ble_eq_true rfl) dX2_pick_17 ⟨Nat.zero_le _, Nat.zero_le _⟩ ?_
      refine lv_if_ne (tgt := 25) hx hb dX2_pick_20 (by decide) (fun c_3 => ?_) (fun c_3 => ?_)
      · have c_3 := b2i_n c_3
        refine lv_aload_n hx hb dX2_pick_25 rfl (lv_at hl 0 rfl) ?_
        refine lv_iload_n hx hb dX2_pick_26 rfl (lv_at hl 1 rfl) ?_
        refine lv_iload_n hx hb dX2_pick_27 rfl (lv_at hl 2 rfl) ?_
        refine lv_iload_n hx hb dX2_pick_28 rfl (lv_at hl 3 rfl) ?_
        refine lv_iload hx hb dX2_pick_29 (lv_at hl 4 rfl) ?_
        refine xc_R (As := [.int w, .int h, .int x, .int y]) (rest := []) ⟨hx, hb, hml, hown, hts⟩ (c_X2_stands l D a cI cZ v G dn lt ch gn w h x y (isQ_w c_1) (isF_in c_2) (isF_in c_3) (isQ_h c_1) okv) (cwV 4 hts gX2_pick_X2_stands rfl rfl rfl (by decide +kernel) ⟨Nat.le_of_ble_eq_true rfl, Nat.le_of_ble_eq_true rfl⟩) xMv0 trivial hP hK (va_recv hK hP (ci := 2) (q0 := 0) rfl rfl) rfl hl.1 rfl (Nat.le_of_ble_eq_true rfl) dX2_pick_31 ⟨Nat.zero_le _, Nat.zero_le _⟩ ?_
        refine lv_if_eq (tgt := 41) hx hb dX2_pick_34 (by decide) (fun c_4 => ?_) (fun c_4 => ?_)
        · have c_4 := b2i_e c_4
          refine lv_iload hx hb dX2_pick_41 (lv_at hl 4 rfl) ?_
          exact xr_i hx hb hr hlk dX2_pick_43 (by simp [aPick, qB, c_1, c_2, c_3, c_4])
        · have c_4 := b2i_n c_4
          refine lv_iload_n hx hb dX2_pick_37 rfl (lv_at hl 3 rfl) ?_
          refine lv_goto (tgt := 43) hx hb dX2_pick_38 (by decide) ?_
          exact xr_i hx hb hr hlk dX2_pick_43 (by simp [aPick, qB, c_1, c_2, c_3, c_4])
      · have c_3 := b2i_e c_3
        refine lv_iconst (v := -1) hx hb dX2_pick_23 (by decide) ?_
        exact xr_i hx hb hr hlk dX2_pick_24 (by simp [aPick, qB, c_1, c_2, c_3])
set_option maxHeartbeats 4000000 in
set_option maxRecDepth 100000 in
theorem c_X2_holds (l : Launch) (D : va_G) (a : Nat → Nat) (cI cZ : ClassId) (v : Nat → Nat → Int32) (G : Nat → Option GT) (dn lt ch gn : Int32) (sz : Nat) (w h x y : Int32) (okv : ∀ i j : Nat, okV (v i j)) : Met l yX2_holds wsX2_holds ({ frames := 3, cells := 0, slots := 0, locals := 73 }) (xW D vwCl (mb a cI cZ v G dn lt ch gn) (mT cI cZ) xB0 sz [.ref (a 0), .int w, .int h, .int x, .int y]) (xQ (S := Unit) D vwCl (fun r _ => r = aHold v w h x y) (fun _ => mb a cI cZ v G dn (nHold v lt w h x y) ch gn) (fun _ => mT cI cZ) (va_A (mb a cI cZ v G dn lt ch gn) sz)) 0 0 (va_A (mb a cI cZ v G dn lt ch gn) sz) := by
  refine xw_in (Qf := xQ (S := Unit) D vwCl (fun r _ => r = aHold v w h x y) (fun _ => mb a cI cZ v G dn (nHold v lt w h x y) ch gn) (fun _ => mT cI cZ)) (cc := cX2_holds) (maxL := 5) (ret := (some .int)) (by decide) rfl (Nat.le_of_ble_eq_true rfl) ?_
  intro p e s m below meth c ls A hx hb hr hml hts hown hlk hnm hA hP hK hD hS hB hl
  have hown : s.vm.findClass RX2 = some m.cls := hown
  have hl : lv_has ls 5 [(0, .ref (a 0)), (1, .int w), (2, .int h), (3, .int x), (4, .int y)] := hl
  have hiF : ∀ w ∈ wsX20, w ∈ wsX2_holds := by decide +kernel
  refine lv_iload_n hx hb dX2_holds_0 rfl (lv_at hl 1 rfl) ?_
  refine lv_iload_n hx hb dX2_holds_1 rfl (lv_at hl 2 rfl) ?_
  refine xc_T (As := [.int w, .int h]) (rest := []) ⟨hx, hb, hml, hown, hts⟩ (c_X2_isAsked l w h) (va_cwS 2 hts gX2_holds_X2_isAsked rfl rfl rfl (by decide +kernel) ⟨Nat.le_of_ble_eq_true rfl, Nat.le_of_ble_eq_true rfl⟩) rfl hl.1 rfl (Nat.le_of_ble_eq_true rfl) dX2_holds_2 ⟨Nat.zero_le _, Nat.zero_le _⟩ ?_
  refine lv_if_eq (tgt := 23) hx hb dX2_holds_5 (by decide) (fun c_1 => ?_) (fun c_1 => ?_)
  · have c_1 := b2i_e c_1
    refine lv_iconst (v := -1) hx hb dX2_holds_23 (by decide) ?_
    have e_lt : lt = nHold v lt w h x y := by simp [aHold, nHold, qB, b2i, c_1]
    rw [e_lt] at hP hD
    exact xw_i (S := Unit) () hx hb hr hlk dX2_holds_24 hP hK hD hS (by simp [aHold, nHold, qB, b2i, b2i, c_1])
  · have c_1 := b2i_n c_1
    refine lv_iload_n hx hb dX2_holds_8 rfl (lv_at hl 3 rfl) ?_
    refine xc_T (As := [.int x]) (rest := []) ⟨hx, hb, hml, hown, hts⟩ (c_X2_isStringOrFork l x) (va_cwS 1 hts gX2_holds_X2_isStringOrFork rfl rfl rfl (by decide +kernel) ⟨Nat.le_of_ble_eq_true rfl, Nat.le_of_ble_eq_true rfl⟩) rfl hl.1 rfl (Nat.le_of_ble_eq_true rfl) dX2_holds_9 ⟨Nat.zero_le _, Nat.zero_le _⟩ ?_
    refine lv_if_eq (tgt := 23) hx hb dX2_holds_12 (by decide) (fun c_2 => ?_) (fun c_2 => ?_)
    · have c_2 := b2i_e c_2
      refine lv_iconst (v := -1) hx hb dX2_holds_23 (by decide) ?_
      have e_lt : lt = nHold v lt w h x y := by simp [aHold, nHold, qB, b2i, c_1, c_2]
      rw [e_lt] at hP hD
      exact xw_i (S := Unit) () hx hb hr hlk dX2_holds_24 hP hK hD hS (by simp [aHold, nHold, qB, b2i, b2i, c_1, c_2])
    · have c_2 := b2i_n c_2
      refine lv_iload hx hb dX2_holds_15 (lv_at hl 4 rfl) ?_
      refine xc_T (As := [.int y]) (rest := []) ⟨hx, hb, hml, hown, hts⟩ (c_X2_isStringOrFork l y) (va_cwS 1 hts gX2_holds_X2_isStringOrFork rfl rfl rfl (by decide +kernel) ⟨Nat.le_of_ble_eq_true rfl, Nat.le_of_ble_eq_true rfl⟩) rfl hl.1 rfl (Nat.le_of_ble_eq_true rfl) dX2_holds_17 ⟨Nat.zero_le _, Nat.zero_le _⟩ ?_
      refine lv_if_ne (tgt := 25) hx hb dX2_holds_20 (by decide) (fun c_3 => ?_) (fun c_3 => ?_)
      · have c_3 := b2i_n c_3
        refine lv_aload_n hx hb dX2_holds_25 rfl (lv_at hl 0 rfl) ?_
        refine lv_aload_n hx hb dX2_holds_26 rfl (lv_at hl 0 rfl) ?_
        refine lv_iload_n hx hb dX2_holds_27 rfl (lv_at hl 1 rfl) ?_
        refine lv_iload_n hx hb dX2_holds_28 rfl (lv_at hl 2 rfl) ?_
        refine lv_iload_n hx hb dX2_holds_29 rfl (lv_at hl 3 rfl) ?_
        refine lv_iload hx hb dX2_holds_30 (lv_at hl 4 rfl) ?_
        refine xc_R (As := [.int w, .int h, .int x, .int y]) (rest := [.ref (a 0)]) ⟨hx, hb, hml, hown, hts⟩ (c_X2_stands l D a cI cZ v G dn lt ch gn w h x y (isQ_w c_1) (isF_in c_2) (isF_in c_3) (isQ_h c_1) okv) (cwV 4 hts gX2_holds_X2_stands rfl rfl rfl (by decide +kernel) ⟨Nat.le_of_ble_eq_true rfl, Nat.le_of_ble_eq_true rfl⟩) xMv0 trivial hP hK (va_recv hK hP (ci := 2) (q0 := 0) rfl rfl) rfl hl.1 rfl (Nat.le_of_ble_eq_true rfl) dX2_holds_32 ⟨Nat.zero_le _, Nat.zero_le _⟩ ?_
        refine lv_if_eq (tgt := 42) hx hb dX2_holds_35 (by decide) (fun c_4 => ?_) (fun c_4 => ?_)
        · have c_4 := b2i_e c_4
          refine lv_iconst (v := 0) hx hb dX2_holds_42 (by decide) ?_
          refine va_put (D := D) (ci := 2) (v := .int 0) (ty := .int) (C := RX2) (T := TX2) (N := 14) hx hb hts hiF tyX2 tyX2_ok nmX2 hown hK hP hD hS 0 rfl rfl 3 (by decide) (hts (.fieldLink RX2 16 "TunerBenchModel" "latest" "I") (by decide +kernel)) (fun _ h9 => h9) rfl (by decide +kernel) rfl rfl (Nat.le_of_ble_eq_true rfl) dX2_holds_43 (fun H locs hP hD hS => ?_)
          have hP : va_P D vwCl (mb a cI cZ v G dn 0 ch gn) H := hP
          have hD : va_D A (mb a cI cZ v G dn 0 ch gn) := hD
          refine lv_aload_n hx hb dX2_holds_46 rfl (lv_at hl 0 rfl) ?_
          refine va_get (D := D) (ci := 2) (v := .int 0) (C := RX2) (T := TX2) (N := 14) hx hb hts hiF hown hK hP 0 rfl rfl 3 (by decide) (hts (.fieldLink RX2 16 "TunerBenchModel" "latest" "I") (by decide +kernel)) (fun _ h9 => h9) rfl dX2_holds_47 ?_
          have e_lt : 0 = nHold v lt w h x y := by simp [aHold, nHold, qB, b2i, c_1, c_2, c_3, c_4]
          rw [e_lt] at hP hD
          exact xw_i (S := Unit) () hx hb hr hlk dX2_holds_50 hP hK hD hS (by simp [aHold, nHold, qB, b2i, b2i, c_1, c_2, c_3, c_4])
        · have c_4 := b2i_n c_4
          refine lv_iconst (v := 1) hx hb dX2_holds_38 (by decide) ?_
          refine lv_goto (tgt := 43) hx hb dX2_holds_39 (by decide) ?_
          refine va_put (D := D) (ci := 2) (v := .int 1) (ty := .int) (C := RX2) (T := TX2) (N := 14) hx hb hts hiF tyX2 tyX2_ok nmX2 hown hK hP hD hS 0 rfl rfl 3 (by decide) (hts (.fieldLink RX2 16 "TunerBenchModel" "latest" "I") (by decide +kernel)) (fun _ h9 => h9) rfl (by decide +kernel) rfl rfl (Nat.le_of_ble_eq_true rfl) dX2_holds_43 (fun H locs hP hD hS => ?_)
          have hP : va_P D vwCl (mb a cI cZ v G dn 1 ch gn) H := hP
          have hD : va_D A (mb a cI cZ v G dn 1 ch gn) := hD
          refine lv_aload_n hx hb dX2_holds_46 rfl (lv_at hl 0 rfl) ?_
          refine va_get (D := D) (ci := 2) (v := .int 1) (C := RX2) (T := TX2) (N := 14) hx hb hts hiF hown hK hP 0 rfl rfl 3 (by decide) (hts (.fieldLink RX2 16 "TunerBenchModel" "latest" "I") (by decide +kernel)) (fun _ h9 => h9) rfl dX2_holds_47 ?_
          have e_lt : 1 = nHold v lt w h x y := by simp [aHold, nHold, qB, b2i, c_1, c_2, c_3, c_4]
          rw [e_lt] at hP hD
          exact xw_i (S := Unit) () hx hb hr hlk dX2_holds_50 hP hK hD hS (by simp [aHold, nHold, qB, b2i, b2i, c_1, c_2, c_3, c_4])
      · have c_3 := b2i_e c_3
        refine lv_iconst (v := -1) hx hb dX2_holds_23 (by decide) ?_
        have e_lt : lt = nHold v lt w h x y := by simp [aHold, nHold, qB, b2i, c_1, c_2, c_3]
        rw [e_lt] at hP hD
        exact xw_i (S := Unit) () hx hb hr hlk dX2_holds_24 hP hK hD hS (by simp [aHold, nHold, qB, b2i, b2i, c_1, c_2, c_3])
set_option maxHeartbeats 4000000 in
set_option maxRecDepth 100000 in
theorem c_X2_denies (l : Launch) (D : va_G) (a : Nat → Nat) (cI cZ : ClassId) (v : Nat → Nat → Int32) (G : Nat → Option GT) (dn lt ch gn : Int32) (sz : Nat) (w h x y : Int32) (okv : ∀ i j : Nat, okV (v i j)) : Met l yX2_denies wsX2_denies ({ frames := 3, cells := 0, slots := 0, locals := 73 }) (xW D vwCl (mb a cI cZ v G dn lt ch gn) (mT cI cZ) xB0 sz [.ref (a 0), .int w, .int h, .int x, .int y]) (xQ (S := Unit) D vwCl (fun r _ => r = aDeny v w h x y) (fun _ => mb a cI cZ v G (nDeny v dn w h x y) lt ch gn) (fun _ => mT cI cZ) (va_A (mb a cI cZ v G dn lt ch gn) sz)) 0 0 (va_A (mb a cI cZ v G dn lt ch gn) sz) := by
  refine xw_in (Qf := xQ (S := Unit) D vwCl (fun r _ => r = aDeny v w h x y) (fun _ => mb a cI cZ v G (nDeny v dn w h x y) lt ch gn) (fun _ => mT cI cZ)) (cc := cX2_denies) (maxL := 5) (ret := (some .int)) (by decide) rfl (Nat.le_of_ble_eq_true rfl) ?_
  intro p e s m below meth c ls A hx hb hr hml hts hown hlk hnm hA hP hK hD hS hB hl
  have hown : s.vm.findClass RX2 = some m.cls := hown
  have hl : lv_has ls 5 [(0, .ref (a 0)), (1, .int w), (2, .int h), (3, .int x), (4, .int y)] := hl
  have hiF : ∀ w ∈ wsX20, w ∈ wsX2_denies := by decide +kernel
  refine lv_iload_n hx hb dX2_denies_0 rfl (lv_at hl 1 rfl) ?_
  refine lv_iload_n hx hb dX2_denies_1 rfl (lv_at hl 2 rfl) ?_
  refine xc_T (As := [.int w, .int h]) (rest := []) ⟨hx, hb, hml, hown, hts⟩ (c_X2_isAsked l w h) (va_cwS 2 hts gX2_denies_X2_isAsked rfl rfl rfl (by decide +kernel) ⟨Nat.le_of_ble_eq_true rfl, Nat.le_of_ble_eq_true rfl⟩) rfl hl.1 rfl (Nat.le_of_ble_eq_true rfl) dX2_denies_2 ⟨Nat.zero_le _, Nat.zero_le _⟩ ?_
  refine lv_if_eq (tgt := 23) hx hb dX2_denies_5 (by decide) (fun c_1 => ?_) (fun c_1 => ?_)
  · have c_1 := b2i_e c_1
    refine lv_iconst (v := -1) hx hb dX2_denies_23 (by decide) ?_
    have e_dn : dn = nDeny v dn w h x y := by simp [aDeny, nDeny, qB, c_1]
    rw [e_dn] at hP hD
    exact xw_i (S := Unit) () hx hb hr hlk dX2_denies_24 hP hK hD hS (by simp [aDeny, nDeny, qB, b2i, c_1])
  · have c_1 := b2i_n c_1
    refine lv_iload_n hx hb dX2_denies_8 rfl (lv_at hl 3 rfl) ?_
    refine xc_T (As := [.int x]) (rest := []) ⟨hx, hb, hml, hown, hts⟩ (c_X2_isStringOrFork l x) (va_cwS 1 hts gX2_denies_X2_isStringOrFork rfl rfl rfl (by decide +kernel) ⟨Nat.le_of_ble_eq_true rfl, Nat.le_of_ble_eq_true rfl⟩) rfl hl.1 rfl (Nat.le_of_ble_eq_true rfl) dX2_denies_9 ⟨Nat.zero_le _, Nat.zero_le _⟩ ?_
    refine lv_if_eq (tgt := 23) hx hb dX2_denies_12 (by decide) (fun c_2 => ?_) (fun c_2 => ?_)
    · have c_2 := b2i_e c_2
      refine lv_iconst (v := -1) hx hb dX2_denies_23 (by decide) ?_
      have e_dn : dn = nDeny v dn w h x y := by simp [aDeny, nDeny, qB, c_1, c_2]
      rw [e_dn] at hP hD
      exact xw_i (S := Unit) () hx hb hr hlk dX2_denies_24 hP hK hD hS (by simp [aDeny, nDeny, qB, b2i, c_1, c_2])
    · have c_2 := b2i_n c_2
      refine lv_iload hx hb dX2_denies_15 (lv_at hl 4 rfl) ?_
      refine xc_T (As := [.int y]) (rest := []) ⟨hx, hb, hml, hown, hts⟩ (c_X2_isStringOrFork l y) (va_cwS 1 hts gX2_denies_X2_isStringOrFork rfl rfl rfl (by decide +kernel) ⟨Nat.le_of_ble_eq_true rfl, Nat.le_of_ble_eq_true rfl⟩) rfl hl.1 rfl (Nat.le_of_ble_eq_true rfl) dX2_denies_17 ⟨Nat.zero_le _, Nat.zero_le _⟩ ?_
      refine lv_if_ne (tgt := 25) hx hb dX2_denies_20 (by decide) (fun c_3 => ?_) (fun c_3 => ?_)
      · have c_3 := b2i_n c_3
        refine lv_aload_n hx hb dX2_denies_25 rfl (lv_at hl 0 rfl) ?_
        refine lv_iload_n hx hb dX2_denies_26 rfl (lv_at hl 1 rfl) ?_
        refine lv_iload_n hx hb dX2_denies_27 rfl (lv_at hl 2 rfl) ?_
        refine lv_iload_n hx hb dX2_denies_28 rfl (lv_at hl 3 rfl) ?_
        refine lv_iload hx hb dX2_denies_29 (lv_at hl 4 rfl) ?_
        refine xc_R (As := [.int w, .int h, .int x, .int y]) (rest := []) ⟨hx, hb, hml, hown, hts⟩ (c_X2_stands l D a cI cZ v G dn lt ch gn w h x y (isQ_w c_1) (isF_in c_2) (isF_in c_3) (isQ_h c_1) okv) (cwV 4 hts gX2_denies_X2_stands rfl rfl rfl (by decide +kernel) ⟨Nat.le_of_ble_eq_true rfl, Nat.le_of_ble_eq_true rfl⟩) xMv0 trivial hP hK (va_recv hK hP (ci := 2) (q0 := 0) rfl rfl) rfl hl.1 rfl (Nat.le_of_ble_eq_true rfl) dX2_denies_31 ⟨Nat.zero_le _, Nat.zero_le _⟩ ?_
        refine lv_if_eq (tgt := 39) hx hb dX2_denies_34 (by decide) (fun c_4 => ?_) (fun c_4 => ?_)
        · have c_4 := b2i_e c_4
          refine lv_aload_n hx hb dX2_denies_39 rfl (lv_at hl 0 rfl) ?_
          refine lv_dup hx hb dX2_denies_40 rfl ?_
          refine va_get (D := D) (ci := 2) (v := .int dn) (C := RX2) (T := TX2) (N := 14) hx hb hts hiF hown hK hP 0 rfl rfl 2 (by decide) (hts (.fieldLink RX2 76 "TunerBenchModel" "denials" "I") (by decide +kernel)) (fun _ h9 => h9) rfl dX2_denies_41 ?_
          refine lv_iconst (v := 1) hx hb dX2_denies_44 (by decide) ?_
          refine lv_iadd hx hb dX2_denies_45 ?_
          refine va_put (D := D) (ci := 2) (v := .int (dn + 1)) (ty := .int) (C := RX2) (T := TX2) (N := 14) hx hb hts hiF tyX2 tyX2_ok nmX2 hown hK hP hD hS 0 rfl rfl 2 (by decide) (hts (.fieldLink RX2 76 "TunerBenchModel" "denials" "I") (by decide +kernel)) (fun _ h9 => h9) rfl (by decide +kernel) rfl rfl (Nat.le_of_ble_eq_true rfl) dX2_denies_46 (fun H locs hP hD hS => ?_)
          have hP : va_P D vwCl (mb a cI cZ v G (dn + 1) lt ch gn) H := hP
          have hD : va_D A (mb a cI cZ v G (dn + 1) lt ch gn) := hD
          refine lv_iconst (v := 1) hx hb dX2_denies_49 (by decide) ?_
          have e_dn : dn + 1 = nDeny v dn w h x y := by simp [aDeny, nDeny, qB, c_1, c_2, c_3, c_4]
          rw [e_dn] at hP hD
          exact xw_i (S := Unit) () hx hb hr hlk dX2_denies_50 hP hK hD hS (by simp [aDeny, nDeny, qB, b2i, c_1, c_2, c_3, c_4])
        · have c_4 := b2i_n c_4
          refine lv_iconst (v := 0) hx hb dX2_denies_37 (by decide) ?_
          have e_dn : dn = nDeny v dn w h x y := by simp [aDeny, nDeny, qB, c_1, c_2, c_3, c_4]
          rw [e_dn] at hP hD
          exact xw_i (S := Unit) () hx hb hr hlk dX2_denies_38 hP hK hD hS (by simp [aDeny, nDeny, qB, b2i, c_1, c_2, c_3, c_4])
      · have c_3 := b2i_e c_3
        refine lv_iconst (v := -1) hx hb dX2_denies_23 (by decide) ?_
        have e_dn : dn = nDeny v dn w h x y := by simp [aDeny, nDeny, qB, c_1, c_2, c_3]
        rw [e_dn] at hP hD
        exact xw_i (S := Unit) () hx hb hr hlk dX2_denies_24 hP hK hD hS (by simp [aDeny, nDeny, qB, b2i, c_1, c_2, c_3])
set_option maxHeartbeats 4000000 in
set_option maxRecDepth 100000 in
theorem c_X2_put (l : Launch) (D : va_G) (a : Nat → Nat) (cI cZ : ClassId) (v : Nat → Nat → Int32) (G : Nat → Option GT) (dn lt ch gn : Int32) (sz : Nat) (w x so q : Int32) : Met l yX2_put wsX2_put ({ frames := 2, cells := 0, slots := 0, locals := 42 }) (xW D vwCl (mb a cI cZ v G dn lt ch gn) (mT cI cZ) xB0 sz [.ref (a 0), .int w, .int x, .int so, .int q]) (xQ (S := Unit) D vwCl (fun r _ => r = b2i (aPut w x so q)) (fun _ => mb a cI cZ (nPut v w x so q) G dn lt ch gn) (fun _ => mT cI cZ) (va_A (mb a cI cZ v G dn lt ch gn) sz)) 0 0 (va_A (mb a cI cZ v G dn lt ch gn) sz) := by
  refine xw_in (Qf := xQ (S := Unit) D vwCl (fun r _ => r = b2i (aPut w x so q)) (fun _ => mb a cI cZ (nPut v w x so q) G dn lt ch gn) (fun _ => mT cI cZ)) (cc := cX2_put) (maxL := 5) (ret := (some .boolean)) (by decide) rfl (Nat.le_of_ble_eq_true rfl) ?_
  intro p e s m below meth c ls A hx hb hr hml hts hown hlk hnm hA hP hK hD hS hB hl
  have hown : s.vm.findClass RX2 = some m.cls := hown
  have hl : lv_has ls 5 [(0, .ref (a 0)), (1, .int w), (2, .int x), (3, .int so), (4, .int q)] := hl
  have hiF : ∀ w ∈ wsX20, w ∈ wsX2_put := by decide +kernel
  refine lv_iload_n hx hb dX2_put_0 rfl (lv_at hl 1 rfl) ?_
  refine lv_iconst (v := 0) hx hb dX2_put_1 (by decide) ?_
  refine lv_iconst (v := 1) hx hb dX2_put_2 (by decide) ?_
  refine xc_T (As := [.int w, .int 0, .int 1]) (rest := []) ⟨hx, hb, hml, hown, hts⟩ (c_X2_in l w 0 1) (va_cwS 3 hts gX2_put_X2_in rfl rfl rfl (by decide +kernel) ⟨Nat.le_of_ble_eq_true rfl, Nat.le_of_ble_eq_true rfl⟩) rfl hl.1 rfl (Nat.le_of_ble_eq_true rfl) dX2_put_3 ⟨Nat.zero_le _, Nat.zero_le _⟩ ?_
  rw [in01]
  refine lv_if_eq (tgt := 25) hx hb dX2_put_6 (by decide) (fun c_1 => ?_) (fun c_1 => ?_)
  · have c_1 := b2i_e c_1
    refine lv_iconst (v := 0) hx hb dX2_put_25 (by decide) ?_
    have e_v : v = nPut v w x so q := by simp [nPut, aPut, isV_in, show inB 0 0 4 = true by decide, c_1]
    rw [e_v] at hP hD
    exact xw_z (S := Unit) () hx hb hr hlk dX2_put_26 (by decide) hP hK hD hS (by simp [aPut, isV_in, b2i, show inB 0 0 4 = true by decide, c_1])
  · have c_1 := b2i_n c_1
    refine lv_iload_n hx hb dX2_put_9 rfl (lv_at hl 2 rfl) ?_
    refine xc_T (As := [.int x]) (rest := []) ⟨hx, hb, hml, hown, hts⟩ (c_X2_isStringOrFork l x) (va_cwS 1 hts gX2_put_X2_isStringOrFork rfl rfl rfl (by decide +kernel) ⟨Nat.le_of_ble_eq_true rfl, Nat.le_of_ble_eq_true rfl⟩) rfl hl.1 rfl (Nat.le_of_ble_eq_true rfl) dX2_put_10 ⟨Nat.zero_le _, Nat.zero_le _⟩ ?_
    refine lv_if_eq (tgt := 25) hx hb dX2_put_13 (by decide) (fun c_2 => ?_) (fun c_2 => ?_)
    · have c_2 := b2i_e c_2
      refine lv_iconst (v := 0) hx hb dX2_put_25 (by decide) ?_
      have e_v : v = nPut v w x so q := by simp [nPut, aPut, isV_in, show inB 0 0 4 = true by decide, c_1, c_2]
      rw [e_v] at hP hD
      exact xw_z (S := Unit) () hx hb hr hlk dX2_put_26 (by decide) hP hK hD hS (by simp [aPut, isV_in, b2i, show inB 0 0 4 = true by decide, c_1, c_2])
    · have c_2 := b2i_n c_2
      refine lv_iload_n hx hb dX2_put_16 rfl (lv_at hl 3 rfl) ?_
      refine lv_iconst (v := 0) hx hb dX2_put_17 (by decide) ?_
      refine lv_iconst (v := 4) hx hb dX2_put_18 (by decide) ?_
      refine xc_T (As := [.int so, .int 0, .int 4]) (rest := []) ⟨hx, hb, hml, hown, hts⟩ (c_X2_in l so 0 4) (va_cwS 3 hts gX2_put_X2_in rfl rfl rfl (by decide +kernel) ⟨Nat.le_of_ble_eq_true rfl, Nat.le_of_ble_eq_true rfl⟩) rfl hl.1 rfl (Nat.le_of_ble_eq_true rfl) dX2_put_19 ⟨Nat.zero_le _, Nat.zero_le _⟩ ?_
      refine lv_if_ne (tgt := 27) hx hb dX2_put_22 (by decide) (fun c_3 => ?_) (fun c_3 => ?_)
      · have c_3 := b2i_n c_3
        refine lv_iload_n hx hb dX2_put_27 rfl (lv_at hl 3 rfl) ?_
        refine lv_if_ne (tgt := 45) hx hb dX2_put_28 (by decide) (fun c_4 => ?_) (fun c_4 => ?_)
        · refine lv_aload_n hx hb dX2_put_45 rfl (lv_at hl 0 rfl) ?_
          refine va_get (D := D) (ci := 2) (v := .ref (a 1)) (C := RX2) (T := TX2) (N := 14) hx hb hts hiF hown hK hP 0 rfl rfl 0 (by decide) (hts (.fieldLink RX2 7 "TunerBenchModel" "sorts" "[I") (by decide +kernel)) (fun _ h9 => h9) rfl dX2_put_46 ?_
          refine lv_iload_n hx hb dX2_put_49 rfl (lv_at hl 1 rfl) ?_
          refine lv_iload_n hx hb dX2_put_50 rfl (lv_at hl 2 rfl) ?_
          refine xc_T (As := [.int w, .int x]) (rest := [.ref (a 1)]) ⟨hx, hb, hml, hown, hts⟩ (c_X2_at l w x) (va_cwS 2 hts gX2_put_X2_at rfl rfl rfl (by decide +kernel) ⟨Nat.le_of_ble_eq_true rfl, Nat.le_of_ble_eq_true rfl⟩) rfl hl.1 rfl (Nat.le_of_ble_eq_true rfl) dX2_put_51 ⟨Nat.zero_le _, Nat.zero_le _⟩ ?_
          refine lv_iload_n hx hb dX2_put_54 rfl (lv_at hl 3 rfl) ?_
          refine va_iast (D := D) hx hb hK hP hD hS 1 0 rfl rfl (at_in (isW_in c_1) (isF_in c_2)) dX2_put_55 (fun H locs hP hD hS => ?_)
          have hP : va_P D vwCl (mw a cI cZ (upd (mso v) (cn (33 * w + x)) so) (mqu v) (mis G) (mwh G) (mho G) (mmo G) (mks G) (mkq G) (mdi G) (mri G) dn lt ch gn) H := hP
          have hD : va_D A (mw a cI cZ (upd (mso v) (cn (33 * w + x)) so) (mqu v) (mis G) (mwh G) (mho G) (mmo G) (mks G) (mkq G) (mdi G) (mri G) dn lt ch gn) := hD
          refine lv_aload_n hx hb dX2_put_56 rfl (lv_at hl 0 rfl) ?_
          refine va_get (D := D) (ci := 2) (v := .ref (a 2)) (C := RX2) (T := TX2) (N := 14) hx hb hts hiF hown hK hP 0 rfl rfl 1 (by decide) (hts (.fieldLink RX2 13 "TunerBenchModel" "quarters" "[I") (by decide +kernel)) (fun _ h9 => h9) rfl dX2_put_57 ?_
          refine lv_iload_n hx hb dX2_put_60 rfl (lv_at hl 1 rfl) ?_
          refine lv_iload_n hx hb dX2_put_61 rfl (lv_at hl 2 rfl) ?_
          refine xc_T (As := [.int w, .int x]) (rest := [.ref (a 2)]) ⟨hx, hb, hml, hown, hts⟩ (c_X2_at l w x) (va_cwS 2 hts gX2_put_X2_at rfl rfl rfl (by decide +kernel) ⟨Nat.le_of_ble_eq_true rfl, Nat.le_of_ble_eq_true rfl⟩) rfl hl.1 rfl (Nat.le_of_ble_eq_true rfl) dX2_put_62 ⟨Nat.zero_le _, Nat.zero_le _⟩ ?_
          refine lv_iload_n hx hb dX2_put_65 rfl (lv_at hl 3 rfl) ?_
          refine lv_if_ne (tgt := 74) hx hb dX2_put_66 (by decide) (fun c_5 => ?_) (fun c_5 => absurd c_5 c_4)
          refine lv_iconst (v := 0) hx hb dX2_put_74 (by decide) ?_
          refine va_iast (D := D) hx hb hK hP hD hS 2 0 rfl rfl (at_in (isW_in c_1) (isF_in c_2)) dX2_put_75 (fun H locs hP hD hS => ?_)
          have hP : va_P D vwCl (mw a cI cZ (upd (mso v) (cn (33 * w + x)) so) (upd (mqu v) (cn (33 * w + x)) 0) (mis G) (mwh G) (mho G) (mmo G) (mks G) (mkq G) (mdi G) (mri G) dn lt ch gn) H := hP
          have hD : va_D A (mw a cI cZ (upd (mso v) (cn (33 * w + x)) so) (upd (mqu v) (cn (33 * w + x)) 0) (mis G) (mwh G) (mho G) (mmo G) (mks G) (mkq G) (mdi G) (mri G) dn lt ch gn) := hD
          refine lv_iconst (v := 1) hx hb dX2_put_76 (by decide) ?_
          have hput : aPut w x so q = true := by simp [aPut, isV_in, show inB 0 0 4 = true by decide, c_1, c_2, c_3, c_4]
          have hv0 : isVb so q = true := by simp [isV_in, show inB 0 0 4 = true by decide, c_1, c_2, c_3, c_4]
          obtain ⟨-, hv1, hv2⟩ := val_ok hv0
          have e_s : upd (mso v) (cn (33 * w + x)) so = mso (nPut v w x so q) := by simp only [nPut, hput, if_true]; rw [mso_up _ _ (vp_lt (isF_in c_2)), hv1, ← at_cn (isW_in c_1) (isF_in c_2)]
          have e_q : upd (mqu v) (cn (33 * w + x)) 0 = mqu (nPut v w x so q) := by simp only [nPut, hput, if_true]; rw [mqu_up _ _ (vp_lt (isF_in c_2)), hv2, ← at_cn (isW_in c_1) (isF_in c_2)]; simp [c_4]
          rw [e_s, e_q] at hP hD
          exact xw_z (S := Unit) () hx hb hr hlk dX2_put_77 (by decide) hP hK hD hS (by simp [hput, b2i])
        · refine lv_iload hx hb dX2_put_31 (lv_at hl 4 rfl) ?_
          refine lv_ldc (v := -40000) hx hb hown (hts (.constant RX2 66 (-40000)) (by decide +kernel)) dX2_put_33 ?_
          refine lv_ldc (v := 40000) hx hb hown (hts (.constant RX2 67 (40000)) (by decide +kernel)) dX2_put_35 ?_
          refine xc_T (As := [.int q, .int (-40000), .int 40000]) (rest := []) ⟨hx, hb, hml, hown, hts⟩ (c_X2_in l q (-40000) 40000) (va_cwS 3 hts gX2_put_X2_in rfl rfl rfl (by decide +kernel) ⟨Nat.le_of_ble_eq_true rfl, Nat.le_of_ble_eq_true rfl⟩) rfl hl.1 rfl (Nat.le_of_ble_eq_true rfl) dX2_put_37 ⟨Nat.zero_le _, Nat.zero_le _⟩ ?_
          refine lv_if_ne (tgt := 45) hx hb dX2_put_40 (by decide) (fun c_6 => ?_) (fun c_6 => ?_)
          · have c_6 := b2i_n c_6
            refine lv_aload_n hx hb dX2_put_45 rfl (lv_at hl 0 rfl) ?_
            refine va_get (D := D) (ci := 2) (v := .ref (a 1)) (C := RX2) (T := TX2) (N := 14) hx hb hts hiF hown hK hP 0 rfl rfl 0 (by decide) (hts (.fieldLink RX2 7 "TunerBenchModel" "sorts" "[I") (by decide +kernel)) (fun _ h9 => h9) rfl dX2_put_46 ?_
            refine lv_iload_n hx hb dX2_put_49 rfl (lv_at hl 1 rfl) ?_
            refine lv_iload_n hx hb dX2_put_50 rfl (lv_at hl 2 rfl) ?_
            refine xc_T (As := [.int w, .int x]) (rest := [.ref (a 1)]) ⟨hx, hb, hml, hown, hts⟩ (c_X2_at l w x) (va_cwS 2 hts gX2_put_X2_at rfl rfl rfl (by decide +kernel) ⟨Nat.le_of_ble_eq_true rfl, Nat.le_of_ble_eq_true rfl⟩) rfl hl.1 rfl (Nat.le_of_ble_eq_true rfl) dX2_put_51 ⟨Nat.zero_le _, Nat.zero_le _⟩ ?_
            refine lv_iload_n hx hb dX2_put_54 rfl (lv_at hl 3 rfl) ?_
            refine va_iast (D := D) hx hb hK hP hD hS 1 0 rfl rfl (at_in (isW_in c_1) (isF_in c_2)) dX2_put_55 (fun H locs hP hD hS => ?_)
            have hP : va_P D vwCl (mw a cI cZ (upd (mso v) (cn (33 * w + x)) so) (mqu v) (mis G) (mwh G) (mho G) (mmo G) (mks G) (mkq G) (mdi G) (mri G) dn lt ch gn) H := hP
            have hD : va_D A (mw a cI cZ (upd (mso v) (cn (33 * w + x)) so) (mqu v) (mis G) (mwh G) (mho G) (mmo G) (mks G) (mkq G) (mdi G) (mri G) dn lt ch gn) := hD
            refine lv_aload_n hx hb dX2_put_56 rfl (lv_at hl 0 rfl) ?_
            refine va_get (D := D) (ci := 2) (v := .ref (a 2)) (C := RX2) (T := TX2) (N := 14) hx hb hts hiF hown hK hP 0 rfl rfl 1 (by decide) (hts (.fieldLink RX2 13 "TunerBenchModel" "quarters" "[I") (by decide +kernel)) (fun _ h9 => h9) rfl dX2_put_57 ?_
            refine lv_iload_n hx hb dX2_put_60 rfl (lv_at hl 1 rfl) ?_
            refine lv_iload_n hx hb dX2_put_61 rfl (lv_at hl 2 rfl) ?_
            refine xc_T (As := [.int w, .int x]) (rest := [.ref (a 2)]) ⟨hx, hb, hml, hown, hts⟩ (c_X2_at l w x) (va_cwS 2 hts gX2_put_X2_at rfl rfl rfl (by decide +kernel) ⟨Nat.le_of_ble_eq_true rfl, Nat.le_of_ble_eq_true rfl⟩) rfl hl.1 rfl (Nat.le_of_ble_eq_true rfl) dX2_put_62 ⟨Nat.zero_le _, Nat.zero_le _⟩ ?_
            refine lv_iload_n hx hb dX2_put_65 rfl (lv_at hl 3 rfl) ?_
            refine lv_if_ne (tgt := 74) hx hb dX2_put_66 (by decide) (fun c_7 => absurd c_4 c_7) (fun c_7 => ?_)
            refine lv_iload hx hb dX2_put_69 (lv_at hl 4 rfl) ?_
            refine lv_goto (tgt := 75) hx hb dX2_put_71 (by decide) ?_
            refine va_iast (D := D) hx hb hK hP hD hS 2 0 rfl rfl (at_in (isW_in c_1) (isF_in c_2)) dX2_put_75 (fun H locs hP hD hS => ?_)
            have hP : va_P D vwCl (mw a cI cZ (upd (mso v) (cn (33 * w + x)) so) (upd (mqu v) (cn (33 * w + x)) q) (mis G) (mwh G) (mho G) (mmo G) (mks G) (mkq G) (mdi G) (mri G) dn lt ch gn) H := hP
            have hD : va_D A (mw a cI cZ (upd (mso v) (cn (33 * w + x)) so) (upd (mqu v) (cn (33 * w + x)) q) (mis G) (mwh G) (mho G) (mmo G) (mks G) (mkq G) (mdi G) (mri G) dn lt ch gn) := hD
            refine lv_iconst (v := 1) hx hb dX2_put_76 (by decide) ?_
            have hput : aPut w x so q = true := by simp [aPut, isV_in, show inB 0 0 4 = true by decide, c_1, c_2, c_3, c_4, c_6]
            have hv0 : isVb so q = true := by simp [isV_in, show inB 0 0 4 = true by decide, c_1, c_2, c_3, c_4, c_6]
            obtain ⟨-, hv1, hv2⟩ := val_ok hv0
            have e_s : upd (mso v) (cn (33 * w + x)) so = mso (nPut v w x so q) := by simp only [nPut, hput, if_true]; rw [mso_up _ _ (vp_lt (isF_in c_2)), hv1, ← at_cn (isW_in c_1) (isF_in c_2)]
            have e_q : upd (mqu v) (cn (33 * w + x)) q = mqu (nPut v w x so q) := by simp only [nPut, hput, if_true]; rw [mqu_up _ _ (vp_lt (isF_in c_2)), hv2, ← at_cn (isW_in c_1) (isF_in c_2)]; simp [c_4]
            rw [e_s, e_q] at hP hD
            exact xw_z (S := Unit) () hx hb hr hlk dX2_put_77 (by decide) hP hK hD hS (by simp [hput, b2i])
          · have c_6 := b2i_e c_6
            refine lv_iconst (v := 0) hx hb dX2_put_43 (by decide) ?_
            have e_v : v = nPut v w x so q := by simp [nPut, aPut, isV_in, show inB 0 0 4 = true by decide, c_1, c_2, c_3, c_4, c_6]
            rw [e_v] at hP hD
            exact xw_z (S := Unit) () hx hb hr hlk dX2_put_44 (by decide) hP hK hD hS (by simp [aPut, isV_in, b2i, show inB 0 0 4 = true by decide, c_1, c_2, c_3, c_4, c_6])
      · have c_3 := b2i_e c_3
        refine lv_iconst (v := 0) hx hb dX2_put_25 (by decide) ?_
        have e_v : v = nPut v w x so q := by simp [nPut, aPut, isV_in, show inB 0 0 4 = true by decide, c_1, c_2, c_3]
        rw [e_v] at hP hD
        exact xw_z (S := Unit) () hx hb hr hlk dX2_put_26 (by decide) hP hK hD hS (by simp [aPut, isV_in, b2i, show inB 0 0 4 = true by decide, c_1, c_2, c_3])
