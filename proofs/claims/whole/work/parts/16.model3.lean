/-! the model: rings, count, guard -/
set_option maxHeartbeats 4000000 in
set_option maxRecDepth 100000 in
theorem c_X2_rings (l : Launch) (D : va_G) (a : Nat → Nat) (cI cZ : ClassId) (v : Nat → Nat → Int32) (G : Nat → Option GT) (dn lt ch gn : Int32) (g : Int32) : Met l yX2_rings wsX2_rings ({ frames := 1, cells := 0, slots := 0, locals := 22 }) (xR D vwCl (mb a cI cZ v G dn lt ch gn) (mT cI cZ) xB0 [.ref (a 0), .int g]) (QcRead (aRin G g)) 0 0 (fun _ => False) := by
  refine xr_in (cc := cX2_rings) (maxL := 2) (ret := (some .int)) (by decide) rfl (Nat.le_of_ble_eq_true rfl) ?_
  intro p e s m below meth c ls hx hb hr hml hts hown hlk hP hK hB hl
  have hown : s.vm.findClass RX2 = some m.cls := hown
  have hl : lv_has ls 2 [(0, .ref (a 0)), (1, .int g)] := hl
  have hiF : ∀ w ∈ wsX20, w ∈ wsX2_rings := by decide +kernel
  refine lv_iload_n hx hb dX2_rings_0 rfl (lv_at hl 1 rfl) ?_
  refine lv_iconst (v := 0) hx hb dX2_rings_1 (by decide) ?_
  refine lv_bipush (v := 7) hx hb dX2_rings_2 (by decide) ?_
  refine xc_T (As := [.int g, .int 0, .int 7]) (rest := []) ⟨hx, hb, hml, hown, hts⟩ (c_X2_in l g 0 7) (va_cwS 3 hts gX2_rings_X2_in rfl rfl rfl (by decide +kernel) ⟨Nat.le_of_ble_eq_true rfl, Nat.le_of_ble_eq_true rfl⟩) rfl hl.1 rfl (Nat.le_of_ble_eq_true rfl) dX2_rings_4 ⟨Nat.zero_le _, Nat.zero_le _⟩ ?_
  rw [in07]
  refine lv_if_eq (tgt := 28) hx hb dX2_rings_7 (by decide) (fun c_1 => ?_) (fun c_1 => ?_)
  · have c_1 := b2i_e c_1
    refine lv_iconst (v := -1) hx hb dX2_rings_28 (by decide) ?_
    exact xr_i hx hb hr hlk dX2_rings_29 (by cases hG9 : G (cn g) <;> simp_all [aRin, gsel])
  · have c_1 := b2i_n c_1
    refine lv_aload_n hx hb dX2_rings_10 rfl (lv_at hl 0 rfl) ?_
    refine va_get (D := D) (ci := 2) (v := .ref (a 3)) (C := RX2) (T := TX2) (N := 14) hx hb hts hiF hown hK hP 0 rfl rfl 6 (by decide) (hts (.fieldLink RX2 20 "TunerBenchModel" "isSet" "[Z") (by decide +kernel)) (fun _ h9 => h9) rfl dX2_rings_11 ?_
    refine lv_iload_n hx hb dX2_rings_14 rfl (lv_at hl 1 rfl) ?_
    refine va_zald (D := D) hx hb hK hP 3 1 rfl rfl (isG_in c_1) dX2_rings_15 ?_
    rw [show mis G (cn g) = b2i ((G (cn g)).isSome) from rfl]
    refine lv_if_eq (tgt := 28) hx hb dX2_rings_16 (by decide) (fun c_2 => ?_) (fun c_2 => ?_)
    · have c_2 := b2i_e c_2
      refine lv_iconst (v := -1) hx hb dX2_rings_28 (by decide) ?_
      exact xr_i hx hb hr hlk dX2_rings_29 (by cases hG9 : G (cn g) <;> simp_all [aRin, gsel])
    · have c_2 := b2i_n c_2
      refine lv_aload_n hx hb dX2_rings_19 rfl (lv_at hl 0 rfl) ?_
      refine va_get (D := D) (ci := 2) (v := .ref (a 10)) (C := RX2) (T := TX2) (N := 14) hx hb hts hiF hown hK hP 0 rfl rfl 13 (by decide) (hts (.fieldLink RX2 42 "TunerBenchModel" "rings" "[I") (by decide +kernel)) (fun _ h9 => h9) rfl dX2_rings_20 ?_
      refine lv_iload_n hx hb dX2_rings_23 rfl (lv_at hl 1 rfl) ?_
      refine va_iald (D := D) hx hb hK hP 10 0 rfl rfl (isG_in c_1) dX2_rings_24 ?_
      refine lv_goto (tgt := 29) hx hb dX2_rings_25 (by decide) ?_
      exact xr_i hx hb hr hlk dX2_rings_29 (by cases hG9 : G (cn g) <;> simp_all [aRin, gsel])
set_option maxHeartbeats 4000000 in
set_option maxRecDepth 100000 in
theorem c_X2_count (l : Launch) (D : va_G) (a : Nat → Nat) (cI cZ : ClassId) (v : Nat → Nat → Int32) (G : Nat → Option GT) (dn lt ch gn : Int32) (q : Int32) : Met l yX2_count wsX2_count ({ frames := 0, cells := 0, slots := 0, locals := 0 }) (xR D vwCl (mb a cI cZ v G dn lt ch gn) (mT cI cZ) xB0 [.ref (a 0), .int q]) (QcRead (aCnt dn lt gn ch q)) 0 0 (fun _ => False) := by
  refine xr_in (cc := cX2_count) (maxL := 2) (ret := (some .int)) (by decide) rfl (Nat.le_of_ble_eq_true rfl) ?_
  intro p e s m below meth c ls hx hb hr hml hts hown hlk hP hK hB hl
  have hown : s.vm.findClass RX2 = some m.cls := hown
  have hl : lv_has ls 2 [(0, .ref (a 0)), (1, .int q)] := hl
  have hiF : ∀ w ∈ wsX20, w ∈ wsX2_count := by decide +kernel
  refine lv_iload_n hx hb dX2_count_0 rfl (lv_at hl 1 rfl) ?_
  by_cases q_1 : q = 0
  · refine lv_tableIn (off := 31) (tgt := 32) hx hb dX2_count_1 (by rw [q_1]; decide) (by rw [q_1]; decide) (by rw [q_1]; rfl) (by decide) ?_
    refine lv_aload_n hx hb dX2_count_32 rfl (lv_at hl 0 rfl) ?_
    refine va_get (D := D) (ci := 2) (v := .int dn) (C := RX2) (T := TX2) (N := 14) hx hb hts hiF hown hK hP 0 rfl rfl 2 (by decide) (hts (.fieldLink RX2 76 "TunerBenchModel" "denials" "I") (by decide +kernel)) (fun _ h9 => h9) rfl dX2_count_33 ?_
    exact xr_i hx hb hr hlk dX2_count_36 (by simp [aCnt, q_1])
  by_cases q_2 : q = 1
  · refine lv_tableIn (off := 36) (tgt := 37) hx hb dX2_count_1 (by rw [q_2]; decide) (by rw [q_2]; decide) (by rw [q_2]; rfl) (by decide) ?_
    refine lv_aload_n hx hb dX2_count_37 rfl (lv_at hl 0 rfl) ?_
    refine va_get (D := D) (ci := 2) (v := .int lt) (C := RX2) (T := TX2) (N := 14) hx hb hts hiF hown hK hP 0 rfl rfl 3 (by decide) (hts (.fieldLink RX2 16 "TunerBenchModel" "latest" "I") (by decide +kernel)) (fun _ h9 => h9) rfl dX2_count_38 ?_
    exact xr_i hx hb hr hlk dX2_count_41 (by simp [aCnt, q_2])
  by_cases q_3 : q = 2
  · refine lv_tableIn (off := 41) (tgt := 42) hx hb dX2_count_1 (by rw [q_3]; decide) (by rw [q_3]; decide) (by rw [q_3]; rfl) (by decide) ?_
    refine lv_aload_n hx hb dX2_count_42 rfl (lv_at hl 0 rfl) ?_
    refine va_get (D := D) (ci := 2) (v := .int gn) (C := RX2) (T := TX2) (N := 14) hx hb hts hiF hown hK hP 0 rfl rfl 5 (by decide) (hts (.fieldLink RX2 85 "TunerBenchModel" "guards" "I") (by decide +kernel)) (fun _ h9 => h9) rfl dX2_count_43 ?_
    exact xr_i hx hb hr hlk dX2_count_46 (by simp [aCnt, q_3])
  by_cases q_4 : q = 3
  · refine lv_tableIn (off := 46) (tgt := 47) hx hb dX2_count_1 (by rw [q_4]; decide) (by rw [q_4]; decide) (by rw [q_4]; rfl) (by decide) ?_
    refine lv_aload_n hx hb dX2_count_47 rfl (lv_at hl 0 rfl) ?_
    refine va_get (D := D) (ci := 2) (v := .int ch) (C := RX2) (T := TX2) (N := 14) hx hb hts hiF hown hK hP 0 rfl rfl 4 (by decide) (hts (.fieldLink RX2 82 "TunerBenchModel" "changes" "I") (by decide +kernel)) (fun _ h9 => h9) rfl dX2_count_48 ?_
    exact xr_i hx hb hr hlk dX2_count_51 (by simp [aCnt, q_4])
  refine lv_tableOut (tgt := 52) hx hb dX2_count_1 (by simp only [i32_eq] at q_1 q_2 q_3 q_4; simp at q_1 q_2 q_3 q_4 ⊢; omega) (by decide) ?_
  refine lv_iconst (v := -1) hx hb dX2_count_52 (by decide) ?_
  exact xr_i hx hb hr hlk dX2_count_53 (by simp [aCnt, q_1, q_2, q_3, q_4])
def hGua (G : Nat → Option GT) (gn g w h x mo : Int32) : Int32 := if gB g w h x mo = true then gn + (if (G (cn g)).isSome = true then 0 else 1) else gn
theorem mis_up (G : Nat → Option GT) (g : Nat) (t : GT) : mis (va_up G g (some t)) = upd (mis G) g 1 := by
  funext j
  by_cases h : j = g
  · subst h; simp [mis, va_up, upd, b2i]
  · simp [mis, va_up, upd, h]
theorem mis_same {G : Nat → Option GT} {g : Nat} {t t' : GT} (h : G g = some t) : mis (va_up G g (some t')) = mis G := by
  funext j
  by_cases e : j = g
  · subst e; simp [mis, va_up, h]
  · simp [mis, va_up, e]
theorem gsel_same {G : Nat → Option GT} {g : Nat} {t t' : GT} {f : GT → Int32} (h : G g = some t) (hf : f t' = f t) : gsel (va_up G g (some t')) f = gsel G f := by
  funext j
  by_cases e : j = g
  · subst e; simp [gsel, va_up, h, hf]
  · simp [gsel, va_up, e]
theorem lkG_up {v : Nat → Nat → Int32} {G : Nat → Option GT} {k : Nat} {t : GT} (h : G k = some t) : lkG v G (k + 1) = va_up (lkG v G k) k (some (lnx v t)) := by
  funext g
  by_cases e : g = k
  · subst e; rw [lkG_k, h]; simp [va_up]
  · rw [lkG_s v G k g e]; simp [va_up, e]
theorem lkG_no {v : Nat → Nat → Int32} {G : Nat → Option GT} {k : Nat} (h : G k = none) : lkG v G (k + 1) = lkG v G k := by
  funext g
  by_cases e : g = k
  · subst e; rw [lkG_k, h]; simp [lkG, h]
  · exact lkG_s v G k g e
set_option maxHeartbeats 4000000 in
set_option maxRecDepth 100000 in
theorem c_X2_guard (l : Launch) (D : va_G) (a : Nat → Nat) (cI cZ : ClassId) (v : Nat → Nat → Int32) (G : Nat → Option GT) (dn lt ch gn : Int32) (sz : Nat) (g w h x mo : Int32) : Met l yX2_guard wsX2_guard ({ frames := 2, cells := 0, slots := 0, locals := 43 }) (xW D vwCl (mb a cI cZ v G dn lt ch gn) (mT cI cZ) xB0 sz [.ref (a 0), .int g, .int w, .int h, .int x, .int mo]) (xQ (S := Unit) D vwCl (fun r _ => r = b2i (gB g w h x mo)) (fun _ => mb a cI cZ v (nGua v G g w h x mo) dn lt ch (hGua G gn g w h x mo)) (fun _ => mT cI cZ) (va_A (mb a cI cZ v G dn lt ch gn) sz)) 0 0 (va_A (mb a cI cZ v G dn lt ch gn) sz) := by
  refine xw_in (Qf := xQ (S := Unit) D vwCl (fun r _ => r = b2i (gB g w h x mo)) (fun _ => mb a cI cZ v (nGua v G g w h x mo) dn lt ch (hGua G gn g w h x mo)) (fun _ => mT cI cZ)) (cc := cX2_guard) (maxL := 6) (ret := (some .boolean)) (by decide) rfl (Nat.le_of_ble_eq_true rfl) ?_
  intro p e s m below meth c ls A hx hb hr hml hts hown hlk hnm hA hP hK hD hS hB hl
  have hown : s.vm.findClass RX2 = some m.cls := hown
  have hl : lv_has ls 6 [(0, .ref (a 0)), (1, .int g), (2, .int w), (3, .int h), (4, .int x), (5, .int mo)] := hl
  have hiF : ∀ w ∈ wsX20, w ∈ wsX2_guard := by decide +kernel
  refine lv_iload_n hx hb dX2_guard_0 rfl (lv_at hl 1 rfl) ?_
  refine lv_iconst (v := 0) hx hb dX2_guard_1 (by decide) ?_
  refine lv_bipush (v := 7) hx hb dX2_guard_2 (by decide) ?_
  refine xc_T (As := [.int g, .int 0, .int 7]) (rest := []) ⟨hx, hb, hml, hown, hts⟩ (c_X2_in l g 0 7) (va_cwS 3 hts gX2_guard_X2_in rfl rfl rfl (by decide +kernel) ⟨Nat.le_of_ble_eq_true rfl, Nat.le_of_ble_eq_true rfl⟩) rfl hl.1 rfl (Nat.le_of_ble_eq_true rfl) dX2_guard_4 ⟨Nat.zero_le _, Nat.zero_le _⟩ ?_
  rw [in07]
  refine lv_if_eq (tgt := 36) hx hb dX2_guard_7 (by decide) (fun c_1 => ?_) (fun c_1 => ?_)
  · have c_1 := b2i_e c_1
    refine lv_iconst (v := 0) hx hb dX2_guard_36 (by decide) ?_
    have e1 : G = nGua v G g w h x mo := by simp [nGua, gB, c_1]
    have e2 : gn = hGua G gn g w h x mo := by simp [hGua, gB, c_1]
    rw [show (mb a cI cZ v G dn lt ch gn) = (mb a cI cZ v (nGua v G g w h x mo) dn lt ch (hGua G gn g w h x mo)) from by rw [← e1, ← e2]] at hP hD
    exact xw_z (S := Unit) () hx hb hr hlk dX2_guard_37 (by decide) hP hK hD hS (by simp [gB, b2i, c_1])
  · have c_1 := b2i_n c_1
    refine lv_iload_n hx hb dX2_guard_10 rfl (lv_at hl 2 rfl) ?_
    refine lv_iload_n hx hb dX2_guard_11 rfl (lv_at hl 3 rfl) ?_
    refine xc_T (As := [.int w, .int h]) (rest := []) ⟨hx, hb, hml, hown, hts⟩ (c_X2_isAsked l w h) (va_cwS 2 hts gX2_guard_X2_isAsked rfl rfl rfl (by decide +kernel) ⟨Nat.le_of_ble_eq_true rfl, Nat.le_of_ble_eq_true rfl⟩) rfl hl.1 rfl (Nat.le_of_ble_eq_true rfl) dX2_guard_12 ⟨Nat.zero_le _, Nat.zero_le _⟩ ?_
    refine lv_if_eq (tgt := 36) hx hb dX2_guard_15 (by decide) (fun c_2 => ?_) (fun c_2 => ?_)
    · have c_2 := b2i_e c_2
      refine lv_iconst (v := 0) hx hb dX2_guard_36 (by decide) ?_
      have e1 : G = nGua v G g w h x mo := by simp [nGua, gB, c_1, c_2]
      have e2 : gn = hGua G gn g w h x mo := by simp [hGua, gB, c_1, c_2]
      rw [show (mb a cI cZ v G dn lt ch gn) = (mb a cI cZ v (nGua v G g w h x mo) dn lt ch (hGua G gn g w h x mo)) from by rw [← e1, ← e2]] at hP hD
      exact xw_z (S := Unit) () hx hb hr hlk dX2_guard_37 (by decide) hP hK hD hS (by simp [gB, b2i, c_1, c_2])
    · have c_2 := b2i_n c_2
      refine lv_iload hx hb dX2_guard_18 (lv_at hl 4 rfl) ?_
      refine xc_T (As := [.int x]) (rest := []) ⟨hx, hb, hml, hown, hts⟩ (c_X2_isString l x) (va_cwS 1 hts gX2_guard_X2_isString rfl rfl rfl (by decide +kernel) ⟨Nat.le_of_ble_eq_true rfl, Nat.le_of_ble_eq_true rfl⟩) rfl hl.1 rfl (Nat.le_of_ble_eq_true rfl) dX2_guard_20 ⟨Nat.zero_le _, Nat.zero_le _⟩ ?_
      refine lv_if_eq (tgt := 36) hx hb dX2_guard_23 (by decide) (fun c_3 => ?_) (fun c_3 => ?_)
      · have c_3 := b2i_e c_3
        refine lv_iconst (v := 0) hx hb dX2_guard_36 (by decide) ?_
        have e1 : G = nGua v G g w h x mo := by simp [nGua, gB, c_1, c_2, c_3]
        have e2 : gn = hGua G gn g w h x mo := by simp [hGua, gB, c_1, c_2, c_3]
        rw [show (mb a cI cZ v G dn lt ch gn) = (mb a cI cZ v (nGua v G g w h x mo) dn lt ch (hGua G gn g w h x mo)) from by rw [← e1, ← e2]] at hP hD
        exact xw_z (S := Unit) () hx hb hr hlk dX2_guard_37 (by decide) hP hK hD hS (by simp [gB, b2i, c_1, c_2, c_3])
      · have c_3 := b2i_n c_3
        refine lv_iload hx hb dX2_guard_26 (lv_at hl 5 rfl) ?_
        refine lv_iconst (v := 0) hx hb dX2_guard_28 (by decide) ?_
        refine lv_iconst (v := 2) hx hb dX2_guard_29 (by decide) ?_
        refine xc_T (As := [.int mo, .int 0, .int 2]) (rest := []) ⟨hx, hb, hml, hown, hts⟩ (c_X2_in l mo 0 2) (va_cwS 3 hts gX2_guard_X2_in rfl rfl rfl (by decide +kernel) ⟨Nat.le_of_ble_eq_true rfl, Nat.le_of_ble_eq_true rfl⟩) rfl hl.1 rfl (Nat.le_of_ble_eq_true rfl) dX2_guard_30 ⟨Nat.zero_le _, Nat.zero_le _⟩ ?_
        rw [in02]
        refine lv_if_ne (tgt := 38) hx hb dX2_guard_33 (by decide) (fun c_4 => ?_) (fun c_4 => ?_)
        · have c_4 := b2i_n c_4
          refine lv_aload_n hx hb dX2_guard_38 rfl (lv_at hl 0 rfl) ?_
          refine lv_dup hx hb dX2_guard_39 rfl ?_
          refine va_get (D := D) (ci := 2) (v := .int gn) (C := RX2) (T := TX2) (N := 14) hx hb hts hiF hown hK hP 0 rfl rfl 5 (by decide) (hts (.fieldLink RX2 85 "TunerBenchModel" "guards" "I") (by decide +kernel)) (fun _ h9 => h9) rfl dX2_guard_40 ?_
          refine lv_aload_n hx hb dX2_guard_43 rfl (lv_at hl 0 rfl) ?_
          refine va_get (D := D) (ci := 2) (v := .ref (a 3)) (C := RX2) (T := TX2) (N := 14) hx hb hts hiF hown hK hP 0 rfl rfl 6 (by decide) (hts (.fieldLink RX2 20 "TunerBenchModel" "isSet" "[Z") (by decide +kernel)) (fun _ h9 => h9) rfl dX2_guard_44 ?_
          refine lv_iload_n hx hb dX2_guard_47 rfl (lv_at hl 1 rfl) ?_
          refine va_zald (D := D) hx hb hK hP 3 1 rfl rfl (isG_in c_1) dX2_guard_48 ?_
          rw [show mis G (cn g) = b2i ((G (cn g)).isSome) from rfl]
          refine lv_if_eq (tgt := 56) hx hb dX2_guard_49 (by decide) (fun c_5 => ?_) (fun c_5 => ?_)
          · have c_5 := b2i_e c_5
            refine lv_iconst (v := 1) hx hb dX2_guard_56 (by decide) ?_
            refine lv_iadd hx hb dX2_guard_57 ?_
            refine va_put (D := D) (ci := 2) (v := .int (gn + 1)) (ty := .int) (C := RX2) (T := TX2) (N := 14) hx hb hts hiF tyX2 tyX2_ok nmX2 hown hK hP hD hS 0 rfl rfl 5 (by decide) (hts (.fieldLink RX2 85 "TunerBenchModel" "guards" "I") (by decide +kernel)) (fun _ h9 => h9) rfl (by decide +kernel) rfl rfl (Nat.le_of_ble_eq_true rfl) dX2_guard_58 (fun H locs hP hD hS => ?_)
            have hP : va_P D vwCl (mb a cI cZ v G dn lt ch (gn + 1)) H := hP
            have hD : va_D A (mb a cI cZ v G dn lt ch (gn + 1)) := hD
            refine lv_aload_n hx hb dX2_guard_61 rfl (lv_at hl 0 rfl) ?_
            refine va_get (D := D) (ci := 2) (v := .ref (a 3)) (C := RX2) (T := TX2) (N := 14) hx hb hts hiF hown hK hP 0 rfl rfl 6 (by decide) (hts (.fieldLink RX2 20 "TunerBenchModel" "isSet" "[Z") (by decide +kernel)) (fun _ h9 => h9) rfl dX2_guard_62 ?_
            refine lv_iload_n hx hb dX2_guard_65 rfl (lv_at hl 1 rfl) ?_
            refine lv_iconst (v := 1) hx hb dX2_guard_66 (by decide) ?_
            refine va_zast (D := D) hx hb hK hP hD hS 3 1 rfl rfl (isG_in c_1) dX2_guard_67 (fun H locs hP hD hS => ?_)
            rw [show vp_nar .boolean 1 = 1 from by decide] at hP hD
            have hP : va_P D vwCl (mw a cI cZ (mso v) (mqu v) (upd (mis G) (cn g) 1) (mwh G) (mho G) (mmo G) (mks G) (mkq G) (mdi G) (mri G) dn lt ch (gn + 1)) H := hP
            have hD : va_D A (mw a cI cZ (mso v) (mqu v) (upd (mis G) (cn g) 1) (mwh G) (mho G) (mmo G) (mks G) (mkq G) (mdi G) (mri G) dn lt ch (gn + 1)) := hD
            refine lv_aload_n hx hb dX2_guard_68 rfl (lv_at hl 0 rfl) ?_
            refine va_get (D := D) (ci := 2) (v := .ref (a 4)) (C := RX2) (T := TX2) (N := 14) hx hb hts hiF hown hK hP 0 rfl rfl 7 (by decide) (hts (.fieldLink RX2 24 "TunerBenchModel" "what" "[I") (by decide +kernel)) (fun _ h9 => h9) rfl dX2_guard_69 ?_
            refine lv_iload_n hx hb dX2_guard_72 rfl (lv_at hl 1 rfl) ?_
            refine lv_iload_n hx hb dX2_guard_73 rfl (lv_at hl 2 rfl) ?_
            refine va_iast (D := D) hx hb hK hP hD hS 4 0 rfl rfl (isG_in c_1) dX2_guard_74 (fun H locs hP hD hS => ?_)
            have hP : va_P D vwCl (mw a cI cZ (mso v) (mqu v) (upd (mis G) (cn g) 1) (upd (mwh G) (cn g) w) (mho G) (mmo G) (mks G) (mkq G) (mdi G) (mri G) dn lt ch (gn + 1)) H := hP
            have hD : va_D A (mw a cI cZ (mso v) (mqu v) (upd (mis G) (cn g) 1) (upd (mwh G) (cn g) w) (mho G) (mmo G) (mks G) (mkq G) (mdi G) (mri G) dn lt ch (gn + 1)) := hD
            refine lv_aload_n hx hb dX2_guard_75 rfl (lv_at hl 0 rfl) ?_
            refine va_get (D := D) (ci := 2) (v := .ref (a 5)) (C := RX2) (T := TX2) (N := 14) hx hb hts hiF hown hK hP 0 rfl rfl 8 (by decide) (hts (.fieldLink RX2 27 "TunerBenchModel" "how" "[I") (by decide +kernel)) (fun _ h9 => h9) rfl dX2_guard_76 ?_
            refine lv_iload_n hx hb dX2_guard_79 rfl (lv_at hl 1 rfl) ?_
            refine lv_iload_n hx hb dX2_guard_80 rfl (lv_at hl 3 rfl) ?_
            refine va_iast (D := D) hx hb hK hP hD hS 5 0 rfl rfl (isG_in c_1) dX2_guard_81 (fun H locs hP hD hS => ?_)
            have hP : va_P D vwCl (mw a cI cZ (mso v) (mqu v) (upd (mis G) (cn g) 1) (upd (mwh G) (cn g) w) (upd (mho G) (cn g) h) (mmo G) (mks G) (mkq G) (mdi G) (mri G) dn lt ch (gn + 1)) H := hP
            have hD : va_D A (mw a cI cZ (mso v) (mqu v) (upd (mis G) (cn g) 1) (upd (mwh G) (cn g) w) (upd (mho G) (cn g) h) (mmo G) (mks G) (mkq G) (mdi G) (mri G) dn lt ch (gn + 1)) := hD
            refine lv_aload_n hx hb dX2_guard_82 rfl (lv_at hl 0 rfl) ?_
            refine va_get (D := D) (ci := 2) (v := .ref (a 6)) (C := RX2) (T := TX2) (N := 14) hx hb hts hiF hown hK hP 0 rfl rfl 9 (by decide) (hts (.fieldLink RX2 30 "TunerBenchModel" "mode" "[I") (by decide +kernel)) (fun _ h9 => h9) rfl dX2_guard_83 ?_
            refine lv_iload_n hx hb dX2_guard_86 rfl (lv_at hl 1 rfl) ?_
            refine lv_iload hx hb dX2_guard_87 (lv_at hl 5 rfl) ?_
            refine va_iast (D := D) hx hb hK hP hD hS 6 0 rfl rfl (isG_in c_1) dX2_guard_89 (fun H locs hP hD hS => ?_)
            have hP : va_P D vwCl (mw a cI cZ (mso v) (mqu v) (upd (mis G) (cn g) 1) (upd (mwh G) (cn g) w) (upd (mho G) (cn g) h) (upd (mmo G) (cn g) mo) (mks G) (mkq G) (mdi G) (mri G) dn lt ch (gn + 1)) H := hP
            have hD : va_D A (mw a cI cZ (mso v) (mqu v) (upd (mis G) (cn g) 1) (upd (mwh G) (cn g) w) (upd (mho G) (cn g) h) (upd (mmo G) (cn g) mo) (mks G) (mkq G) (mdi G) (mri G) dn lt ch (gn + 1)) := hD
            refine lv_aload_n hx hb dX2_guard_90 rfl (lv_at hl 0 rfl) ?_
            refine va_get (D := D) (ci := 2) (v := .ref (a 7)) (C := RX2) (T := TX2) (N := 14) hx hb hts hiF hown hK hP 0 rfl rfl 10 (by decide) (hts (.fieldLink RX2 33 "TunerBenchModel" "keptSort" "[I") (by decide +kernel)) (fun _ h9 => h9) rfl dX2_guard_91 ?_
            refine lv_iload_n hx hb dX2_guard_94 rfl (lv_at hl 1 rfl) ?_
            refine lv_aload_n hx hb dX2_guard_95 rfl (lv_at hl 0 rfl) ?_
            refine va_get (D := D) (ci := 2) (v := .ref (a 1)) (C := RX2) (T := TX2) (N := 14) hx hb hts hiF hown hK hP 0 rfl rfl 0 (by decide) (hts (.fieldLink RX2 7 "TunerBenchModel" "sorts" "[I") (by decide +kernel)) (fun _ h9 => h9) rfl dX2_guard_96 ?_
            refine lv_iload_n hx hb dX2_guard_99 rfl (lv_at hl 2 rfl) ?_
            refine lv_iload hx hb dX2_guard_100 (lv_at hl 4 rfl) ?_
            refine xc_T (As := [.int w, .int x]) (rest := [.ref (a 1), .int g, .ref (a 7)]) ⟨hx, hb, hml, hown, hts⟩ (c_X2_at l w x) (va_cwS 2 hts gX2_guard_X2_at rfl rfl rfl (by decide +kernel) ⟨Nat.le_of_ble_eq_true rfl, Nat.le_of_ble_eq_true rfl⟩) rfl hl.1 rfl (Nat.le_of_ble_eq_true rfl) dX2_guard_102 ⟨Nat.zero_le _, Nat.zero_le _⟩ ?_
            refine va_iald (D := D) hx hb hK hP 1 0 rfl rfl (at_in (isQ_w c_2) (isF_in (isS_F c_3))) dX2_guard_105 ?_
            rw [at_cn (isQ_w c_2) (isF_in (isS_F c_3)), mso_at v (vp_lt (isF_in (isS_F c_3)))]
            refine va_iast (D := D) hx hb hK hP hD hS 7 0 rfl rfl (isG_in c_1) dX2_guard_106 (fun H locs hP hD hS => ?_)
            have hP : va_P D vwCl (mw a cI cZ (mso v) (mqu v) (upd (mis G) (cn g) 1) (upd (mwh G) (cn g) w) (upd (mho G) (cn g) h) (upd (mmo G) (cn g) mo) (upd (mks G) (cn g) (srtF (v (cn w) (cn x)))) (mkq G) (mdi G) (mri G) dn lt ch (gn + 1)) H := hP
            have hD : va_D A (mw a cI cZ (mso v) (mqu v) (upd (mis G) (cn g) 1) (upd (mwh G) (cn g) w) (upd (mho G) (cn g) h) (upd (mmo G) (cn g) mo) (upd (mks G) (cn g) (srtF (v (cn w) (cn x)))) (mkq G) (mdi G) (mri G) dn lt ch (gn + 1)) := hD
            refine lv_aload_n hx hb dX2_guard_107 rfl (lv_at hl 0 rfl) ?_
            refine va_get (D := D) (ci := 2) (v := .ref (a 8)) (C := RX2) (T := TX2) (N := 14) hx hb hts hiF hown hK hP 0 rfl rfl 11 (by decide) (hts (.fieldLink RX2 36 "TunerBenchModel" "keptQuarters" "[I") (by decide +kernel)) (fun _ h9 => h9) rfl dX2_guard_108 ?_
            refine lv_iload_n hx hb dX2_guard_111 rfl (lv_at hl 1 rfl) ?_
            refine lv_aload_n hx hb dX2_guard_112 rfl (lv_at hl 0 rfl) ?_
            refine va_get (D := D) (ci := 2) (v := .ref (a 2)) (C := RX2) (T := TX2) (N := 14) hx hb hts hiF hown hK hP 0 rfl rfl 1 (by decide) (hts (.fieldLink RX2 13 "TunerBenchModel" "quarters" "[I") (by decide +kernel)) (fun _ h9 => h9) rfl dX2_guard_113 ?_
            refine lv_iload_n hx hb dX2_guard_116 rfl (lv_at hl 2 rfl) ?_
            refine lv_iload hx hb dX2_guard_117 (lv_at hl 4 rfl) ?_
            refine xc_T (As := [.int w, .int x]) (rest := [.ref (a 2), .int g, .ref (a 8)]) ⟨hx, hb, hml, hown, hts⟩ (c_X2_at l w x) (va_cwS 2 hts gX2_guard_X2_at rfl rfl rfl (by decide +kernel) ⟨Nat.le_of_ble_eq_true rfl, Nat.le_of_ble_eq_true rfl⟩) rfl hl.1 rfl (Nat.le_of_ble_eq_true rfl) dX2_guard_119 ⟨Nat.zero_le _, Nat.zero_le _⟩ ?_
            refine va_iald (D := D) hx hb hK hP 2 0 rfl rfl (at_in (isQ_w c_2) (isF_in (isS_F c_3))) dX2_guard_122 ?_
            rw [at_cn (isQ_w c_2) (isF_in (isS_F c_3)), mqu_at v (vp_lt (isF_in (isS_F c_3)))]
            refine va_iast (D := D) hx hb hK hP hD hS 8 0 rfl rfl (isG_in c_1) dX2_guard_123 (fun H locs hP hD hS => ?_)
            have hP : va_P D vwCl (mw a cI cZ (mso v) (mqu v) (upd (mis G) (cn g) 1) (upd (mwh G) (cn g) w) (upd (mho G) (cn g) h) (upd (mmo G) (cn g) mo) (upd (mks G) (cn g) (srtF (v (cn w) (cn x)))) (upd (mkq G) (cn g) (qrtF (v (cn w) (cn x)))) (mdi G) (mri G) dn lt ch (gn + 1)) H := hP
            have hD : va_D A (mw a cI cZ (mso v) (mqu v) (upd (mis G) (cn g) 1) (upd (mwh G) (cn g) w) (upd (mho G) (cn g) h) (upd (mmo G) (cn g) mo) (upd (mks G) (cn g) (srtF (v (cn w) (cn x)))) (upd (mkq G) (cn g) (qrtF (v (cn w) (cn x)))) (mdi G) (mri G) dn lt ch (gn + 1)) := hD
            refine lv_aload_n hx hb dX2_guard_124 rfl (lv_at hl 0 rfl) ?_
            refine va_get (D := D) (ci := 2) (v := .ref (a 9)) (C := RX2) (T := TX2) (N := 14) hx hb hts hiF hown hK hP 0 rfl rfl 12 (by decide) (hts (.fieldLink RX2 39 "TunerBenchModel" "did" "[Z") (by decide +kernel)) (fun _ h9 => h9) rfl dX2_guard_125 ?_
            refine lv_iload_n hx hb dX2_guard_128 rfl (lv_at hl 1 rfl) ?_
            refine lv_iconst (v := 0) hx hb dX2_guard_129 (by decide) ?_
            refine va_zast (D := D) hx hb hK hP hD hS 9 1 rfl rfl (isG_in c_1) dX2_guard_130 (fun H locs hP hD hS => ?_)
            rw [show vp_nar .boolean 0 = 0 from by decide] at hP hD
            have hP : va_P D vwCl (mw a cI cZ (mso v) (mqu v) (upd (mis G) (cn g) 1) (upd (mwh G) (cn g) w) (upd (mho G) (cn g) h) (upd (mmo G) (cn g) mo) (upd (mks G) (cn g) (srtF (v (cn w) (cn x)))) (upd (mkq G) (cn g) (qrtF (v (cn w) (cn x)))) (upd (mdi G) (cn g) 0) (mri G) dn lt ch (gn + 1)) H := hP
            have hD : va_D A (mw a cI cZ (mso v) (mqu v) (upd (mis G) (cn g) 1) (upd (mwh G) (cn g) w) (upd (mho G) (cn g) h) (upd (mmo G) (cn g) mo) (upd (mks G) (cn g) (srtF (v (cn w) (cn x)))) (upd (mkq G) (cn g) (qrtF (v (cn w) (cn x)))) (upd (mdi G) (cn g) 0) (mri G) dn lt ch (gn + 1)) := hD
            refine lv_aload_n hx hb dX2_guard_131 rfl (lv_at hl 0 rfl) ?_
            refine va_get (D := D) (ci := 2) (v := .ref (a 10)) (C := RX2) (T := TX2) (N := 14) hx hb hts hiF hown hK hP 0 rfl rfl 13 (by decide) (hts (.fieldLink RX2 42 "TunerBenchModel" "rings" "[I") (by decide +kernel)) (fun _ h9 => h9) rfl dX2_guard_132 ?_
            refine lv_iload_n hx hb dX2_guard_135 rfl (lv_at hl 1 rfl) ?_
            refine lv_iconst (v := 0) hx hb dX2_guard_136 (by decide) ?_
            refine va_iast (D := D) hx hb hK hP hD hS 10 0 rfl rfl (isG_in c_1) dX2_guard_137 (fun H locs hP hD hS => ?_)
            have hP : va_P D vwCl (mw a cI cZ (mso v) (mqu v) (upd (mis G) (cn g) 1) (upd (mwh G) (cn g) w) (upd (mho G) (cn g) h) (upd (mmo G) (cn g) mo) (upd (mks G) (cn g) (srtF (v (cn w) (cn x)))) (upd (mkq G) (cn g) (qrtF (v (cn w) (cn x)))) (upd (mdi G) (cn g) 0) (upd (mri G) (cn g) 0) dn lt ch (gn + 1)) H := hP
            have hD : va_D A (mw a cI cZ (mso v) (mqu v) (upd (mis G) (cn g) 1) (upd (mwh G) (cn g) w) (upd (mho G) (cn g) h) (upd (mmo G) (cn g) mo) (upd (mks G) (cn g) (srtF (v (cn w) (cn x)))) (upd (mkq G) (cn g) (qrtF (v (cn w) (cn x)))) (upd (mdi G) (cn g) 0) (upd (mri G) (cn g) 0) dn lt ch (gn + 1)) := hD
            refine lv_iconst (v := 1) hx hb dX2_guard_138 (by decide) ?_
            have hok : gB g w h x mo = true := by simp [gB, c_1, c_2, c_3, c_4, c_5]
            have e1 : nGua v G g w h x mo = va_up G (cn g) (some (w, h, v (cn w) (cn x), mo, false, 0)) := by simp only [nGua, hok, if_true]
            have e2 : gn + 1 = hGua G gn g w h x mo := by simp [hGua, hok, c_5]
            have hP : va_P D vwCl (mb a cI cZ v (nGua v G g w h x mo) dn lt ch (hGua G gn g w h x mo)) H := by rw [e1, ← e2, mb, mis_up, mwh, mho, mmo, mks, mkq, mdi, mri]; simp only [gsel_up]; exact hP
            have hD : va_D A (mb a cI cZ v (nGua v G g w h x mo) dn lt ch (hGua G gn g w h x mo)) := xd_ad hD rfl
            exact xw_z (S := Unit) () hx hb hr hlk dX2_guard_139 (by decide) hP hK hD hS (by rw [hok]; rfl)
          · have c_5 := b2i_n c_5
            refine lv_iconst (v := 0) hx hb dX2_guard_52 (by decide) ?_
            refine lv_goto (tgt := 57) hx hb dX2_guard_53 (by decide) ?_
            refine lv_iadd hx hb dX2_guard_57 ?_
            refine va_put (D := D) (ci := 2) (v := .int (gn + 0)) (ty := .int) (C := RX2) (T := TX2) (N := 14) hx hb hts hiF tyX2 tyX2_ok nmX2 hown hK hP hD hS 0 rfl rfl 5 (by decide) (hts (.fieldLink RX2 85 "TunerBenchModel" "guards" "I") (by decide +kernel)) (fun _ h9 => h9) rfl (by decide +kernel) rfl rfl (Nat.le_of_ble_eq_true rfl) dX2_guard_58 (fun H locs hP hD hS => ?_)
            have hP : va_P D vwCl (mb a cI cZ v G dn lt ch (gn + 0)) H := hP
            have hD : va_D A (mb a cI cZ v G dn lt ch (gn + 0)) := hD
            refine lv_aload_n hx hb dX2_guard_61 rfl (lv_at hl 0 rfl) ?_
            refine va_get (D := D) (ci := 2) (v := .ref (a 3)) (C := RX2) (T := TX2) (N := 14) hx hb hts hiF hown hK hP 0 rfl rfl 6 (by decide) (hts (.fieldLink RX2 20 "TunerBenchModel" "isSet" "[Z") (by decide +kernel)) (fun _ h9 => h9) rfl dX2_guard_62 ?_
            refine lv_iload_n hx hb dX2_guard_65 rfl (lv_at hl 1 rfl) ?_
            refine lv_iconst (v := 1) hx hb dX2_guard_66 (by decide) ?_
            refine va_zast (D := D) hx hb hK hP hD hS 3 1 rfl rfl (isG_in c_1) dX2_guard_67 (fun H locs hP hD hS => ?_)
            rw [show vp_nar .boolean 1 = 1 from by decide] at hP hD
            have hP : va_P D vwCl (mw a cI cZ (mso v) (mqu v) (upd (mis G) (cn g) 1) (mwh G) (mho G) (mmo G) (mks G) (mkq G) (mdi G) (mri G) dn lt ch (gn + 0)) H := hP
            have hD : va_D A (mw a cI cZ (mso v) (mqu v) (upd (mis G) (cn g) 1) (mwh G) (mho G) (mmo G) (mks G) (mkq G) (mdi G) (mri G) dn lt ch (gn + 0)) := hD
            refine lv_aload_n hx hb dX2_guard_68 rfl (lv_at hl 0 rfl) ?_
            refine va_get (D := D) (ci := 2) (v := .ref (a 4)) (C := RX2) (T := TX2) (N := 14) hx hb hts hiF hown hK hP 0 rfl rfl 7 (by decide) (hts (.fieldLink RX2 24 "TunerBenchModel" "what" "[I") (by decide +kernel)) (fun _ h9 => h9) rfl dX2_guard_69 ?_
            refine lv_iload_n hx hb dX2_guard_72 rfl (lv_at hl 1 rfl) ?_
            refine lv_iload_n hx hb dX2_guard_73 rfl (lv_at hl 2 rfl) ?_
            refine va_iast (D := D) hx hb hK hP hD hS 4 0 rfl rfl (isG_in c_1) dX2_guard_74 (fun H locs hP hD hS => ?_)
            have hP : va_P D vwCl (mw a cI cZ (mso v) (mqu v) (upd (mis G) (cn g) 1) (upd (mwh G) (cn g) w) (mho G) (mmo G) (mks G) (mkq G) (mdi G) (mri G) dn lt ch (gn + 0)) H := hP
            have hD : va_D A (mw a cI cZ (mso v) (mqu v) (upd (mis G) (cn g) 1) (upd (mwh G) (cn g) w) (mho G) (mmo G) (mks G) (mkq G) (mdi G) (mri G) dn lt ch (gn + 0)) := hD
            refine lv_aload_n hx hb dX2_guard_75 rfl (lv_at hl 0 rfl) ?_
            refine va_get (D := D) (ci := 2) (v := .ref (a 5)) (C := RX2) (T := TX2) (N := 14) hx hb hts hiF hown hK hP 0 rfl rfl 8 (by decide) (hts (.fieldLink RX2 27 "TunerBenchModel" "how" "[I") (by decide +kernel)) (fun _ h9 => h9) rfl dX2_guard_76 ?_
            refine lv_iload_n hx hb dX2_guard_79 rfl (lv_at hl 1 rfl) ?_
            refine lv_iload_n hx hb dX2_guard_80 rfl (lv_at hl 3 rfl) ?_
            refine va_iast (D := D) hx hb hK hP hD hS 5 0 rfl rfl (isG_in c_1) dX2_guard_81 (fun H locs hP hD hS => ?_)
            have hP : va_P D vwCl (mw a cI cZ (mso v) (mqu v) (upd (mis G) (cn g) 1) (upd (mwh G) (cn g) w) (upd (mho G) (cn g) h) (mmo G) (mks G) (mkq G) (mdi G) (mri G) dn lt ch (gn + 0)) H := hP
            have hD : va_D A (mw a cI cZ (mso v) (mqu v) (upd (mis G) (cn g) 1) (upd (mwh G) (cn g) w) (upd (mho G) (cn g) h) (mmo G) (mks G) (mkq G) (mdi G) (mri G) dn lt ch (gn + 0)) := hD
            refine lv_aload_n hx hb dX2_guard_82 rfl (lv_at hl 0 rfl) ?_
            refine va_get (D := D) (ci := 2) (v := .ref (a 6)) (C := RX2) (T := TX2) (N := 14) hx hb hts hiF hown hK hP 0 rfl rfl 9 (by decide) (hts (.fieldLink RX2 30 "TunerBenchModel" "mode" "[I") (by decide +kernel)) (fun _ h9 => h9) rfl dX2_guard_83 ?_
            refine lv_iload_n hx hb dX2_guard_86 rfl (lv_at hl 1 rfl) ?_
            refine lv_iload hx hb dX2_guard_87 (lv_at hl 5 rfl) ?_
            refine va_iast (D := D) hx hb hK hP hD hS 6 0 rfl rfl (isG_in c_1) dX2_guard_89 (fun H locs hP hD hS => ?_)
            have hP : va_P D vwCl (mw a cI cZ (mso v) (mqu v) (upd (mis G) (cn g) 1) (upd (mwh G) (cn g) w) (upd (mho G) (cn g) h) (upd (mmo G) (cn g) mo) (mks G) (mkq G) (mdi G) (mri G) dn lt ch (gn + 0)) H := hP
            have hD : va_D A (mw a cI cZ (mso v) (mqu v) (upd (mis G) (cn g) 1) (upd (mwh G) (cn g) w) (upd (mho G) (cn g) h) (upd (mmo G) (cn g) mo) (mks G) (mkq G) (mdi G) (mri G) dn lt ch (gn + 0)) := hD
            refine lv_aload_n hx hb dX2_guard_90 rfl (lv_at hl 0 rfl) ?_
            refine va_get (D := D) (ci := 2) (v := .ref (a 7)) (C := RX2) (T := TX2) (N := 14) hx hb hts hiF hown hK hP 0 rfl rfl 10 (by decide) (hts (.fieldLink RX2 33 "TunerBenchModel" "keptSort" "[I") (by decide +kernel)) (fun _ h9 => h9) rfl dX2_guard_91 ?_
            refine lv_iload_n hx hb dX2_guard_94 rfl (lv_at hl 1 rfl) ?_
            refine lv_aload_n hx hb dX2_guard_95 rfl (lv_at hl 0 rfl) ?_
            refine va_get (D := D) (ci := 2) (v := .ref (a 1)) (C := RX2) (T := TX2) (N := 14) hx hb hts hiF hown hK hP 0 rfl rfl 0 (by decide) (hts (.fieldLink RX2 7 "TunerBenchModel" "sorts" "[I") (by decide +kernel)) (fun _ h9 => h9) rfl dX2_guard_96 ?_
            refine lv_iload_n hx hb dX2_guard_99 rfl (lv_at hl 2 rfl) ?_
            refine lv_iload hx hb dX2_guard_100 (lv_at hl 4 rfl) ?_
            refine xc_T (As := [.int w, .int x]) (rest := [.ref (a 1), .int g, .ref (a 7)]) ⟨hx, hb, hml, hown, hts⟩ (c_X2_at l w x) (va_cwS 2 hts gX2_guard_X2_at rfl rfl rfl (by decide +kernel) ⟨Nat.le_of_ble_eq_true rfl, Nat.le_of_ble_eq_true rfl⟩) rfl hl.1 rfl (Nat.le_of_ble_eq_true rfl) dX2_guard_102 ⟨Nat.zero_le _, Nat.zero_le _⟩ ?_
            refine va_iald (D := D) hx hb hK hP 1 0 rfl rfl (at_in (isQ_w c_2) (isF_in (isS_F c_3))) dX2_guard_105 ?_
            rw [at_cn (isQ_w c_2) (isF_in (isS_F c_3)), mso_at v (vp_lt (isF_in (isS_F c_3)))]
            refine va_iast (D := D) hx hb hK hP hD hS 7 0 rfl rfl (isG_in c_1) dX2_guard_106 (fun H locs hP hD hS => ?_)
            have hP : va_P D vwCl (mw a cI cZ (mso v) (mqu v) (upd (mis G) (cn g) 1) (upd (mwh G) (cn g) w) (upd (mho G) (cn g) h) (upd (mmo G) (cn g) mo) (upd (mks G) (cn g) (srtF (v (cn w) (cn x)))) (mkq G) (mdi G) (mri G) dn lt ch (gn + 0)) H := hP
            have hD : va_D A (mw a cI cZ (mso v) (mqu v) (upd (mis G) (cn g) 1) (upd (mwh G) (cn g) w) (upd (mho G) (cn g) h) (upd (mmo G) (cn g) mo) (upd (mks G) (cn g) (srtF (v (cn w) (cn x)))) (mkq G) (mdi G) (mri G) dn lt ch (gn + 0)) := hD
            refine lv_aload_n hx hb dX2_guard_107 rfl (lv_at hl 0 rfl) ?_
            refine va_get (D := D) (ci := 2) (v := .ref (a 8)) (C := RX2) (T := TX2) (N := 14) hx hb hts hiF hown hK hP 0 rfl rfl 11 (by decide) (hts (.fieldLink RX2 36 "TunerBenchModel" "keptQuarters" "[I") (by decide +kernel)) (fun _ h9 => h9) rfl dX2_guard_108 ?_
            refine lv_iload_n hx hb dX2_guard_111 rfl (lv_at hl 1 rfl) ?_
            refine lv_aload_n hx hb dX2_guard_112 rfl (lv_at hl 0 rfl) ?_
            refine va_get (D := D) (ci := 2) (v := .ref (a 2)) (C := RX2) (T := TX2) (N := 14) hx hb hts hiF hown hK hP 0 rfl rfl 1 (by decide) (hts (.fieldLink RX2 13 "TunerBenchModel" "quarters" "[I") (by decide +kernel)) (fun _ h9 => h9) rfl dX2_guard_113 ?_
            refine lv_iload_n hx hb dX2_guard_116 rfl (lv_at hl 2 rfl) ?_
            refine lv_iload hx hb dX2_guard_117 (lv_at hl 4 rfl) ?_
            refine xc_T (As := [.int w, .int x]) (rest := [.ref (a 2), .int g, .ref (a 8)]) ⟨hx, hb, hml, hown, hts⟩ (c_X2_at l w x) (va_cwS 2 hts gX2_guard_X2_at rfl rfl rfl (by decide +kernel) ⟨Nat.le_of_ble_eq_true rfl, Nat.le_of_ble_eq_true rfl⟩) rfl hl.1 rfl (Nat.le_of_ble_eq_true rfl) dX2_guard_119 ⟨Nat.zero_le _, Nat.zero_le _⟩ ?_
            refine va_iald (D := D) hx hb hK hP 2 0 rfl rfl (at_in (isQ_w c_2) (isF_in (isS_F c_3))) dX2_guard_122 ?_
            rw [at_cn (isQ_w c_2) (isF_in (isS_F c_3)), mqu_at v (vp_lt (isF_in (isS_F c_3)))]
            refine va_iast (D := D) hx hb hK hP hD hS 8 0 rfl rfl (isG_in c_1) dX2_guard_123 (fun H locs hP hD hS => ?_)
            have hP : va_P D vwCl (mw a cI cZ (mso v) (mqu v) (upd (mis G) (cn g) 1) (upd (mwh G) (cn g) w) (upd (mho G) (cn g) h) (upd (mmo G) (cn g) mo) (upd (mks G) (cn g) (srtF (v (cn w) (cn x)))) (upd (mkq G) (cn g) (qrtF (v (cn w) (cn x)))) (mdi G) (mri G) dn lt ch (gn + 0)) H := hP
            have hD : va_D A (mw a cI cZ (mso v) (mqu v) (upd (mis G) (cn g) 1) (upd (mwh G) (cn g) w) (upd (mho G) (cn g) h) (upd (mmo G) (cn g) mo) (upd (mks G) (cn g) (srtF (v (cn w) (cn x)))) (upd (mkq G) (cn g) (qrtF (v (cn w) (cn x)))) (mdi G) (mri G) dn lt ch (gn + 0)) := hD
            refine lv_aload_n hx hb dX2_guard_124 rfl (lv_at hl 0 rfl) ?_
            refine va_get (D := D) (ci := 2) (v := .ref (a 9)) (C := RX2) (T := TX2) (N := 14) hx hb hts hiF hown hK hP 0 rfl rfl 12 (by decide) (hts (.fieldLink RX2 39 "TunerBenchModel" "did" "[Z") (by decide +kernel)) (fun _ h9 => h9) rfl dX2_guard_125 ?_
            refine lv_iload_n hx hb dX2_guard_128 rfl (lv_at hl 1 rfl) ?_
            refine lv_iconst (v := 0) hx hb dX2_guard_129 (by decide) ?_
            refine va_zast (D := D) hx hb hK hP hD hS 9 1 rfl rfl (isG_in c_1) dX2_guard_130 (fun H locs hP hD hS => ?_)
            rw [show vp_nar .boolean 0 = 0 from by decide] at hP hD
            have hP : va_P D vwCl (mw a cI cZ (mso v) (mqu v) (upd (mis G) (cn g) 1) (upd (mwh G) (cn g) w) (upd (mho G) (cn g) h) (upd (mmo G) (cn g) mo) (upd (mks G) (cn g) (srtF (v (cn w) (cn x)))) (upd (mkq G) (cn g) (qrtF (v (cn w) (cn x)))) (upd (mdi G) (cn g) 0) (mri G) dn lt ch (gn + 0)) H := hP
            have hD : va_D A (mw a cI cZ (mso v) (mqu v) (upd (mis G) (cn g) 1) (upd (mwh G) (cn g) w) (upd (mho G) (cn g) h) (upd (mmo G) (cn g) mo) (upd (mks G) (cn g) (srtF (v (cn w) (cn x)))) (upd (mkq G) (cn g) (qrtF (v (cn w) (cn x)))) (upd (mdi G) (cn g) 0) (mri G) dn lt ch (gn + 0)) := hD
            refine lv_aload_n hx hb dX2_guard_131 rfl (lv_at hl 0 rfl) ?_
            refine va_get (D := D) (ci := 2) (v := .ref (a 10)) (C := RX2) (T := TX2) (N := 14) hx hb hts hiF hown hK hP 0 rfl rfl 13 (by decide) (hts (.fieldLink RX2 42 "TunerBenchModel" "rings" "[I") (by decide +kernel)) (fun _ h9 => h9) rfl dX2_guard_132 ?_
            refine lv_iload_n hx hb dX2_guard_135 rfl (lv_at hl 1 rfl) ?_
            refine lv_iconst (v := 0) hx hb dX2_guard_136 (by decide) ?_
            refine va_iast (D := D) hx hb hK hP hD hS 10 0 rfl rfl (isG_in c_1) dX2_guard_137 (fun H locs hP hD hS => ?_)
            have hP : va_P D vwCl (mw a cI cZ (mso v) (mqu v) (upd (mis G) (cn g) 1) (upd (mwh G) (cn g) w) (upd (mho G) (cn g) h) (upd (mmo G) (cn g) mo) (upd (mks G) (cn g) (srtF (v (cn w) (cn x)))) (upd (mkq G) (cn g) (qrtF (v (cn w) (cn x)))) (upd (mdi G) (cn g) 0) (upd (mri G) (cn g) 0) dn lt ch (gn + 0)) H := hP
            have hD : va_D A (mw a cI cZ (mso v) (mqu v) (upd (mis G) (cn g) 1) (upd (mwh G) (cn g) w) (upd (mho G) (cn g) h) (upd (mmo G) (cn g) mo) (upd (mks G) (cn g) (srtF (v (cn w) (cn x)))) (upd (mkq G) (cn g) (qrtF (v (cn w) (cn x)))) (upd (mdi G) (cn g) 0) (upd (mri G) (cn g) 0) dn lt ch (gn + 0)) := hD
            refine lv_iconst (v := 1) hx hb dX2_guard_138 (by decide) ?_
            have hok : gB g w h x mo = true := by simp [gB, c_1, c_2, c_3, c_4, c_5]
            have e1 : nGua v G g w h x mo = va_up G (cn g) (some (w, h, v (cn w) (cn x), mo, false, 0)) := by simp only [nGua, hok, if_true]
            have e2 : gn + 0 = hGua G gn g w h x mo := by simp [hGua, hok, c_5]
            have hP : va_P D vwCl (mb a cI cZ v (nGua v G g w h x mo) dn lt ch (hGua G gn g w h x mo)) H := by rw [e1, ← e2, mb, mis_up, mwh, mho, mmo, mks, mkq, mdi, mri]; simp only [gsel_up]; exact hP
            have hD : va_D A (mb a cI cZ v (nGua v G g w h x mo) dn lt ch (hGua G gn g w h x mo)) := xd_ad hD rfl
            exact xw_z (S := Unit) () hx hb hr hlk dX2_guard_139 (by decide) hP hK hD hS (by rw [hok]; rfl)
        · have c_4 := b2i_e c_4
          refine lv_iconst (v := 0) hx hb dX2_guard_36 (by decide) ?_
          have e1 : G = nGua v G g w h x mo := by simp [nGua, gB, c_1, c_2, c_3, c_4]
          have e2 : gn = hGua G gn g w h x mo := by simp [hGua, gB, c_1, c_2, c_3, c_4]
          rw [show (mb a cI cZ v G dn lt ch gn) = (mb a cI cZ v (nGua v G g w h x mo) dn lt ch (hGua G gn g w h x mo)) from by rw [← e1, ← e2]] at hP hD
          exact xw_z (S := Unit) () hx hb hr hlk dX2_guard_37 (by decide) hP hK hD hS (by simp [gB, b2i, c_1, c_2, c_3, c_4])
