/-! the static methods that read nothing -/
set_option maxHeartbeats 4000000 in
set_option maxRecDepth 100000 in
theorem c_X1_isWhat (l : Launch) (a0 : Int32) : Met l yX1_isWhat wsX1_isWhat ({ frames := 0, cells := 0, slots := 0, locals := 0 }) (va_Pc [.int a0] (fun _ => True)) (QcRead (b2i (isWb a0))) 0 0 (fun _ => False) := by
  refine xs_in (cc := cX1_isWhat) (maxL := 1) (ret := (some .boolean)) (by decide) rfl (Nat.le_of_ble_eq_true rfl) ?_
  intro p e s m below meth c ls hx hb hr hml hts hown hlk hl
  have hown : s.vm.findClass RX1 = some m.cls := hown
  have hl : lv_has ls 1 [(0, .int a0)] := hl
  refine lv_iload_n hx hb dX1_isWhat_0 rfl (lv_at hl 0 rfl) ?_
  refine lv_if_lt (tgt := 13) hx hb dX1_isWhat_1 (by decide) (fun c_1 => ?_) (fun c_1 => ?_)
  · refine lv_iconst (v := 0) hx hb dX1_isWhat_13 (by decide) ?_
    exact xr_z hx hb hr hlk dX1_isWhat_14 (b2i_nar _) (by simp [isWb, b2i, c_1])
  · refine lv_iload_n hx hb dX1_isWhat_4 rfl (lv_at hl 0 rfl) ?_
    refine lv_iconst (v := 2) hx hb dX1_isWhat_5 (by decide) ?_
    refine lv_icmp_ge (tgt := 13) hx hb dX1_isWhat_6 (by decide) (fun c_2 => ?_) (fun c_2 => ?_)
    · refine lv_iconst (v := 0) hx hb dX1_isWhat_13 (by decide) ?_
      exact xr_z hx hb hr hlk dX1_isWhat_14 (b2i_nar _) (by simp [isWb, b2i, c_1, c_2])
    · refine lv_iconst (v := 1) hx hb dX1_isWhat_9 (by decide) ?_
      refine lv_goto (tgt := 14) hx hb dX1_isWhat_10 (by decide) ?_
      exact xr_z hx hb hr hlk dX1_isWhat_14 (b2i_nar _) (by simp [isWb, b2i, c_1, c_2])
set_option maxHeartbeats 4000000 in
set_option maxRecDepth 100000 in
theorem c_X1_isHow (l : Launch) (a0 : Int32) : Met l yX1_isHow wsX1_isHow ({ frames := 0, cells := 0, slots := 0, locals := 0 }) (va_Pc [.int a0] (fun _ => True)) (QcRead (b2i (isHb a0))) 0 0 (fun _ => False) := by
  refine xs_in (cc := cX1_isHow) (maxL := 1) (ret := (some .boolean)) (by decide) rfl (Nat.le_of_ble_eq_true rfl) ?_
  intro p e s m below meth c ls hx hb hr hml hts hown hlk hl
  have hown : s.vm.findClass RX1 = some m.cls := hown
  have hl : lv_has ls 1 [(0, .int a0)] := hl
  refine lv_iload_n hx hb dX1_isHow_0 rfl (lv_at hl 0 rfl) ?_
  refine lv_if_lt (tgt := 13) hx hb dX1_isHow_1 (by decide) (fun c_1 => ?_) (fun c_1 => ?_)
  · refine lv_iconst (v := 0) hx hb dX1_isHow_13 (by decide) ?_
    exact xr_z hx hb hr hlk dX1_isHow_14 (b2i_nar _) (by simp [isHb, b2i, c_1])
  · refine lv_iload_n hx hb dX1_isHow_4 rfl (lv_at hl 0 rfl) ?_
    refine lv_iconst (v := 5) hx hb dX1_isHow_5 (by decide) ?_
    refine lv_icmp_gt (tgt := 13) hx hb dX1_isHow_6 (by decide) (fun c_2 => ?_) (fun c_2 => ?_)
    · refine lv_iconst (v := 0) hx hb dX1_isHow_13 (by decide) ?_
      exact xr_z hx hb hr hlk dX1_isHow_14 (b2i_nar _) (by simp [isHb, b2i, c_1, c_2])
    · refine lv_iconst (v := 1) hx hb dX1_isHow_9 (by decide) ?_
      refine lv_goto (tgt := 14) hx hb dX1_isHow_10 (by decide) ?_
      exact xr_z hx hb hr hlk dX1_isHow_14 (b2i_nar _) (by simp [isHb, b2i, c_1, c_2])
set_option maxHeartbeats 4000000 in
set_option maxRecDepth 100000 in
theorem c_X1_isQuestion (l : Launch) (a0 a1 : Int32) : Met l yX1_isQuestion wsX1_isQuestion ({ frames := 1, cells := 0, slots := 0, locals := 20 }) (va_Pc [.int a0, .int a1] (fun _ => True)) (QcRead (b2i (isQb a0 a1))) 0 0 (fun _ => False) := by
  refine xs_in (cc := cX1_isQuestion) (maxL := 2) (ret := (some .boolean)) (by decide) rfl (Nat.le_of_ble_eq_true rfl) ?_
  intro p e s m below meth c ls hx hb hr hml hts hown hlk hl
  have hown : s.vm.findClass RX1 = some m.cls := hown
  have hl : lv_has ls 2 [(0, .int a0), (1, .int a1)] := hl
  refine lv_iload_n hx hb dX1_isQuestion_0 rfl (lv_at hl 0 rfl) ?_
  refine xc_T (As := [.int a0]) (rest := []) ⟨hx, hb, hml, hown, hts⟩ (c_X1_isWhat l a0) (va_cwS 1 hts gX1_isQuestion_X1_isWhat rfl rfl rfl (by decide +kernel) ⟨Nat.le_of_ble_eq_true rfl, Nat.le_of_ble_eq_true rfl⟩) rfl hl.1 rfl (Nat.le_of_ble_eq_true rfl) dX1_isQuestion_1 ⟨Nat.zero_le _, Nat.zero_le _⟩ ?_
  refine lv_if_eq (tgt := 18) hx hb dX1_isQuestion_4 (by decide) (fun c_1 => ?_) (fun c_1 => ?_)
  · have c_1 := b2i_e c_1
    refine lv_iconst (v := 0) hx hb dX1_isQuestion_18 (by decide) ?_
    exact xr_z hx hb hr hlk dX1_isQuestion_19 (b2i_nar _) (by simp [isQb, b2i, c_1])
  · have c_1 := b2i_n c_1
    refine lv_iload_n hx hb dX1_isQuestion_7 rfl (lv_at hl 1 rfl) ?_
    refine xc_T (As := [.int a1]) (rest := []) ⟨hx, hb, hml, hown, hts⟩ (c_X1_isHow l a1) (va_cwS 1 hts gX1_isQuestion_X1_isHow rfl rfl rfl (by decide +kernel) ⟨Nat.le_of_ble_eq_true rfl, Nat.le_of_ble_eq_true rfl⟩) rfl hl.1 rfl (Nat.le_of_ble_eq_true rfl) dX1_isQuestion_8 ⟨Nat.zero_le _, Nat.zero_le _⟩ ?_
    refine lv_if_eq (tgt := 18) hx hb dX1_isQuestion_11 (by decide) (fun c_2 => ?_) (fun c_2 => ?_)
    · have c_2 := b2i_e c_2
      refine lv_iconst (v := 0) hx hb dX1_isQuestion_18 (by decide) ?_
      exact xr_z hx hb hr hlk dX1_isQuestion_19 (b2i_nar _) (by simp [isQb, b2i, c_1, c_2])
    · have c_2 := b2i_n c_2
      refine lv_iconst (v := 1) hx hb dX1_isQuestion_14 (by decide) ?_
      refine lv_goto (tgt := 19) hx hb dX1_isQuestion_15 (by decide) ?_
      exact xr_z hx hb hr hlk dX1_isQuestion_19 (b2i_nar _) (by simp [isQb, b2i, c_1, c_2])
set_option maxHeartbeats 4000000 in
set_option maxRecDepth 100000 in
theorem c_X1_isString (l : Launch) (a0 : Int32) : Met l yX1_isString wsX1_isString ({ frames := 0, cells := 0, slots := 0, locals := 0 }) (va_Pc [.int a0] (fun _ => True)) (QcRead (b2i (isSb a0))) 0 0 (fun _ => False) := by
  refine xs_in (cc := cX1_isString) (maxL := 1) (ret := (some .boolean)) (by decide) rfl (Nat.le_of_ble_eq_true rfl) ?_
  intro p e s m below meth c ls hx hb hr hml hts hown hlk hl
  have hown : s.vm.findClass RX1 = some m.cls := hown
  have hl : lv_has ls 1 [(0, .int a0)] := hl
  refine lv_iload_n hx hb dX1_isString_0 rfl (lv_at hl 0 rfl) ?_
  refine lv_if_lt (tgt := 14) hx hb dX1_isString_1 (by decide) (fun c_1 => ?_) (fun c_1 => ?_)
  · refine lv_iconst (v := 0) hx hb dX1_isString_14 (by decide) ?_
    exact xr_z hx hb hr hlk dX1_isString_15 (b2i_nar _) (by simp [isSb, b2i, c_1])
  · refine lv_iload_n hx hb dX1_isString_4 rfl (lv_at hl 0 rfl) ?_
    refine lv_bipush (v := 32) hx hb dX1_isString_5 (by decide) ?_
    refine lv_icmp_ge (tgt := 14) hx hb dX1_isString_7 (by decide) (fun c_2 => ?_) (fun c_2 => ?_)
    · refine lv_iconst (v := 0) hx hb dX1_isString_14 (by decide) ?_
      exact xr_z hx hb hr hlk dX1_isString_15 (b2i_nar _) (by simp [isSb, b2i, c_1, c_2])
    · refine lv_iconst (v := 1) hx hb dX1_isString_10 (by decide) ?_
      refine lv_goto (tgt := 15) hx hb dX1_isString_11 (by decide) ?_
      exact xr_z hx hb hr hlk dX1_isString_15 (b2i_nar _) (by simp [isSb, b2i, c_1, c_2])
set_option maxHeartbeats 4000000 in
set_option maxRecDepth 100000 in
theorem c_X1_isStringOrFork (l : Launch) (a0 : Int32) : Met l yX1_isStringOrFork wsX1_isStringOrFork ({ frames := 1, cells := 0, slots := 0, locals := 20 }) (va_Pc [.int a0] (fun _ => True)) (QcRead (b2i (isFb a0))) 0 0 (fun _ => False) := by
  refine xs_in (cc := cX1_isStringOrFork) (maxL := 1) (ret := (some .boolean)) (by decide) rfl (Nat.le_of_ble_eq_true rfl) ?_
  intro p e s m below meth c ls hx hb hr hml hts hown hlk hl
  have hown : s.vm.findClass RX1 = some m.cls := hown
  have hl : lv_has ls 1 [(0, .int a0)] := hl
  refine lv_iload_n hx hb dX1_isStringOrFork_0 rfl (lv_at hl 0 rfl) ?_
  refine xc_T (As := [.int a0]) (rest := []) ⟨hx, hb, hml, hown, hts⟩ (c_X1_isString l a0) (va_cwS 1 hts gX1_isStringOrFork_X1_isString rfl rfl rfl (by decide +kernel) ⟨Nat.le_of_ble_eq_true rfl, Nat.le_of_ble_eq_true rfl⟩) rfl hl.1 rfl (Nat.le_of_ble_eq_true rfl) dX1_isStringOrFork_1 ⟨Nat.zero_le _, Nat.zero_le _⟩ ?_
  refine lv_if_ne (tgt := 13) hx hb dX1_isStringOrFork_4 (by decide) (fun c_1 => ?_) (fun c_1 => ?_)
  · have c_1 := b2i_n c_1
    refine lv_iconst (v := 1) hx hb dX1_isStringOrFork_13 (by decide) ?_
    refine lv_goto (tgt := 18) hx hb dX1_isStringOrFork_14 (by decide) ?_
    exact xr_z hx hb hr hlk dX1_isStringOrFork_18 (b2i_nar _) (by simp [isFb, b2i, c_1])
  · have c_1 := b2i_e c_1
    refine lv_iload_n hx hb dX1_isStringOrFork_7 rfl (lv_at hl 0 rfl) ?_
    refine lv_bipush (v := 32) hx hb dX1_isStringOrFork_8 (by decide) ?_
    refine lv_icmp_ne (tgt := 17) hx hb dX1_isStringOrFork_10 (by decide) (fun c_2 => ?_) (fun c_2 => ?_)
    · refine lv_iconst (v := 0) hx hb dX1_isStringOrFork_17 (by decide) ?_
      exact xr_z hx hb hr hlk dX1_isStringOrFork_18 (b2i_nar _) (by simp [isFb, b2i, c_1, c_2])
    · refine lv_iconst (v := 1) hx hb dX1_isStringOrFork_13 (by decide) ?_
      refine lv_goto (tgt := 18) hx hb dX1_isStringOrFork_14 (by decide) ?_
      exact xr_z hx hb hr hlk dX1_isStringOrFork_18 (b2i_nar _) (by simp [isFb, b2i, c_1, c_2])
set_option maxHeartbeats 4000000 in
set_option maxRecDepth 100000 in
theorem c_X1_isGuard (l : Launch) (a0 : Int32) : Met l yX1_isGuard wsX1_isGuard ({ frames := 0, cells := 0, slots := 0, locals := 0 }) (va_Pc [.int a0] (fun _ => True)) (QcRead (b2i (isGb a0))) 0 0 (fun _ => False) := by
  refine xs_in (cc := cX1_isGuard) (maxL := 1) (ret := (some .boolean)) (by decide) rfl (Nat.le_of_ble_eq_true rfl) ?_
  intro p e s m below meth c ls hx hb hr hml hts hown hlk hl
  have hown : s.vm.findClass RX1 = some m.cls := hown
  have hl : lv_has ls 1 [(0, .int a0)] := hl
  refine lv_iload_n hx hb dX1_isGuard_0 rfl (lv_at hl 0 rfl) ?_
  refine lv_if_lt (tgt := 14) hx hb dX1_isGuard_1 (by decide) (fun c_1 => ?_) (fun c_1 => ?_)
  · refine lv_iconst (v := 0) hx hb dX1_isGuard_14 (by decide) ?_
    exact xr_z hx hb hr hlk dX1_isGuard_15 (b2i_nar _) (by simp [isGb, b2i, c_1])
  · refine lv_iload_n hx hb dX1_isGuard_4 rfl (lv_at hl 0 rfl) ?_
    refine lv_bipush (v := 8) hx hb dX1_isGuard_5 (by decide) ?_
    refine lv_icmp_ge (tgt := 14) hx hb dX1_isGuard_7 (by decide) (fun c_2 => ?_) (fun c_2 => ?_)
    · refine lv_iconst (v := 0) hx hb dX1_isGuard_14 (by decide) ?_
      exact xr_z hx hb hr hlk dX1_isGuard_15 (b2i_nar _) (by simp [isGb, b2i, c_1, c_2])
    · refine lv_iconst (v := 1) hx hb dX1_isGuard_10 (by decide) ?_
      refine lv_goto (tgt := 15) hx hb dX1_isGuard_11 (by decide) ?_
      exact xr_z hx hb hr hlk dX1_isGuard_15 (b2i_nar _) (by simp [isGb, b2i, c_1, c_2])
set_option maxHeartbeats 4000000 in
set_option maxRecDepth 100000 in
theorem c_X1_isMode (l : Launch) (a0 : Int32) : Met l yX1_isMode wsX1_isMode ({ frames := 0, cells := 0, slots := 0, locals := 0 }) (va_Pc [.int a0] (fun _ => True)) (QcRead (b2i (isMb a0))) 0 0 (fun _ => False) := by
  refine xs_in (cc := cX1_isMode) (maxL := 1) (ret := (some .boolean)) (by decide) rfl (Nat.le_of_ble_eq_true rfl) ?_
  intro p e s m below meth c ls hx hb hr hml hts hown hlk hl
  have hown : s.vm.findClass RX1 = some m.cls := hown
  have hl : lv_has ls 1 [(0, .int a0)] := hl
  refine lv_iload_n hx hb dX1_isMode_0 rfl (lv_at hl 0 rfl) ?_
  refine lv_if_lt (tgt := 13) hx hb dX1_isMode_1 (by decide) (fun c_1 => ?_) (fun c_1 => ?_)
  · refine lv_iconst (v := 0) hx hb dX1_isMode_13 (by decide) ?_
    exact xr_z hx hb hr hlk dX1_isMode_14 (b2i_nar _) (by simp [isMb, b2i, c_1])
  · refine lv_iload_n hx hb dX1_isMode_4 rfl (lv_at hl 0 rfl) ?_
    refine lv_iconst (v := 2) hx hb dX1_isMode_5 (by decide) ?_
    refine lv_icmp_gt (tgt := 13) hx hb dX1_isMode_6 (by decide) (fun c_2 => ?_) (fun c_2 => ?_)
    · refine lv_iconst (v := 0) hx hb dX1_isMode_13 (by decide) ?_
      exact xr_z hx hb hr hlk dX1_isMode_14 (b2i_nar _) (by simp [isMb, b2i, c_1, c_2])
    · refine lv_iconst (v := 1) hx hb dX1_isMode_9 (by decide) ?_
      refine lv_goto (tgt := 14) hx hb dX1_isMode_10 (by decide) ?_
      exact xr_z hx hb hr hlk dX1_isMode_14 (b2i_nar _) (by simp [isMb, b2i, c_1, c_2])
set_option maxHeartbeats 4000000 in
set_option maxRecDepth 100000 in
theorem c_X1_isValue (l : Launch) (a0 a1 : Int32) : Met l yX1_isValue wsX1_isValue ({ frames := 0, cells := 0, slots := 0, locals := 0 }) (va_Pc [.int a0, .int a1] (fun _ => True)) (QcRead (b2i (isVb a0 a1))) 0 0 (fun _ => False) := by
  refine xs_in (cc := cX1_isValue) (maxL := 2) (ret := (some .boolean)) (by decide) rfl (Nat.le_of_ble_eq_true rfl) ?_
  intro p e s m below meth c ls hx hb hr hml hts hown hlk hl
  have hown : s.vm.findClass RX1 = some m.cls := hown
  have hl : lv_has ls 2 [(0, .int a0), (1, .int a1)] := hl
  refine lv_iload_n hx hb dX1_isValue_0 rfl (lv_at hl 0 rfl) ?_
  refine lv_if_ne (tgt := 22) hx hb dX1_isValue_1 (by decide) (fun c_1 => ?_) (fun c_1 => ?_)
  · refine lv_iload_n hx hb dX1_isValue_22 rfl (lv_at hl 0 rfl) ?_
    refine lv_iconst (v := 1) hx hb dX1_isValue_23 (by decide) ?_
    refine lv_icmp_lt (tgt := 36) hx hb dX1_isValue_24 (by decide) (fun c_2 => ?_) (fun c_2 => ?_)
    · refine lv_iconst (v := 0) hx hb dX1_isValue_36 (by decide) ?_
      exact xr_z hx hb hr hlk dX1_isValue_37 (b2i_nar _) (by simp [isVb, b2i, c_1, c_2])
    · refine lv_iload_n hx hb dX1_isValue_27 rfl (lv_at hl 0 rfl) ?_
      refine lv_iconst (v := 4) hx hb dX1_isValue_28 (by decide) ?_
      refine lv_icmp_gt (tgt := 36) hx hb dX1_isValue_29 (by decide) (fun c_3 => ?_) (fun c_3 => ?_)
      · refine lv_iconst (v := 0) hx hb dX1_isValue_36 (by decide) ?_
        exact xr_z hx hb hr hlk dX1_isValue_37 (b2i_nar _) (by simp [isVb, b2i, c_1, c_2, c_3])
      · refine lv_iconst (v := 1) hx hb dX1_isValue_32 (by decide) ?_
        refine lv_goto (tgt := 37) hx hb dX1_isValue_33 (by decide) ?_
        exact xr_z hx hb hr hlk dX1_isValue_37 (b2i_nar _) (by simp [isVb, b2i, c_1, c_2, c_3])
  · refine lv_iload_n hx hb dX1_isValue_4 rfl (lv_at hl 1 rfl) ?_
    refine lv_ldc (v := -40000) hx hb hown (hts (.constant RX1 93 (-40000)) (by decide +kernel)) dX1_isValue_5 ?_
    refine lv_icmp_lt (tgt := 20) hx hb dX1_isValue_7 (by decide) (fun c_4 => ?_) (fun c_4 => ?_)
    · refine lv_iconst (v := 0) hx hb dX1_isValue_20 (by decide) ?_
      exact xr_z hx hb hr hlk dX1_isValue_21 (b2i_nar _) (by simp [isVb, b2i, c_1, c_4])
    · refine lv_iload_n hx hb dX1_isValue_10 rfl (lv_at hl 1 rfl) ?_
      refine lv_ldc (v := 40000) hx hb hown (hts (.constant RX1 94 (40000)) (by decide +kernel)) dX1_isValue_11 ?_
      refine lv_icmp_gt (tgt := 20) hx hb dX1_isValue_13 (by decide) (fun c_5 => ?_) (fun c_5 => ?_)
      · refine lv_iconst (v := 0) hx hb dX1_isValue_20 (by decide) ?_
        exact xr_z hx hb hr hlk dX1_isValue_21 (b2i_nar _) (by simp [isVb, b2i, c_1, c_4, c_5])
      · refine lv_iconst (v := 1) hx hb dX1_isValue_16 (by decide) ?_
        refine lv_goto (tgt := 21) hx hb dX1_isValue_17 (by decide) ?_
        exact xr_z hx hb hr hlk dX1_isValue_21 (b2i_nar _) (by simp [isVb, b2i, c_1, c_4, c_5])
set_option maxHeartbeats 4000000 in
set_option maxRecDepth 100000 in
theorem c_X1_valueOf (l : Launch) (a0 a1 : Int32) : Met l yX1_valueOf wsX1_valueOf ({ frames := 0, cells := 0, slots := 0, locals := 0 }) (va_Pc [.int a0, .int a1] (fun _ => True)) (QcRead (valF a0 a1)) 0 0 (fun _ => False) := by
  refine xs_in (cc := cX1_valueOf) (maxL := 2) (ret := (some .int)) (by decide) rfl (Nat.le_of_ble_eq_true rfl) ?_
  intro p e s m below meth c ls hx hb hr hml hts hown hlk hl
  have hown : s.vm.findClass RX1 = some m.cls := hown
  have hl : lv_has ls 2 [(0, .int a0), (1, .int a1)] := hl
  refine lv_iload_n hx hb dX1_valueOf_0 rfl (lv_at hl 0 rfl) ?_
  by_cases q_1 : a0 = 0
  · refine lv_tableIn (off := 35) (tgt := 36) hx hb dX1_valueOf_1 (by rw [q_1]; decide) (by rw [q_1]; decide) (by rw [q_1]; rfl) (by decide) ?_
    refine lv_iload_n hx hb dX1_valueOf_36 rfl (lv_at hl 1 rfl) ?_
    exact xr_i hx hb hr hlk dX1_valueOf_37 (by simp [valF, b2i, q_1])
  by_cases q_2 : a0 = 1
  · refine lv_tableIn (off := 46) (tgt := 47) hx hb dX1_valueOf_1 (by rw [q_2]; decide) (by rw [q_2]; decide) (by rw [q_2]; rfl) (by decide) ?_
    refine lv_ldc (v := 40003) hx hb hown (hts (.constant RX1 30 (40003)) (by decide +kernel)) dX1_valueOf_47 ?_
    exact xr_i hx hb hr hlk dX1_valueOf_49 (by simp [valF, b2i, q_2])
  by_cases q_3 : a0 = 2
  · refine lv_tableIn (off := 37) (tgt := 38) hx hb dX1_valueOf_1 (by rw [q_3]; decide) (by rw [q_3]; decide) (by rw [q_3]; rfl) (by decide) ?_
    refine lv_ldc (v := 40002) hx hb hown (hts (.constant RX1 95 (40002)) (by decide +kernel)) dX1_valueOf_38 ?_
    exact xr_i hx hb hr hlk dX1_valueOf_40 (by simp [valF, b2i, q_3])
  by_cases q_4 : a0 = 3
  · refine lv_tableIn (off := 40) (tgt := 41) hx hb dX1_valueOf_1 (by rw [q_4]; decide) (by rw [q_4]; decide) (by rw [q_4]; rfl) (by decide) ?_
    refine lv_ldc (v := 40001) hx hb hown (hts (.constant RX1 96 (40001)) (by decide +kernel)) dX1_valueOf_41 ?_
    exact xr_i hx hb hr hlk dX1_valueOf_43 (by simp [valF, b2i, q_4])
  by_cases q_5 : a0 = 4
  · refine lv_tableIn (off := 43) (tgt := 44) hx hb dX1_valueOf_1 (by rw [q_5]; decide) (by rw [q_5]; decide) (by rw [q_5]; rfl) (by decide) ?_
    refine lv_ldc (v := -40001) hx hb hown (hts (.constant RX1 97 (-40001)) (by decide +kernel)) dX1_valueOf_44 ?_
    exact xr_i hx hb hr hlk dX1_valueOf_46 (by simp [valF, b2i, q_5])
  refine lv_tableOut (tgt := 47) hx hb dX1_valueOf_1 (by simp only [i32_eq] at q_1 q_2 q_3 q_4 q_5; simp at q_1 q_2 q_3 q_4 q_5 ⊢; omega) (by decide) ?_
  refine lv_ldc (v := 40003) hx hb hown (hts (.constant RX1 30 (40003)) (by decide +kernel)) dX1_valueOf_47 ?_
  exact xr_i hx hb hr hlk dX1_valueOf_49 (by simp [valF, b2i, q_1, q_2, q_3, q_4, q_5])
set_option maxHeartbeats 4000000 in
set_option maxRecDepth 100000 in
theorem c_X1_sortOf (l : Launch) (a0 : Int32) : Met l yX1_sortOf wsX1_sortOf ({ frames := 0, cells := 0, slots := 0, locals := 0 }) (va_Pc [.int a0] (fun _ => True)) (QcRead (srtF a0)) 0 0 (fun _ => False) := by
  refine xs_in (cc := cX1_sortOf) (maxL := 1) (ret := (some .int)) (by decide) rfl (Nat.le_of_ble_eq_true rfl) ?_
  intro p e s m below meth c ls hx hb hr hml hts hown hlk hl
  have hown : s.vm.findClass RX1 = some m.cls := hown
  have hl : lv_has ls 1 [(0, .int a0)] := hl
  refine lv_iload_n hx hb dX1_sortOf_0 rfl (lv_at hl 0 rfl) ?_
  by_cases q_1 : a0 = -40001
  · refine lv_lookup (off := 49) (tgt := 50) hx hb dX1_sortOf_1 (by decide) (by rw [q_1]; rfl) (by decide) ?_
    refine lv_iconst (v := 4) hx hb dX1_sortOf_50 (by decide) ?_
    exact xr_i hx hb hr hlk dX1_sortOf_51 (by simp [srtF, b2i, q_1])
  by_cases q_2 : a0 = 40001
  · refine lv_lookup (off := 47) (tgt := 48) hx hb dX1_sortOf_1 (by decide) (by rw [q_2]; rfl) (by decide) ?_
    refine lv_iconst (v := 3) hx hb dX1_sortOf_48 (by decide) ?_
    exact xr_i hx hb hr hlk dX1_sortOf_49 (by simp [srtF, b2i, q_2])
  by_cases q_3 : a0 = 40002
  · refine lv_lookup (off := 45) (tgt := 46) hx hb dX1_sortOf_1 (by decide) (by rw [q_3]; rfl) (by decide) ?_
    refine lv_iconst (v := 2) hx hb dX1_sortOf_46 (by decide) ?_
    exact xr_i hx hb hr hlk dX1_sortOf_47 (by simp [srtF, b2i, q_3])
  by_cases q_4 : a0 = 40003
  · refine lv_lookup (off := 43) (tgt := 44) hx hb dX1_sortOf_1 (by decide) (by rw [q_4]; rfl) (by decide) ?_
    refine lv_iconst (v := 1) hx hb dX1_sortOf_44 (by decide) ?_
    exact xr_i hx hb hr hlk dX1_sortOf_45 (by simp [srtF, b2i, q_4])
  refine lv_lookup (off := 51) (tgt := 52) hx hb dX1_sortOf_1 (by decide) ((lv_osw q_1 (by decide)).trans ((lv_osw q_2 (by decide)).trans ((lv_osw q_3 (by decide)).trans ((lv_osw q_4 (by decide)).trans rfl)))) (by decide) ?_
  refine lv_iconst (v := 0) hx hb dX1_sortOf_52 (by decide) ?_
  exact xr_i hx hb hr hlk dX1_sortOf_53 (by simp [srtF, b2i, q_1, q_2, q_3, q_4])
set_option maxHeartbeats 4000000 in
set_option maxRecDepth 100000 in
theorem c_X1_sizeOf (l : Launch) (a0 : Int32) : Met l yX1_sizeOf wsX1_sizeOf ({ frames := 0, cells := 0, slots := 0, locals := 0 }) (va_Pc [.int a0] (fun _ => True)) (QcRead (sizF a0)) 0 0 (fun _ => False) := by
  refine xs_in (cc := cX1_sizeOf) (maxL := 1) (ret := (some .int)) (by decide) rfl (Nat.le_of_ble_eq_true rfl) ?_
  intro p e s m below meth c ls hx hb hr hml hts hown hlk hl
  have hown : s.vm.findClass RX1 = some m.cls := hown
  have hl : lv_has ls 1 [(0, .int a0)] := hl
  refine lv_iload_n hx hb dX1_sizeOf_0 rfl (lv_at hl 0 rfl) ?_
  refine lv_ldc (v := 40002) hx hb hown (hts (.constant RX1 95 (40002)) (by decide +kernel)) dX1_sizeOf_1 ?_
  refine lv_icmp_ne (tgt := 10) hx hb dX1_sizeOf_3 (by decide) (fun c_1 => ?_) (fun c_1 => ?_)
  · refine lv_iload_n hx hb dX1_sizeOf_10 rfl (lv_at hl 0 rfl) ?_
    exact xr_i hx hb hr hlk dX1_sizeOf_11 (by simp [sizF, b2i, c_1])
  · refine lv_iconst (v := 0) hx hb dX1_sizeOf_6 (by decide) ?_
    refine lv_goto (tgt := 11) hx hb dX1_sizeOf_7 (by decide) ?_
    exact xr_i hx hb hr hlk dX1_sizeOf_11 (by simp [sizF, b2i, c_1])
set_option maxHeartbeats 4000000 in
set_option maxRecDepth 100000 in
theorem c_X1_sizeStands (l : Launch) (a0 a1 a2 : Int32) : Met l yX1_sizeStands wsX1_sizeStands ({ frames := 0, cells := 0, slots := 0, locals := 0 }) (va_Pc [.int a0, .int a1, .int a2] (fun _ => True)) (QcRead (b2i (szsF a0 a1 a2))) 0 0 (fun _ => False) := by
  refine xs_in (cc := cX1_sizeStands) (maxL := 3) (ret := (some .boolean)) (by decide) rfl (Nat.le_of_ble_eq_true rfl) ?_
  intro p e s m below meth c ls hx hb hr hml hts hown hlk hl
  have hown : s.vm.findClass RX1 = some m.cls := hown
  have hl : lv_has ls 3 [(0, .int a0), (1, .int a1), (2, .int a2)] := hl
  refine lv_iload_n hx hb dX1_sizeStands_0 rfl (lv_at hl 0 rfl) ?_
  by_cases q_1 : a0 = 0
  · refine lv_tableIn (off := 35) (tgt := 36) hx hb dX1_sizeStands_1 (by rw [q_1]; decide) (by rw [q_1]; decide) (by rw [q_1]; rfl) (by decide) ?_
    refine lv_iload_n hx hb dX1_sizeStands_36 rfl (lv_at hl 1 rfl) ?_
    refine lv_iload_n hx hb dX1_sizeStands_37 rfl (lv_at hl 2 rfl) ?_
    refine lv_icmp_ge (tgt := 45) hx hb dX1_sizeStands_38 (by decide) (fun c_2 => ?_) (fun c_2 => ?_)
    · refine lv_iconst (v := 0) hx hb dX1_sizeStands_45 (by decide) ?_
      exact xr_z hx hb hr hlk dX1_sizeStands_46 (b2i_nar _) (by simp [szsF, b2i, q_1, c_2])
    · refine lv_iconst (v := 1) hx hb dX1_sizeStands_41 (by decide) ?_
      refine lv_goto (tgt := 46) hx hb dX1_sizeStands_42 (by decide) ?_
      exact xr_z hx hb hr hlk dX1_sizeStands_46 (b2i_nar _) (by simp [szsF, b2i, q_1, c_2])
  by_cases q_3 : a0 = 1
  · refine lv_tableIn (off := 46) (tgt := 47) hx hb dX1_sizeStands_1 (by rw [q_3]; decide) (by rw [q_3]; decide) (by rw [q_3]; rfl) (by decide) ?_
    refine lv_iload_n hx hb dX1_sizeStands_47 rfl (lv_at hl 1 rfl) ?_
    refine lv_iload_n hx hb dX1_sizeStands_48 rfl (lv_at hl 2 rfl) ?_
    refine lv_icmp_gt (tgt := 56) hx hb dX1_sizeStands_49 (by decide) (fun c_4 => ?_) (fun c_4 => ?_)
    · refine lv_iconst (v := 0) hx hb dX1_sizeStands_56 (by decide) ?_
      exact xr_z hx hb hr hlk dX1_sizeStands_57 (b2i_nar _) (by simp [szsF, b2i, q_3, c_4])
    · refine lv_iconst (v := 1) hx hb dX1_sizeStands_52 (by decide) ?_
      refine lv_goto (tgt := 57) hx hb dX1_sizeStands_53 (by decide) ?_
      exact xr_z hx hb hr hlk dX1_sizeStands_57 (b2i_nar _) (by simp [szsF, b2i, q_3, c_4])
  by_cases q_5 : a0 = 2
  · refine lv_tableIn (off := 57) (tgt := 58) hx hb dX1_sizeStands_1 (by rw [q_5]; decide) (by rw [q_5]; decide) (by rw [q_5]; rfl) (by decide) ?_
    refine lv_iload_n hx hb dX1_sizeStands_58 rfl (lv_at hl 1 rfl) ?_
    refine lv_iload_n hx hb dX1_sizeStands_59 rfl (lv_at hl 2 rfl) ?_
    refine lv_icmp_le (tgt := 67) hx hb dX1_sizeStands_60 (by decide) (fun c_6 => ?_) (fun c_6 => ?_)
    · refine lv_iconst (v := 0) hx hb dX1_sizeStands_67 (by decide) ?_
      exact xr_z hx hb hr hlk dX1_sizeStands_68 (b2i_nar _) (by simp [szsF, b2i, q_5, c_6])
    · refine lv_iconst (v := 1) hx hb dX1_sizeStands_63 (by decide) ?_
      refine lv_goto (tgt := 68) hx hb dX1_sizeStands_64 (by decide) ?_
      exact xr_z hx hb hr hlk dX1_sizeStands_68 (b2i_nar _) (by simp [szsF, b2i, q_5, c_6])
  by_cases q_7 : a0 = 3
  · refine lv_tableIn (off := 68) (tgt := 69) hx hb dX1_sizeStands_1 (by rw [q_7]; decide) (by rw [q_7]; decide) (by rw [q_7]; rfl) (by decide) ?_
    refine lv_iload_n hx hb dX1_sizeStands_69 rfl (lv_at hl 1 rfl) ?_
    refine lv_iload_n hx hb dX1_sizeStands_70 rfl (lv_at hl 2 rfl) ?_
    refine lv_icmp_lt (tgt := 78) hx hb dX1_sizeStands_71 (by decide) (fun c_8 => ?_) (fun c_8 => ?_)
    · refine lv_iconst (v := 0) hx hb dX1_sizeStands_78 (by decide) ?_
      exact xr_z hx hb hr hlk dX1_sizeStands_79 (b2i_nar _) (by simp [szsF, b2i, q_7, c_8])
    · refine lv_iconst (v := 1) hx hb dX1_sizeStands_74 (by decide) ?_
      refine lv_goto (tgt := 79) hx hb dX1_sizeStands_75 (by decide) ?_
      exact xr_z hx hb hr hlk dX1_sizeStands_79 (b2i_nar _) (by simp [szsF, b2i, q_7, c_8])
  by_cases q_9 : a0 = 4
  · refine lv_tableIn (off := 79) (tgt := 80) hx hb dX1_sizeStands_1 (by rw [q_9]; decide) (by rw [q_9]; decide) (by rw [q_9]; rfl) (by decide) ?_
    refine lv_iload_n hx hb dX1_sizeStands_80 rfl (lv_at hl 1 rfl) ?_
    refine lv_iload_n hx hb dX1_sizeStands_81 rfl (lv_at hl 2 rfl) ?_
    refine lv_icmp_ne (tgt := 89) hx hb dX1_sizeStands_82 (by decide) (fun c_10 => ?_) (fun c_10 => ?_)
    · refine lv_iconst (v := 0) hx hb dX1_sizeStands_89 (by decide) ?_
      exact xr_z hx hb hr hlk dX1_sizeStands_90 (b2i_nar _) (by simp [szsF, b2i, q_9, c_10])
    · refine lv_iconst (v := 1) hx hb dX1_sizeStands_85 (by decide) ?_
      refine lv_goto (tgt := 90) hx hb dX1_sizeStands_86 (by decide) ?_
      exact xr_z hx hb hr hlk dX1_sizeStands_90 (b2i_nar _) (by simp [szsF, b2i, q_9, c_10])
  refine lv_tableOut (tgt := 91) hx hb dX1_sizeStands_1 (by simp only [i32_eq] at q_1 q_3 q_5 q_7 q_9; simp at q_1 q_3 q_5 q_7 q_9 ⊢; omega) (by decide) ?_
  refine lv_iload_n hx hb dX1_sizeStands_91 rfl (lv_at hl 1 rfl) ?_
  refine lv_iload_n hx hb dX1_sizeStands_92 rfl (lv_at hl 2 rfl) ?_
  refine lv_icmp_eq (tgt := 100) hx hb dX1_sizeStands_93 (by decide) (fun c_11 => ?_) (fun c_11 => ?_)
  · refine lv_iconst (v := 0) hx hb dX1_sizeStands_100 (by decide) ?_
    exact xr_z hx hb hr hlk dX1_sizeStands_101 (b2i_nar _) (by simp [szsF, b2i, q_1, q_3, q_5, q_7, q_9, c_11])
  · refine lv_iconst (v := 1) hx hb dX1_sizeStands_96 (by decide) ?_
    refine lv_goto (tgt := 101) hx hb dX1_sizeStands_97 (by decide) ?_
    exact xr_z hx hb hr hlk dX1_sizeStands_101 (b2i_nar _) (by simp [szsF, b2i, q_1, q_3, q_5, q_7, q_9, c_11])
set_option maxHeartbeats 4000000 in
set_option maxRecDepth 100000 in
theorem c_X1_valueStands (l : Launch) (a0 a1 a2 : Int32) : Met l yX1_valueStands wsX1_valueStands ({ frames := 1, cells := 0, slots := 0, locals := 22 }) (va_Pc [.int a0, .int a1, .int a2] (fun _ => True)) (QcRead (b2i (stnF a0 a1 a2))) 0 0 (fun _ => False) := by
  refine xs_in (cc := cX1_valueStands) (maxL := 3) (ret := (some .boolean)) (by decide) rfl (Nat.le_of_ble_eq_true rfl) ?_
  intro p e s m below meth c ls hx hb hr hml hts hown hlk hl
  have hown : s.vm.findClass RX1 = some m.cls := hown
  have hl : lv_has ls 3 [(0, .int a0), (1, .int a1), (2, .int a2)] := hl
  refine lv_iload_n hx hb dX1_valueStands_0 rfl (lv_at hl 1 rfl) ?_
  refine lv_ldc (v := 40003) hx hb hown (hts (.constant RX1 30 (40003)) (by decide +kernel)) dX1_valueStands_1 ?_
  refine lv_icmp_eq (tgt := 12) hx hb dX1_valueStands_3 (by decide) (fun c_1 => ?_) (fun c_1 => ?_)
  · refine lv_iload_n hx hb dX1_valueStands_12 rfl (lv_at hl 0 rfl) ?_
    refine lv_iconst (v := 5) hx hb dX1_valueStands_13 (by decide) ?_
    refine lv_icmp_ne (tgt := 21) hx hb dX1_valueStands_14 (by decide) (fun c_2 => ?_) (fun c_2 => ?_)
    · refine lv_iconst (v := 0) hx hb dX1_valueStands_21 (by decide) ?_
      exact xr_z hx hb hr hlk dX1_valueStands_22 (b2i_nar _) (by simp [stnF, b2i, c_1, c_2])
    · refine lv_iconst (v := 1) hx hb dX1_valueStands_17 (by decide) ?_
      refine lv_goto (tgt := 22) hx hb dX1_valueStands_18 (by decide) ?_
      exact xr_z hx hb hr hlk dX1_valueStands_22 (b2i_nar _) (by simp [stnF, b2i, c_1, c_2])
  · refine lv_iload_n hx hb dX1_valueStands_6 rfl (lv_at hl 2 rfl) ?_
    refine lv_ldc (v := 40003) hx hb hown (hts (.constant RX1 30 (40003)) (by decide +kernel)) dX1_valueStands_7 ?_
    refine lv_icmp_ne (tgt := 23) hx hb dX1_valueStands_9 (by decide) (fun c_3 => ?_) (fun c_3 => ?_)
    · refine lv_iload_n hx hb dX1_valueStands_23 rfl (lv_at hl 0 rfl) ?_
      refine lv_iload_n hx hb dX1_valueStands_24 rfl (lv_at hl 1 rfl) ?_
      refine xc_T (As := [.int a1]) (rest := [.int a0]) ⟨hx, hb, hml, hown, hts⟩ (c_X1_sizeOf l a1) (va_cwS 1 hts gX1_valueStands_X1_sizeOf rfl rfl rfl (by decide +kernel) ⟨Nat.le_of_ble_eq_true rfl, Nat.le_of_ble_eq_true rfl⟩) rfl hl.1 rfl (Nat.le_of_ble_eq_true rfl) dX1_valueStands_25 ⟨Nat.zero_le _, Nat.zero_le _⟩ ?_
      refine lv_iload_n hx hb dX1_valueStands_28 rfl (lv_at hl 2 rfl) ?_
      refine xc_T (As := [.int a2]) (rest := [.int (sizF a1), .int a0]) ⟨hx, hb, hml, hown, hts⟩ (c_X1_sizeOf l a2) (va_cwS 1 hts gX1_valueStands_X1_sizeOf rfl rfl rfl (by decide +kernel) ⟨Nat.le_of_ble_eq_true rfl, Nat.le_of_ble_eq_true rfl⟩) rfl hl.1 rfl (Nat.le_of_ble_eq_true rfl) dX1_valueStands_29 ⟨Nat.zero_le _, Nat.zero_le _⟩ ?_
      refine xc_T (As := [.int a0, .int (sizF a1), .int (sizF a2)]) (rest := []) ⟨hx, hb, hml, hown, hts⟩ (c_X1_sizeStands l a0 (sizF a1) (sizF a2)) (va_cwS 3 hts gX1_valueStands_X1_sizeStands rfl rfl rfl (by decide +kernel) ⟨Nat.le_of_ble_eq_true rfl, Nat.le_of_ble_eq_true rfl⟩) rfl hl.1 rfl (Nat.le_of_ble_eq_true rfl) dX1_valueStands_32 ⟨Nat.zero_le _, Nat.zero_le _⟩ ?_
      exact xr_z hx hb hr hlk dX1_valueStands_35 (b2i_nar _) (by simp [stnF, b2i, c_1, c_3])
    · refine lv_iload_n hx hb dX1_valueStands_12 rfl (lv_at hl 0 rfl) ?_
      refine lv_iconst (v := 5) hx hb dX1_valueStands_13 (by decide) ?_
      refine lv_icmp_ne (tgt := 21) hx hb dX1_valueStands_14 (by decide) (fun c_4 => ?_) (fun c_4 => ?_)
      · refine lv_iconst (v := 0) hx hb dX1_valueStands_21 (by decide) ?_
        exact xr_z hx hb hr hlk dX1_valueStands_22 (b2i_nar _) (by simp [stnF, b2i, c_1, c_3, c_4])
      · refine lv_iconst (v := 1) hx hb dX1_valueStands_17 (by decide) ?_
        refine lv_goto (tgt := 22) hx hb dX1_valueStands_18 (by decide) ?_
        exact xr_z hx hb hr hlk dX1_valueStands_22 (b2i_nar _) (by simp [stnF, b2i, c_1, c_3, c_4])
set_option maxHeartbeats 4000000 in
set_option maxRecDepth 100000 in
theorem c_X2_in (l : Launch) (a0 a1 a2 : Int32) : Met l yX2_in wsX2_in ({ frames := 0, cells := 0, slots := 0, locals := 0 }) (va_Pc [.int a0, .int a1, .int a2] (fun _ => True)) (QcRead (b2i (inB a0 a1 a2))) 0 0 (fun _ => False) := by
  refine xs_in (cc := cX2_in) (maxL := 3) (ret := (some .boolean)) (by decide) rfl (Nat.le_of_ble_eq_true rfl) ?_
  intro p e s m below meth c ls hx hb hr hml hts hown hlk hl
  have hown : s.vm.findClass RX2 = some m.cls := hown
  have hl : lv_has ls 3 [(0, .int a0), (1, .int a1), (2, .int a2)] := hl
  refine lv_iload_n hx hb dX2_in_0 rfl (lv_at hl 0 rfl) ?_
  refine lv_iload_n hx hb dX2_in_1 rfl (lv_at hl 1 rfl) ?_
  refine lv_icmp_lt (tgt := 14) hx hb dX2_in_2 (by decide) (fun c_1 => ?_) (fun c_1 => ?_)
  · refine lv_iconst (v := 0) hx hb dX2_in_14 (by decide) ?_
    exact xr_z hx hb hr hlk dX2_in_15 (b2i_nar _) (by simp [inB, b2i, c_1])
  · refine lv_iload_n hx hb dX2_in_5 rfl (lv_at hl 0 rfl) ?_
    refine lv_iload_n hx hb dX2_in_6 rfl (lv_at hl 2 rfl) ?_
    refine lv_icmp_gt (tgt := 14) hx hb dX2_in_7 (by decide) (fun c_2 => ?_) (fun c_2 => ?_)
    · refine lv_iconst (v := 0) hx hb dX2_in_14 (by decide) ?_
      exact xr_z hx hb hr hlk dX2_in_15 (b2i_nar _) (by simp [inB, b2i, c_1, c_2])
    · refine lv_iconst (v := 1) hx hb dX2_in_10 (by decide) ?_
      refine lv_goto (tgt := 15) hx hb dX2_in_11 (by decide) ?_
      exact xr_z hx hb hr hlk dX2_in_15 (b2i_nar _) (by simp [inB, b2i, c_1, c_2])
set_option maxHeartbeats 4000000 in
set_option maxRecDepth 100000 in
theorem c_X2_isString (l : Launch) (a0 : Int32) : Met l yX2_isString wsX2_isString ({ frames := 1, cells := 0, slots := 0, locals := 22 }) (va_Pc [.int a0] (fun _ => True)) (QcRead (b2i (isSb a0))) 0 0 (fun _ => False) := by
  refine xs_in (cc := cX2_isString) (maxL := 1) (ret := (some .boolean)) (by decide) rfl (Nat.le_of_ble_eq_true rfl) ?_
  intro p e s m below meth c ls hx hb hr hml hts hown hlk hl
  have hown : s.vm.findClass RX2 = some m.cls := hown
  have hl : lv_has ls 1 [(0, .int a0)] := hl
  refine lv_iload_n hx hb dX2_isString_0 rfl (lv_at hl 0 rfl) ?_
  refine lv_iconst (v := 0) hx hb dX2_isString_1 (by decide) ?_
  refine lv_bipush (v := 31) hx hb dX2_isString_2 (by decide) ?_
  refine xc_T (As := [.int a0, .int 0, .int 31]) (rest := []) ⟨hx, hb, hml, hown, hts⟩ (c_X2_in l a0 0 31) (va_cwS 3 hts gX2_isString_X2_in rfl rfl rfl (by decide +kernel) ⟨Nat.le_of_ble_eq_true rfl, Nat.le_of_ble_eq_true rfl⟩) rfl hl.1 rfl (Nat.le_of_ble_eq_true rfl) dX2_isString_4 ⟨Nat.zero_le _, Nat.zero_le _⟩ ?_
  exact xr_z hx hb hr hlk dX2_isString_7 (b2i_nar _) (by rw [in31])
set_option maxHeartbeats 4000000 in
set_option maxRecDepth 100000 in
theorem c_X2_isStringOrFork (l : Launch) (a0 : Int32) : Met l yX2_isStringOrFork wsX2_isStringOrFork ({ frames := 1, cells := 0, slots := 0, locals := 22 }) (va_Pc [.int a0] (fun _ => True)) (QcRead (b2i (isFb a0))) 0 0 (fun _ => False) := by
  refine xs_in (cc := cX2_isStringOrFork) (maxL := 1) (ret := (some .boolean)) (by decide) rfl (Nat.le_of_ble_eq_true rfl) ?_
  intro p e s m below meth c ls hx hb hr hml hts hown hlk hl
  have hown : s.vm.findClass RX2 = some m.cls := hown
  have hl : lv_has ls 1 [(0, .int a0)] := hl
  refine lv_iload_n hx hb dX2_isStringOrFork_0 rfl (lv_at hl 0 rfl) ?_
  refine lv_iconst (v := 0) hx hb dX2_isStringOrFork_1 (by decide) ?_
  refine lv_bipush (v := 32) hx hb dX2_isStringOrFork_2 (by decide) ?_
  refine xc_T (As := [.int a0, .int 0, .int 32]) (rest := []) ⟨hx, hb, hml, hown, hts⟩ (c_X2_in l a0 0 32) (va_cwS 3 hts gX2_isStringOrFork_X2_in rfl rfl rfl (by decide +kernel) ⟨Nat.le_of_ble_eq_true rfl, Nat.le_of_ble_eq_true rfl⟩) rfl hl.1 rfl (Nat.le_of_ble_eq_true rfl) dX2_isStringOrFork_4 ⟨Nat.zero_le _, Nat.zero_le _⟩ ?_
  exact xr_z hx hb hr hlk dX2_isStringOrFork_7 (b2i_nar _) (by rw [in32])
set_option maxHeartbeats 4000000 in
set_option maxRecDepth 100000 in
theorem c_X2_isAsked (l : Launch) (a0 a1 : Int32) : Met l yX2_isAsked wsX2_isAsked ({ frames := 1, cells := 0, slots := 0, locals := 22 }) (va_Pc [.int a0, .int a1] (fun _ => True)) (QcRead (b2i (isQb a0 a1))) 0 0 (fun _ => False) := by
  refine xs_in (cc := cX2_isAsked) (maxL := 2) (ret := (some .boolean)) (by decide) rfl (Nat.le_of_ble_eq_true rfl) ?_
  intro p e s m below meth c ls hx hb hr hml hts hown hlk hl
  have hown : s.vm.findClass RX2 = some m.cls := hown
  have hl : lv_has ls 2 [(0, .int a0), (1, .int a1)] := hl
  refine lv_iload_n hx hb dX2_isAsked_0 rfl (lv_at hl 0 rfl) ?_
  refine lv_iconst (v := 0) hx hb dX2_isAsked_1 (by decide) ?_
  refine lv_iconst (v := 1) hx hb dX2_isAsked_2 (by decide) ?_
  refine xc_T (As := [.int a0, .int 0, .int 1]) (rest := []) ⟨hx, hb, hml, hown, hts⟩ (c_X2_in l a0 0 1) (va_cwS 3 hts gX2_isAsked_X2_in rfl rfl rfl (by decide +kernel) ⟨Nat.le_of_ble_eq_true rfl, Nat.le_of_ble_eq_true rfl⟩) rfl hl.1 rfl (Nat.le_of_ble_eq_true rfl) dX2_isAsked_3 ⟨Nat.zero_le _, Nat.zero_le _⟩ ?_
  refine lv_if_eq (tgt := 22) hx hb dX2_isAsked_6 (by decide) (fun c_1 => ?_) (fun c_1 => ?_)
  · have c_1 := b2i_e c_1
    refine lv_iconst (v := 0) hx hb dX2_isAsked_22 (by decide) ?_
    exact xr_z hx hb hr hlk dX2_isAsked_23 (b2i_nar _) (by (try rw [in01] at c_1); (try rw [in05] at c_1); simp [isQb, b2i, c_1])
  · have c_1 := b2i_n c_1
    refine lv_iload_n hx hb dX2_isAsked_9 rfl (lv_at hl 1 rfl) ?_
    refine lv_iconst (v := 0) hx hb dX2_isAsked_10 (by decide) ?_
    refine lv_iconst (v := 5) hx hb dX2_isAsked_11 (by decide) ?_
    refine xc_T (As := [.int a1, .int 0, .int 5]) (rest := []) ⟨hx, hb, hml, hown, hts⟩ (c_X2_in l a1 0 5) (va_cwS 3 hts gX2_isAsked_X2_in rfl rfl rfl (by decide +kernel) ⟨Nat.le_of_ble_eq_true rfl, Nat.le_of_ble_eq_true rfl⟩) rfl hl.1 rfl (Nat.le_of_ble_eq_true rfl) dX2_isAsked_12 ⟨Nat.zero_le _, Nat.zero_le _⟩ ?_
    refine lv_if_eq (tgt := 22) hx hb dX2_isAsked_15 (by decide) (fun c_2 => ?_) (fun c_2 => ?_)
    · have c_2 := b2i_e c_2
      refine lv_iconst (v := 0) hx hb dX2_isAsked_22 (by decide) ?_
      exact xr_z hx hb hr hlk dX2_isAsked_23 (b2i_nar _) (by (try rw [in01] at c_1); (try rw [in05] at c_1); (try rw [in01] at c_2); (try rw [in05] at c_2); simp [isQb, b2i, c_1, c_2])
    · have c_2 := b2i_n c_2
      refine lv_iconst (v := 1) hx hb dX2_isAsked_18 (by decide) ?_
      refine lv_goto (tgt := 23) hx hb dX2_isAsked_19 (by decide) ?_
      exact xr_z hx hb hr hlk dX2_isAsked_23 (b2i_nar _) (by (try rw [in01] at c_1); (try rw [in05] at c_1); (try rw [in01] at c_2); (try rw [in05] at c_2); simp [isQb, b2i, c_1, c_2])
set_option maxHeartbeats 4000000 in
set_option maxRecDepth 100000 in
theorem c_X2_at (l : Launch) (a0 a1 : Int32) : Met l yX2_at wsX2_at ({ frames := 0, cells := 0, slots := 0, locals := 0 }) (va_Pc [.int a0, .int a1] (fun _ => True)) (QcRead (33 * a0 + a1)) 0 0 (fun _ => False) := by
  refine xs_in (cc := cX2_at) (maxL := 2) (ret := (some .int)) (by decide) rfl (Nat.le_of_ble_eq_true rfl) ?_
  intro p e s m below meth c ls hx hb hr hml hts hown hlk hl
  have hown : s.vm.findClass RX2 = some m.cls := hown
  have hl : lv_has ls 2 [(0, .int a0), (1, .int a1)] := hl
  refine lv_bipush (v := 33) hx hb dX2_at_0 (by decide) ?_
  refine lv_iload_n hx hb dX2_at_2 rfl (lv_at hl 0 rfl) ?_
  refine lv_imul hx hb dX2_at_3 ?_
  refine lv_iload_n hx hb dX2_at_4 rfl (lv_at hl 1 rfl) ?_
  refine lv_iadd hx hb dX2_at_5 ?_
  exact xr_i hx hb hr hlk dX2_at_6 (by rfl)
set_option maxHeartbeats 4000000 in
set_option maxRecDepth 100000 in
theorem c_X2_place (l : Launch) (a0 a1 : Int32) : Met l yX2_place wsX2_place ({ frames := 0, cells := 0, slots := 0, locals := 0 }) (va_Pc [.int a0, .int a1] (fun _ => True)) (QcRead (plcF a0 a1)) 0 0 (fun _ => False) := by
  refine xs_in (cc := cX2_place) (maxL := 2) (ret := (some .int)) (by decide) rfl (Nat.le_of_ble_eq_true rfl) ?_
  intro p e s m below meth c ls hx hb hr hml hts hown hlk hl
  have hown : s.vm.findClass RX2 = some m.cls := hown
  have hl : lv_has ls 2 [(0, .int a0), (1, .int a1)] := hl
  refine lv_iload_n hx hb dX2_place_0 rfl (lv_at hl 0 rfl) ?_
  refine lv_if_ne (tgt := 8) hx hb dX2_place_1 (by decide) (fun c_1 => ?_) (fun c_1 => ?_)
  · refine lv_iload_n hx hb dX2_place_8 rfl (lv_at hl 0 rfl) ?_
    refine lv_iconst (v := 3) hx hb dX2_place_9 (by decide) ?_
    refine lv_icmp_ne (tgt := 18) hx hb dX2_place_10 (by decide) (fun c_2 => ?_) (fun c_2 => ?_)
    · refine lv_iload_n hx hb dX2_place_18 rfl (lv_at hl 0 rfl) ?_
      refine lv_iconst (v := 4) hx hb dX2_place_19 (by decide) ?_
      refine lv_icmp_ne (tgt := 28) hx hb dX2_place_20 (by decide) (fun c_3 => ?_) (fun c_3 => ?_)
      · refine lv_iconst (v := 0) hx hb dX2_place_28 (by decide) ?_
        exact xr_i hx hb hr hlk dX2_place_29 (by simp [plcF, b2i, c_1, c_2, c_3])
      · refine lv_ldc (v := -1000000) hx hb hown (hts (.constant RX2 50 (-1000000)) (by decide +kernel)) dX2_place_23 ?_
        refine lv_goto (tgt := 29) hx hb dX2_place_25 (by decide) ?_
        exact xr_i hx hb hr hlk dX2_place_29 (by simp [plcF, b2i, c_1, c_2, c_3])
    · refine lv_ldc (v := 1000000) hx hb hown (hts (.constant RX2 49 (1000000)) (by decide +kernel)) dX2_place_13 ?_
      refine lv_goto (tgt := 29) hx hb dX2_place_15 (by decide) ?_
      exact xr_i hx hb hr hlk dX2_place_29 (by simp [plcF, b2i, c_1, c_2])
  · refine lv_iload_n hx hb dX2_place_4 rfl (lv_at hl 1 rfl) ?_
    refine lv_goto (tgt := 29) hx hb dX2_place_5 (by decide) ?_
    exact xr_i hx hb hr hlk dX2_place_29 (by simp [plcF, b2i, c_1])
set_option maxHeartbeats 4000000 in
set_option maxRecDepth 100000 in
theorem c_X2_goes (l : Launch) (a0 a1 a2 a3 a4 : Int32) : Met l yX2_goes wsX2_goes ({ frames := 1, cells := 0, slots := 0, locals := 21 }) (va_Pc [.int a0, .int a1, .int a2, .int a3, .int a4] (fun _ => True)) (QcRead (b2i (goF a0 a1 a2 a3 a4))) 0 0 (fun _ => False) := by
  refine xs_in (cc := cX2_goes) (maxL := 7) (ret := (some .boolean)) (by decide) rfl (Nat.le_of_ble_eq_true rfl) ?_
  intro p e s m below meth c ls hx hb hr hml hts hown hlk hl
  have hown : s.vm.findClass RX2 = some m.cls := hown
  have hl : lv_has ls 7 [(0, .int a0), (1, .int a1), (2, .int a2), (3, .int a3), (4, .int a4)] := hl
  refine lv_iload_n hx hb dX2_goes_0 rfl (lv_at hl 1 rfl) ?_
  refine lv_iconst (v := 1) hx hb dX2_goes_1 (by decide) ?_
  refine lv_icmp_eq (tgt := 10) hx hb dX2_goes_2 (by decide) (fun c_1 => ?_) (fun c_1 => ?_)
  · refine lv_iload_n hx hb dX2_goes_10 rfl (lv_at hl 0 rfl) ?_
    refine lv_iconst (v := 5) hx hb dX2_goes_11 (by decide) ?_
    refine lv_icmp_ne (tgt := 19) hx hb dX2_goes_12 (by decide) (fun c_2 => ?_) (fun c_2 => ?_)
    · refine lv_iconst (v := 0) hx hb dX2_goes_19 (by decide) ?_
      exact xr_z hx hb hr hlk dX2_goes_20 (b2i_nar _) (by (try rw [← Int32.not_lt] at c_1); (try rw [← Int32.not_lt] at c_2); simp [goF, b2i, c_1, c_2])
    · refine lv_iconst (v := 1) hx hb dX2_goes_15 (by decide) ?_
      refine lv_goto (tgt := 20) hx hb dX2_goes_16 (by decide) ?_
      exact xr_z hx hb hr hlk dX2_goes_20 (b2i_nar _) (by (try rw [← Int32.not_lt] at c_1); (try rw [← Int32.not_lt] at c_2); simp [goF, b2i, c_1, c_2])
  · refine lv_iload_n hx hb dX2_goes_5 rfl (lv_at hl 3 rfl) ?_
    refine lv_iconst (v := 1) hx hb dX2_goes_6 (by decide) ?_
    refine lv_icmp_ne (tgt := 21) hx hb dX2_goes_7 (by decide) (fun c_3 => ?_) (fun c_3 => ?_)
    · refine lv_iload_n hx hb dX2_goes_21 rfl (lv_at hl 1 rfl) ?_
      refine lv_iload_n hx hb dX2_goes_22 rfl (lv_at hl 2 rfl) ?_
      refine xc_T (As := [.int a1, .int a2]) (rest := []) ⟨hx, hb, hml, hown, hts⟩ (c_X2_place l a1 a2) (va_cwS 2 hts gX2_goes_X2_place rfl rfl rfl (by decide +kernel) ⟨Nat.le_of_ble_eq_true rfl, Nat.le_of_ble_eq_true rfl⟩) rfl hl.1 rfl (Nat.le_of_ble_eq_true rfl) dX2_goes_23 ⟨Nat.zero_le _, Nat.zero_le _⟩ ?_
      refine lv_istore (lv' := [(5, .int (plcF a1 a2)), (0, .int a0), (1, .int a1), (2, .int a2), (3, .int a3), (4, .int a4)]) hx hb dX2_goes_26 hl (by decide) rfl (fun ls hl => ?_)
      refine lv_iload_n hx hb dX2_goes_28 rfl (lv_at hl 4 rfl) ?_
      refine lv_iload hx hb dX2_goes_29 (lv_at hl 5 rfl) ?_
      refine xc_T (As := [.int a3, .int a4]) (rest := []) ⟨hx, hb, hml, hown, hts⟩ (c_X2_place l a3 a4) (va_cwS 2 hts gX2_goes_X2_place rfl rfl rfl (by decide +kernel) ⟨Nat.le_of_ble_eq_true rfl, Nat.le_of_ble_eq_true rfl⟩) rfl hl.1 rfl (Nat.le_of_ble_eq_true rfl) dX2_goes_31 ⟨Nat.zero_le _, Nat.zero_le _⟩ ?_
      refine lv_istore (lv' := [(6, .int (plcF a3 a4)), (5, .int (plcF a1 a2)), (0, .int a0), (1, .int a1), (2, .int a2), (3, .int a3), (4, .int a4)]) hx hb dX2_goes_34 hl (by decide) rfl (fun ls hl => ?_)
      refine lv_iload hx hb dX2_goes_36 (lv_at hl 1 rfl) ?_
      refine lv_iload hx hb dX2_goes_38 (lv_at hl 0 rfl) ?_
      refine lv_icmp_ne (tgt := 64) hx hb dX2_goes_40 (by decide) (fun c_4 => ?_) (fun c_4 => ?_)
      · refine lv_iload_n hx hb dX2_goes_64 rfl (lv_at hl 2 rfl) ?_
        refine lv_iconst (v := 5) hx hb dX2_goes_65 (by decide) ?_
        refine lv_icmp_ne (tgt := 71) hx hb dX2_goes_66 (by decide) (fun c_5 => ?_) (fun c_5 => ?_)
        · refine lv_iload hx hb dX2_goes_71 (lv_at hl 1 rfl) ?_
          refine lv_iload hx hb dX2_goes_73 (lv_at hl 0 rfl) ?_
          refine lv_icmp_ge (tgt := 95) hx hb dX2_goes_75 (by decide) (fun c_6 => ?_) (fun c_6 => ?_)
          · refine lv_iload_n hx hb dX2_goes_95 rfl (lv_at hl 2 rfl) ?_
            refine lv_iconst (v := 2) hx hb dX2_goes_96 (by decide) ?_
            refine lv_icmp_eq (tgt := 105) hx hb dX2_goes_97 (by decide) (fun c_7 => ?_) (fun c_7 => ?_)
            · refine lv_iconst (v := 1) hx hb dX2_goes_105 (by decide) ?_
              refine lv_goto (tgt := 110) hx hb dX2_goes_106 (by decide) ?_
              exact xr_z hx hb hr hlk dX2_goes_110 (b2i_nar _) (by (try rw [← Int32.not_lt] at c_1); (try rw [← Int32.not_lt] at c_3); (try rw [← Int32.not_lt] at c_4); (try rw [← Int32.not_lt] at c_5); (try rw [← Int32.not_lt] at c_6); (try rw [← Int32.not_lt] at c_7); simp [goF, b2i, c_1, c_3, c_4, c_5, c_6, c_7])
            · refine lv_iload_n hx hb dX2_goes_100 rfl (lv_at hl 2 rfl) ?_
              refine lv_iconst (v := 3) hx hb dX2_goes_101 (by decide) ?_
              refine lv_icmp_ne (tgt := 109) hx hb dX2_goes_102 (by decide) (fun c_8 => ?_) (fun c_8 => ?_)
              · refine lv_iconst (v := 0) hx hb dX2_goes_109 (by decide) ?_
                exact xr_z hx hb hr hlk dX2_goes_110 (b2i_nar _) (by (try rw [← Int32.not_lt] at c_1); (try rw [← Int32.not_lt] at c_3); (try rw [← Int32.not_lt] at c_4); (try rw [← Int32.not_lt] at c_5); (try rw [← Int32.not_lt] at c_6); (try rw [← Int32.not_lt] at c_7); (try rw [← Int32.not_lt] at c_8); simp [goF, b2i, c_1, c_3, c_4, c_5, c_6, c_7, c_8])
              · refine lv_iconst (v := 1) hx hb dX2_goes_105 (by decide) ?_
                refine lv_goto (tgt := 110) hx hb dX2_goes_106 (by decide) ?_
                exact xr_z hx hb hr hlk dX2_goes_110 (b2i_nar _) (by (try rw [← Int32.not_lt] at c_1); (try rw [← Int32.not_lt] at c_3); (try rw [← Int32.not_lt] at c_4); (try rw [← Int32.not_lt] at c_5); (try rw [← Int32.not_lt] at c_6); (try rw [← Int32.not_lt] at c_7); (try rw [← Int32.not_lt] at c_8); simp [goF, b2i, c_1, c_3, c_4, c_5, c_6, c_7, c_8])
          · refine lv_iload_n hx hb dX2_goes_78 rfl (lv_at hl 2 rfl) ?_
            refine lv_if_eq (tgt := 87) hx hb dX2_goes_79 (by decide) (fun c_9 => ?_) (fun c_9 => ?_)
            · refine lv_iconst (v := 1) hx hb dX2_goes_87 (by decide) ?_
              refine lv_goto (tgt := 110) hx hb dX2_goes_88 (by decide) ?_
              exact xr_z hx hb hr hlk dX2_goes_110 (b2i_nar _) (by (try rw [← Int32.not_lt] at c_1); (try rw [← Int32.not_lt] at c_3); (try rw [← Int32.not_lt] at c_4); (try rw [← Int32.not_lt] at c_5); (try rw [← Int32.not_lt] at c_6); (try rw [← Int32.not_lt] at c_9); simp [goF, b2i, c_1, c_3, c_4, c_5, c_6, c_9])
            · refine lv_iload_n hx hb dX2_goes_82 rfl (lv_at hl 2 rfl) ?_
              refine lv_iconst (v := 1) hx hb dX2_goes_83 (by decide) ?_
              refine lv_icmp_ne (tgt := 91) hx hb dX2_goes_84 (by decide) (fun c_10 => ?_) (fun c_10 => ?_)
              · refine lv_iconst (v := 0) hx hb dX2_goes_91 (by decide) ?_
                refine lv_goto (tgt := 110) hx hb dX2_goes_92 (by decide) ?_
                exact xr_z hx hb hr hlk dX2_goes_110 (b2i_nar _) (by (try rw [← Int32.not_lt] at c_1); (try rw [← Int32.not_lt] at c_3); (try rw [← Int32.not_lt] at c_4); (try rw [← Int32.not_lt] at c_5); (try rw [← Int32.not_lt] at c_6); (try rw [← Int32.not_lt] at c_9); (try rw [← Int32.not_lt] at c_10); simp [goF, b2i, c_1, c_3, c_4, c_5, c_6, c_9, c_10])
              · refine lv_iconst (v := 1) hx hb dX2_goes_87 (by decide) ?_
                refine lv_goto (tgt := 110) hx hb dX2_goes_88 (by decide) ?_
                exact xr_z hx hb hr hlk dX2_goes_110 (b2i_nar _) (by (try rw [← Int32.not_lt] at c_1); (try rw [← Int32.not_lt] at c_3); (try rw [← Int32.not_lt] at c_4); (try rw [← Int32.not_lt] at c_5); (try rw [← Int32.not_lt] at c_6); (try rw [← Int32.not_lt] at c_9); (try rw [← Int32.not_lt] at c_10); simp [goF, b2i, c_1, c_3, c_4, c_5, c_6, c_9, c_10])
        · refine lv_iconst (v := 1) hx hb dX2_goes_69 (by decide) ?_
          exact xr_z hx hb hr hlk dX2_goes_70 (b2i_nar _) (by (try rw [← Int32.not_lt] at c_1); (try rw [← Int32.not_lt] at c_3); (try rw [← Int32.not_lt] at c_4); (try rw [← Int32.not_lt] at c_5); simp [goF, b2i, c_1, c_3, c_4, c_5])
      · refine lv_iload_n hx hb dX2_goes_43 rfl (lv_at hl 2 rfl) ?_
        refine lv_iconst (v := 1) hx hb dX2_goes_44 (by decide) ?_
        refine lv_icmp_eq (tgt := 58) hx hb dX2_goes_45 (by decide) (fun c_11 => ?_) (fun c_11 => ?_)
        · refine lv_iconst (v := 1) hx hb dX2_goes_58 (by decide) ?_
          refine lv_goto (tgt := 63) hx hb dX2_goes_59 (by decide) ?_
          exact xr_z hx hb hr hlk dX2_goes_63 (b2i_nar _) (by (try rw [← Int32.not_lt] at c_1); (try rw [← Int32.not_lt] at c_3); (try rw [← Int32.not_lt] at c_4); (try rw [← Int32.not_lt] at c_11); simp [goF, b2i, c_1, c_3, c_4, c_11])
        · refine lv_iload_n hx hb dX2_goes_48 rfl (lv_at hl 2 rfl) ?_
          refine lv_iconst (v := 3) hx hb dX2_goes_49 (by decide) ?_
          refine lv_icmp_eq (tgt := 58) hx hb dX2_goes_50 (by decide) (fun c_12 => ?_) (fun c_12 => ?_)
          · refine lv_iconst (v := 1) hx hb dX2_goes_58 (by decide) ?_
            refine lv_goto (tgt := 63) hx hb dX2_goes_59 (by decide) ?_
            exact xr_z hx hb hr hlk dX2_goes_63 (b2i_nar _) (by (try rw [← Int32.not_lt] at c_1); (try rw [← Int32.not_lt] at c_3); (try rw [← Int32.not_lt] at c_4); (try rw [← Int32.not_lt] at c_11); (try rw [← Int32.not_lt] at c_12); simp [goF, b2i, c_1, c_3, c_4, c_11, c_12])
          · refine lv_iload_n hx hb dX2_goes_53 rfl (lv_at hl 2 rfl) ?_
            refine lv_iconst (v := 4) hx hb dX2_goes_54 (by decide) ?_
            refine lv_icmp_ne (tgt := 62) hx hb dX2_goes_55 (by decide) (fun c_13 => ?_) (fun c_13 => ?_)
            · refine lv_iconst (v := 0) hx hb dX2_goes_62 (by decide) ?_
              exact xr_z hx hb hr hlk dX2_goes_63 (b2i_nar _) (by (try rw [← Int32.not_lt] at c_1); (try rw [← Int32.not_lt] at c_3); (try rw [← Int32.not_lt] at c_4); (try rw [← Int32.not_lt] at c_11); (try rw [← Int32.not_lt] at c_12); (try rw [← Int32.not_lt] at c_13); simp [goF, b2i, c_1, c_3, c_4, c_11, c_12, c_13])
            · refine lv_iconst (v := 1) hx hb dX2_goes_58 (by decide) ?_
              refine lv_goto (tgt := 63) hx hb dX2_goes_59 (by decide) ?_
              exact xr_z hx hb hr hlk dX2_goes_63 (b2i_nar _) (by (try rw [← Int32.not_lt] at c_1); (try rw [← Int32.not_lt] at c_3); (try rw [← Int32.not_lt] at c_4); (try rw [← Int32.not_lt] at c_11); (try rw [← Int32.not_lt] at c_12); (try rw [← Int32.not_lt] at c_13); simp [goF, b2i, c_1, c_3, c_4, c_11, c_12, c_13])
    · refine lv_iload_n hx hb dX2_goes_10 rfl (lv_at hl 0 rfl) ?_
      refine lv_iconst (v := 5) hx hb dX2_goes_11 (by decide) ?_
      refine lv_icmp_ne (tgt := 19) hx hb dX2_goes_12 (by decide) (fun c_14 => ?_) (fun c_14 => ?_)
      · refine lv_iconst (v := 0) hx hb dX2_goes_19 (by decide) ?_
        exact xr_z hx hb hr hlk dX2_goes_20 (b2i_nar _) (by (try rw [← Int32.not_lt] at c_1); (try rw [← Int32.not_lt] at c_3); (try rw [← Int32.not_lt] at c_14); simp [goF, b2i, c_1, c_3, c_14])
      · refine lv_iconst (v := 1) hx hb dX2_goes_15 (by decide) ?_
        refine lv_goto (tgt := 20) hx hb dX2_goes_16 (by decide) ?_
        exact xr_z hx hb hr hlk dX2_goes_20 (b2i_nar _) (by (try rw [← Int32.not_lt] at c_1); (try rw [← Int32.not_lt] at c_3); (try rw [← Int32.not_lt] at c_14); simp [goF, b2i, c_1, c_3, c_14])
set_option maxHeartbeats 4000000 in
set_option maxRecDepth 100000 in
theorem c_X1_isRung (l : Launch) (a0 : Int32) (b1 b2 : Bool) : Met l yX1_isRung wsX1_isRung ({ frames := 0, cells := 0, slots := 0, locals := 0 }) (va_Pc [.int a0, .int (b2i b1), .int (b2i b2)] (fun _ => True)) (QcRead (b2i (rungF a0 b1 b2))) 0 0 (fun _ => False) := by
  refine xs_in (cc := cX1_isRung) (maxL := 3) (ret := (some .boolean)) (by decide) rfl (Nat.le_of_ble_eq_true rfl) ?_
  intro p e s m below meth c ls hx hb hr hml hts hown hlk hl
  have hown : s.vm.findClass RX1 = some m.cls := hown
  have hl : lv_has ls 3 [(0, .int a0), (1, .int (b2i b1)), (2, .int (b2i b2))] := hl
  refine lv_iload_n hx hb dX1_isRung_0 rfl (lv_at hl 0 rfl) ?_
  by_cases q_1 : a0 = 0
  · refine lv_lookup (off := 27) (tgt := 28) hx hb dX1_isRung_1 (by decide) (by rw [q_1]; rfl) (by decide) ?_
    refine lv_iload_n hx hb dX1_isRung_28 rfl (lv_at hl 1 rfl) ?_
    exact xr_z hx hb hr hlk dX1_isRung_29 (b2i_nar _) (by simp [rungF, q_1])
  by_cases q_2 : a0 = 1
  · refine lv_lookup (off := 29) (tgt := 30) hx hb dX1_isRung_1 (by decide) (by rw [q_2]; rfl) (by decide) ?_
    refine lv_iload_n hx hb dX1_isRung_30 rfl (lv_at hl 1 rfl) ?_
    refine lv_if_ne (tgt := 38) hx hb dX1_isRung_31 (by decide) (fun c_3 => ?_) (fun c_3 => ?_)
    · have c_3 := b2i_n c_3
      refine lv_iconst (v := 0) hx hb dX1_isRung_38 (by decide) ?_
      exact xr_z hx hb hr hlk dX1_isRung_39 (b2i_nar _) (by simp [rungF, q_2, c_3]; try decide)
    · have c_3 := b2i_e c_3
      refine lv_iconst (v := 1) hx hb dX1_isRung_34 (by decide) ?_
      refine lv_goto (tgt := 39) hx hb dX1_isRung_35 (by decide) ?_
      exact xr_z hx hb hr hlk dX1_isRung_39 (b2i_nar _) (by simp [rungF, q_2, c_3]; try decide)
  refine lv_lookup (off := 39) (tgt := 40) hx hb dX1_isRung_1 (by decide) ((lv_osw q_1 (by decide)).trans ((lv_osw q_2 (by decide)).trans rfl)) (by decide) ?_
  refine lv_iload_n hx hb dX1_isRung_40 rfl (lv_at hl 1 rfl) ?_
  refine lv_iload_n hx hb dX1_isRung_41 rfl (lv_at hl 2 rfl) ?_
  refine lv_icmp_eq (tgt := 49) hx hb dX1_isRung_42 (by decide) (fun c_4 => ?_) (fun c_4 => ?_)
  · have c_4 := b2i_eq c_4
    refine lv_iconst (v := 0) hx hb dX1_isRung_49 (by decide) ?_
    exact xr_z hx hb hr hlk dX1_isRung_50 (b2i_nar _) (by simp [rungF, q_1, q_2, c_4]; try decide)
  · have c_4 := b2i_ne c_4
    refine lv_iconst (v := 1) hx hb dX1_isRung_45 (by decide) ?_
    refine lv_goto (tgt := 50) hx hb dX1_isRung_46 (by decide) ?_
    exact xr_z hx hb hr hlk dX1_isRung_50 (b2i_nar _) (by simp [rungF, q_1, q_2, c_4]; try decide)
