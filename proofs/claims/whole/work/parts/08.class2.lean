/-! the class: within, changeWithNext, pass, strike -/
set_option maxHeartbeats 4000000 in
set_option maxRecDepth 100000 in
theorem c_X1_within (l : Launch) (D : va_G) (a : Nat → Nat) (cV cI cG : ClassId) (v : Nat → Nat → Int32) (gg : Nat → Option Nat) (dn lt ch : Int32) (w x y z : Int32) : Met l yX1_within wsX1_within ({ frames := 3, cells := 0, slots := 0, locals := 68 }) (xR D vwCl (cb a cV cI cG v gg dn lt ch) (cT cV cI cG) xB0 [.ref (a 0), .int w, .int x, .int y, .int z]) (QcRead (aWith v w x y z)) 0 0 (fun _ => False) := by
  refine xr_in (cc := cX1_within) (maxL := 6) (ret := (some .int)) (by decide) rfl (Nat.le_of_ble_eq_true rfl) ?_
  intro p e s m below meth c ls hx hb hr hml hts hown hlk hP hK hB hl
  have hown : s.vm.findClass RX1 = some m.cls := hown
  have hl : lv_has ls 6 [(0, .ref (a 0)), (1, .int w), (2, .int x), (3, .int y), (4, .int z)] := hl
  have hiF : ∀ w ∈ wsX10, w ∈ wsX1_within := by decide +kernel
  have J0 : isWb w = true → isSb x = true → isFb y = true → isFb z = true → ∀ (u : Int32), u = aWith v w x y z → ∀ ls : Array Slot, lv_has ls 6 [(5, .int u), (0, .ref (a 0)), (1, .int w), (2, .int x), (3, .int y), (4, .int z)] → W p l e ({ frames := 3, cells := 0, slots := 0, locals := 68 }) s m ([.ref (a 0), .int w, .int x, .int y, .int z] : List Value).toArray below meth c s.heap [] 0 0 (MQ below (QcRead (aWith v w x y z)) ([.ref (a 0), .int w, .int x, .int y, .int z] : List Value).toArray s 0 0 (fun _ => False)) (F0 m 126 ls []) := by
    intro hw0 hx0 hy0 hz0 u hres ls hl
    refine lv_iload hx hb dX1_within_126 (lv_at hl 0 rfl) ?_
    exact xr_i hx hb hr hlk dX1_within_128 hres
  have J1 : isWb w = true → isSb x = true → isFb y = true → isFb z = true → ∀ (u : Int32), u + w4F v w x = aWith v w x y z → ∀ ls : Array Slot, lv_has ls 6 [(5, .int u), (0, .ref (a 0)), (1, .int w), (2, .int x), (3, .int y), (4, .int z)] → W p l e ({ frames := 3, cells := 0, slots := 0, locals := 68 }) s m ([.ref (a 0), .int w, .int x, .int y, .int z] : List Value).toArray below meth c s.heap [] 0 0 (MQ below (QcRead (aWith v w x y z)) ([.ref (a 0), .int w, .int x, .int y, .int z] : List Value).toArray s 0 0 (fun _ => False)) (F0 m 112 ls []) := by
    intro hw0 hx0 hy0 hz0 u hres ls hl
    refine lv_aload_n hx hb dX1_within_112 rfl (lv_at hl 1 rfl) ?_
    refine lv_iload_n hx hb dX1_within_113 rfl (lv_at hl 2 rfl) ?_
    refine lv_iconst (v := 5) hx hb dX1_within_114 (by decide) ?_
    refine lv_iload_n hx hb dX1_within_115 rfl (lv_at hl 3 rfl) ?_
    refine lv_iload_n hx hb dX1_within_116 rfl (lv_at hl 3 rfl) ?_
    refine xc_R (As := [.int w, .int 5, .int x, .int x]) (rest := []) ⟨hx, hb, hml, hown, hts⟩ (c_X1_stands l D a cV cI cG v gg dn lt ch w 5 x x (isW_in hw0) (isF_in (isS_F hx0)) (isF_in (isS_F hx0))) (cwV 4 hts gX1_within_X1_stands rfl rfl rfl (by decide +kernel) ⟨Nat.le_of_ble_eq_true rfl, Nat.le_of_ble_eq_true rfl⟩) xMv0 trivial hP hK (va_recv hK hP (ci := 1) (q0 := 0) rfl rfl) rfl hl.1 rfl (Nat.le_of_ble_eq_true rfl) dX1_within_117 ⟨Nat.zero_le _, Nat.zero_le _⟩ ?_
    refine lv_if_eq (tgt := 126) hx hb dX1_within_120 (by decide) (fun c_1 => ?_) (fun c_1 => ?_)
    · have c_1 := b2i_e c_1
      rw [sd5_self] at c_1; simp at c_1
      refine J0 hw0 hx0 hy0 hz0 _ ?_ ls (lv_sub hl [0, 1, 2, 3, 4, 5] rfl)
      rw [← hres]; simp [w4F, c_1]
    · have c_1 := b2i_n c_1
      rw [sd5_self] at c_1; simp at c_1
      refine lv_iinc (v := u + 8) (lv' := [(5, .int (u + 8)), (0, .ref (a 0)), (1, .int w), (2, .int x), (3, .int y), (4, .int z)]) hx hb dX1_within_123 hl (k := 0) rfl (rfl) (by decide) rfl (fun ls hl => ?_)
      refine J0 hw0 hx0 hy0 hz0 _ ?_ ls (lv_sub hl [0, 1, 2, 3, 4, 5] rfl)
      rw [← hres]; simp [w4F, c_1]
  have J2 : isWb w = true → isSb x = true → isFb y = true → isFb z = true → ∀ (u : Int32), (u + w3F v w x y z) + w4F v w x = aWith v w x y z → ∀ ls : Array Slot, lv_has ls 6 [(5, .int u), (0, .ref (a 0)), (1, .int w), (2, .int x), (3, .int y), (4, .int z)] → W p l e ({ frames := 3, cells := 0, slots := 0, locals := 68 }) s m ([.ref (a 0), .int w, .int x, .int y, .int z] : List Value).toArray below meth c s.heap [] 0 0 (MQ below (QcRead (aWith v w x y z)) ([.ref (a 0), .int w, .int x, .int y, .int z] : List Value).toArray s 0 0 (fun _ => False)) (F0 m 86 ls []) := by
    intro hw0 hx0 hy0 hz0 u hres ls hl
    refine lv_aload_n hx hb dX1_within_86 rfl (lv_at hl 1 rfl) ?_
    refine lv_iload_n hx hb dX1_within_87 rfl (lv_at hl 2 rfl) ?_
    refine lv_iconst (v := 0) hx hb dX1_within_88 (by decide) ?_
    refine lv_iload_n hx hb dX1_within_89 rfl (lv_at hl 3 rfl) ?_
    refine lv_iload_n hx hb dX1_within_90 rfl (lv_at hl 4 rfl) ?_
    refine xc_R (As := [.int w, .int 0, .int x, .int y]) (rest := []) ⟨hx, hb, hml, hown, hts⟩ (c_X1_stands l D a cV cI cG v gg dn lt ch w 0 x y (isW_in hw0) (isF_in (isS_F hx0)) (isF_in hy0)) (cwV 4 hts gX1_within_X1_stands rfl rfl rfl (by decide +kernel) ⟨Nat.le_of_ble_eq_true rfl, Nat.le_of_ble_eq_true rfl⟩) xMv0 trivial hP hK (va_recv hK hP (ci := 1) (q0 := 0) rfl rfl) rfl hl.1 rfl (Nat.le_of_ble_eq_true rfl) dX1_within_91 ⟨Nat.zero_le _, Nat.zero_le _⟩ ?_
    refine lv_if_ne (tgt := 109) hx hb dX1_within_94 (by decide) (fun c_2 => ?_) (fun c_2 => ?_)
    · have c_2 := b2i_n c_2
      refine lv_iinc (v := u + 4) (lv' := [(5, .int (u + 4)), (0, .ref (a 0)), (1, .int w), (2, .int x), (3, .int y), (4, .int z)]) hx hb dX1_within_109 hl (k := 0) rfl (rfl) (by decide) rfl (fun ls hl => ?_)
      refine J1 hw0 hx0 hy0 hz0 _ ?_ ls (lv_sub hl [0, 1, 2, 3, 4, 5] rfl)
      rw [← hres]; simp [w3F, c_2]
    · have c_2 := b2i_e c_2
      refine lv_aload_n hx hb dX1_within_97 rfl (lv_at hl 1 rfl) ?_
      refine lv_iload_n hx hb dX1_within_98 rfl (lv_at hl 2 rfl) ?_
      refine lv_iconst (v := 2) hx hb dX1_within_99 (by decide) ?_
      refine lv_iload_n hx hb dX1_within_100 rfl (lv_at hl 3 rfl) ?_
      refine lv_iload hx hb dX1_within_101 (lv_at hl 5 rfl) ?_
      refine xc_R (As := [.int w, .int 2, .int x, .int z]) (rest := []) ⟨hx, hb, hml, hown, hts⟩ (c_X1_stands l D a cV cI cG v gg dn lt ch w 2 x z (isW_in hw0) (isF_in (isS_F hx0)) (isF_in hz0)) (cwV 4 hts gX1_within_X1_stands rfl rfl rfl (by decide +kernel) ⟨Nat.le_of_ble_eq_true rfl, Nat.le_of_ble_eq_true rfl⟩) xMv0 trivial hP hK (va_recv hK hP (ci := 1) (q0 := 0) rfl rfl) rfl hl.1 rfl (Nat.le_of_ble_eq_true rfl) dX1_within_103 ⟨Nat.zero_le _, Nat.zero_le _⟩ ?_
      refine lv_if_eq (tgt := 112) hx hb dX1_within_106 (by decide) (fun c_3 => ?_) (fun c_3 => ?_)
      · have c_3 := b2i_e c_3
        refine J1 hw0 hx0 hy0 hz0 _ ?_ ls (lv_sub hl [0, 1, 2, 3, 4, 5] rfl)
        rw [← hres]; simp [w3F, c_2, c_3]
      · have c_3 := b2i_n c_3
        refine lv_iinc (v := u + 4) (lv' := [(5, .int (u + 4)), (0, .ref (a 0)), (1, .int w), (2, .int x), (3, .int y), (4, .int z)]) hx hb dX1_within_109 hl (k := 0) rfl (rfl) (by decide) rfl (fun ls hl => ?_)
        refine J1 hw0 hx0 hy0 hz0 _ ?_ ls (lv_sub hl [0, 1, 2, 3, 4, 5] rfl)
        rw [← hres]; simp [w3F, c_2, c_3]
  have J3 : isWb w = true → isSb x = true → isFb y = true → isFb z = true → ∀ (u : Int32), ((u + w2F v w x y z) + w3F v w x y z) + w4F v w x = aWith v w x y z → ∀ ls : Array Slot, lv_has ls 6 [(5, .int u), (0, .ref (a 0)), (1, .int w), (2, .int x), (3, .int y), (4, .int z)] → W p l e ({ frames := 3, cells := 0, slots := 0, locals := 68 }) s m ([.ref (a 0), .int w, .int x, .int y, .int z] : List Value).toArray below meth c s.heap [] 0 0 (MQ below (QcRead (aWith v w x y z)) ([.ref (a 0), .int w, .int x, .int y, .int z] : List Value).toArray s 0 0 (fun _ => False)) (F0 m 60 ls []) := by
    intro hw0 hx0 hy0 hz0 u hres ls hl
    refine lv_aload_n hx hb dX1_within_60 rfl (lv_at hl 1 rfl) ?_
    refine lv_iload_n hx hb dX1_within_61 rfl (lv_at hl 2 rfl) ?_
    refine lv_iconst (v := 0) hx hb dX1_within_62 (by decide) ?_
    refine lv_iload_n hx hb dX1_within_63 rfl (lv_at hl 3 rfl) ?_
    refine lv_iload_n hx hb dX1_within_64 rfl (lv_at hl 4 rfl) ?_
    refine xc_R (As := [.int w, .int 0, .int x, .int y]) (rest := []) ⟨hx, hb, hml, hown, hts⟩ (c_X1_stands l D a cV cI cG v gg dn lt ch w 0 x y (isW_in hw0) (isF_in (isS_F hx0)) (isF_in hy0)) (cwV 4 hts gX1_within_X1_stands rfl rfl rfl (by decide +kernel) ⟨Nat.le_of_ble_eq_true rfl, Nat.le_of_ble_eq_true rfl⟩) xMv0 trivial hP hK (va_recv hK hP (ci := 1) (q0 := 0) rfl rfl) rfl hl.1 rfl (Nat.le_of_ble_eq_true rfl) dX1_within_65 ⟨Nat.zero_le _, Nat.zero_le _⟩ ?_
    refine lv_if_ne (tgt := 86) hx hb dX1_within_68 (by decide) (fun c_4 => ?_) (fun c_4 => ?_)
    · have c_4 := b2i_n c_4
      refine J2 hw0 hx0 hy0 hz0 _ ?_ ls (lv_sub hl [0, 1, 2, 3, 4, 5] rfl)
      rw [← hres]; simp [w2F, c_4]
    · have c_4 := b2i_e c_4
      refine lv_aload_n hx hb dX1_within_71 rfl (lv_at hl 1 rfl) ?_
      refine lv_iload_n hx hb dX1_within_72 rfl (lv_at hl 2 rfl) ?_
      refine lv_iconst (v := 2) hx hb dX1_within_73 (by decide) ?_
      refine lv_iload_n hx hb dX1_within_74 rfl (lv_at hl 3 rfl) ?_
      refine lv_iload hx hb dX1_within_75 (lv_at hl 5 rfl) ?_
      refine xc_R (As := [.int w, .int 2, .int x, .int z]) (rest := []) ⟨hx, hb, hml, hown, hts⟩ (c_X1_stands l D a cV cI cG v gg dn lt ch w 2 x z (isW_in hw0) (isF_in (isS_F hx0)) (isF_in hz0)) (cwV 4 hts gX1_within_X1_stands rfl rfl rfl (by decide +kernel) ⟨Nat.le_of_ble_eq_true rfl, Nat.le_of_ble_eq_true rfl⟩) xMv0 trivial hP hK (va_recv hK hP (ci := 1) (q0 := 0) rfl rfl) rfl hl.1 rfl (Nat.le_of_ble_eq_true rfl) dX1_within_77 ⟨Nat.zero_le _, Nat.zero_le _⟩ ?_
      refine lv_if_ne (tgt := 86) hx hb dX1_within_80 (by decide) (fun c_5 => ?_) (fun c_5 => ?_)
      · have c_5 := b2i_n c_5
        refine J2 hw0 hx0 hy0 hz0 _ ?_ ls (lv_sub hl [0, 1, 2, 3, 4, 5] rfl)
        rw [← hres]; simp [w2F, c_4, c_5]
      · have c_5 := b2i_e c_5
        refine lv_iinc (v := u + 2) (lv' := [(5, .int (u + 2)), (0, .ref (a 0)), (1, .int w), (2, .int x), (3, .int y), (4, .int z)]) hx hb dX1_within_83 hl (k := 0) rfl (rfl) (by decide) rfl (fun ls hl => ?_)
        refine J2 hw0 hx0 hy0 hz0 _ ?_ ls (lv_sub hl [0, 1, 2, 3, 4, 5] rfl)
        rw [← hres]; simp [w2F, c_4, c_5]
  refine lv_iload_n hx hb dX1_within_0 rfl (lv_at hl 1 rfl) ?_
  refine xc_T (As := [.int w]) (rest := []) ⟨hx, hb, hml, hown, hts⟩ (c_X1_isWhat l w) (va_cwS 1 hts gX1_within_X1_isWhat rfl rfl rfl (by decide +kernel) ⟨Nat.le_of_ble_eq_true rfl, Nat.le_of_ble_eq_true rfl⟩) rfl hl.1 rfl (Nat.le_of_ble_eq_true rfl) dX1_within_1 ⟨Nat.zero_le _, Nat.zero_le _⟩ ?_
  refine lv_if_eq (tgt := 29) hx hb dX1_within_4 (by decide) (fun c_6 => ?_) (fun c_6 => ?_)
  · have c_6 := b2i_e c_6
    refine lv_iconst (v := -1) hx hb dX1_within_29 (by decide) ?_
    exact xr_i hx hb hr hlk dX1_within_30 (by simp [aWith, wB, c_6])
  · have c_6 := b2i_n c_6
    refine lv_iload_n hx hb dX1_within_7 rfl (lv_at hl 2 rfl) ?_
    refine xc_T (As := [.int x]) (rest := []) ⟨hx, hb, hml, hown, hts⟩ (c_X1_isString l x) (va_cwS 1 hts gX1_within_X1_isString rfl rfl rfl (by decide +kernel) ⟨Nat.le_of_ble_eq_true rfl, Nat.le_of_ble_eq_true rfl⟩) rfl hl.1 rfl (Nat.le_of_ble_eq_true rfl) dX1_within_8 ⟨Nat.zero_le _, Nat.zero_le _⟩ ?_
    refine lv_if_eq (tgt := 29) hx hb dX1_within_11 (by decide) (fun c_7 => ?_) (fun c_7 => ?_)
    · have c_7 := b2i_e c_7
      refine lv_iconst (v := -1) hx hb dX1_within_29 (by decide) ?_
      exact xr_i hx hb hr hlk dX1_within_30 (by simp [aWith, wB, c_6, c_7])
    · have c_7 := b2i_n c_7
      refine lv_iload_n hx hb dX1_within_14 rfl (lv_at hl 3 rfl) ?_
      refine xc_T (As := [.int y]) (rest := []) ⟨hx, hb, hml, hown, hts⟩ (c_X1_isStringOrFork l y) (va_cwS 1 hts gX1_within_X1_isStringOrFork rfl rfl rfl (by decide +kernel) ⟨Nat.le_of_ble_eq_true rfl, Nat.le_of_ble_eq_true rfl⟩) rfl hl.1 rfl (Nat.le_of_ble_eq_true rfl) dX1_within_15 ⟨Nat.zero_le _, Nat.zero_le _⟩ ?_
      refine lv_if_eq (tgt := 29) hx hb dX1_within_18 (by decide) (fun c_8 => ?_) (fun c_8 => ?_)
      · have c_8 := b2i_e c_8
        refine lv_iconst (v := -1) hx hb dX1_within_29 (by decide) ?_
        exact xr_i hx hb hr hlk dX1_within_30 (by simp [aWith, wB, c_6, c_7, c_8])
      · have c_8 := b2i_n c_8
        refine lv_iload hx hb dX1_within_21 (lv_at hl 4 rfl) ?_
        refine xc_T (As := [.int z]) (rest := []) ⟨hx, hb, hml, hown, hts⟩ (c_X1_isStringOrFork l z) (va_cwS 1 hts gX1_within_X1_isStringOrFork rfl rfl rfl (by decide +kernel) ⟨Nat.le_of_ble_eq_true rfl, Nat.le_of_ble_eq_true rfl⟩) rfl hl.1 rfl (Nat.le_of_ble_eq_true rfl) dX1_within_23 ⟨Nat.zero_le _, Nat.zero_le _⟩ ?_
        refine lv_if_ne (tgt := 31) hx hb dX1_within_26 (by decide) (fun c_9 => ?_) (fun c_9 => ?_)
        · have c_9 := b2i_n c_9
          refine lv_iconst (v := 0) hx hb dX1_within_31 (by decide) ?_
          refine lv_istore (lv' := [(5, .int 0), (0, .ref (a 0)), (1, .int w), (2, .int x), (3, .int y), (4, .int z)]) hx hb dX1_within_32 hl (by decide) rfl (fun ls hl => ?_)
          refine lv_aload_n hx hb dX1_within_34 rfl (lv_at hl 1 rfl) ?_
          refine lv_iload_n hx hb dX1_within_35 rfl (lv_at hl 2 rfl) ?_
          refine lv_iconst (v := 3) hx hb dX1_within_36 (by decide) ?_
          refine lv_iload_n hx hb dX1_within_37 rfl (lv_at hl 3 rfl) ?_
          refine lv_iload_n hx hb dX1_within_38 rfl (lv_at hl 4 rfl) ?_
          refine xc_R (As := [.int w, .int 3, .int x, .int y]) (rest := []) ⟨hx, hb, hml, hown, hts⟩ (c_X1_stands l D a cV cI cG v gg dn lt ch w 3 x y (isW_in c_6) (isF_in (isS_F c_7)) (isF_in c_8)) (cwV 4 hts gX1_within_X1_stands rfl rfl rfl (by decide +kernel) ⟨Nat.le_of_ble_eq_true rfl, Nat.le_of_ble_eq_true rfl⟩) xMv0 trivial hP hK (va_recv hK hP (ci := 1) (q0 := 0) rfl rfl) rfl hl.1 rfl (Nat.le_of_ble_eq_true rfl) dX1_within_39 ⟨Nat.zero_le _, Nat.zero_le _⟩ ?_
          refine lv_if_eq (tgt := 60) hx hb dX1_within_42 (by decide) (fun c_10 => ?_) (fun c_10 => ?_)
          · have c_10 := b2i_e c_10
            refine J3 c_6 c_7 c_8 c_9 _ ?_ ls (lv_sub hl [0, 1, 2, 3, 4, 5] rfl)
            simp [aWith, wB, w1F, c_6, c_7, c_8, c_9, c_10]
          · have c_10 := b2i_n c_10
            refine lv_aload_n hx hb dX1_within_45 rfl (lv_at hl 1 rfl) ?_
            refine lv_iload_n hx hb dX1_within_46 rfl (lv_at hl 2 rfl) ?_
            refine lv_iconst (v := 1) hx hb dX1_within_47 (by decide) ?_
            refine lv_iload_n hx hb dX1_within_48 rfl (lv_at hl 3 rfl) ?_
            refine lv_iload hx hb dX1_within_49 (lv_at hl 5 rfl) ?_
            refine xc_R (As := [.int w, .int 1, .int x, .int z]) (rest := []) ⟨hx, hb, hml, hown, hts⟩ (c_X1_stands l D a cV cI cG v gg dn lt ch w 1 x z (isW_in c_6) (isF_in (isS_F c_7)) (isF_in c_9)) (cwV 4 hts gX1_within_X1_stands rfl rfl rfl (by decide +kernel) ⟨Nat.le_of_ble_eq_true rfl, Nat.le_of_ble_eq_true rfl⟩) xMv0 trivial hP hK (va_recv hK hP (ci := 1) (q0 := 0) rfl rfl) rfl hl.1 rfl (Nat.le_of_ble_eq_true rfl) dX1_within_51 ⟨Nat.zero_le _, Nat.zero_le _⟩ ?_
            refine lv_if_eq (tgt := 60) hx hb dX1_within_54 (by decide) (fun c_11 => ?_) (fun c_11 => ?_)
            · have c_11 := b2i_e c_11
              refine J3 c_6 c_7 c_8 c_9 _ ?_ ls (lv_sub hl [0, 1, 2, 3, 4, 5] rfl)
              simp [aWith, wB, w1F, c_6, c_7, c_8, c_9, c_10, c_11]
            · have c_11 := b2i_n c_11
              refine lv_iinc (v := 0 + 1) (lv' := [(5, .int (0 + 1)), (0, .ref (a 0)), (1, .int w), (2, .int x), (3, .int y), (4, .int z)]) hx hb dX1_within_57 hl (k := 0) rfl (rfl) (by decide) rfl (fun ls hl => ?_)
              refine J3 c_6 c_7 c_8 c_9 _ ?_ ls (lv_sub hl [0, 1, 2, 3, 4, 5] rfl)
              simp [aWith, wB, w1F, c_6, c_7, c_8, c_9, c_10, c_11]
        · have c_9 := b2i_e c_9
          refine lv_iconst (v := -1) hx hb dX1_within_29 (by decide) ?_
          exact xr_i hx hb hr hlk dX1_within_30 (by simp [aWith, wB, c_6, c_7, c_8, c_9])
set_option maxHeartbeats 4000000 in
set_option maxRecDepth 100000 in
theorem c_X1_changeWithNext (l : Launch) (D : va_G) (a : Nat → Nat) (cV cI cG : ClassId) (v : Nat → Nat → Int32) (gg : Nat → Option Nat) (dn lt ch : Int32) (sz : Nat) (w : Int32) (k : Nat) (hw : vp_in w 2) (hk : k < 31) : Met l yX1_changeWithNext wsX1_changeWithNext ({ frames := 0, cells := 0, slots := 0, locals := 0 }) (xW D vwCl (cb a cV cI cG v gg dn lt ch) (cT cV cI cG) xB0 sz [.ref (a 0), .int w, .int (nI k)]) (xQv (S := Unit) D vwCl (fun _ => True) (fun _ => cb a cV cI cG (swp v (cn w) k) gg dn lt ch) (fun _ => cT cV cI cG) (va_A (cb a cV cI cG v gg dn lt ch) sz)) 0 0 (va_A (cb a cV cI cG v gg dn lt ch) sz) := by
  refine xw_in (Qf := xQv (S := Unit) D vwCl (fun _ => True) (fun _ => cb a cV cI cG (swp v (cn w) k) gg dn lt ch) (fun _ => cT cV cI cG)) (cc := cX1_changeWithNext) (maxL := 5) (ret := none) (by decide) rfl (Nat.le_of_ble_eq_true rfl) ?_
  intro p e s m below meth c ls A hx hb hr hml hts hown hlk hnm hA hP hK hD hS hB hl
  have hown : s.vm.findClass RX1 = some m.cls := hown
  have hl : lv_has ls 5 [(0, .ref (a 0)), (1, .int w), (2, .int (nI k))] := hl
  have hiF : ∀ w ∈ wsX10, w ∈ wsX1_changeWithNext := by decide +kernel
  refine lv_aload_n hx hb dX1_changeWithNext_0 rfl (lv_at hl 0 rfl) ?_
  refine va_get (D := D) (ci := 1) (v := .ref (a 1)) (C := RX1) (T := TX1) (N := 5) hx hb hts hiF hown hK hP 0 rfl rfl 0 (by decide) (hts (.fieldLink RX1 11 "TunerBench" "values" "[[I") (by decide +kernel)) (fun _ h9 => h9) rfl dX1_changeWithNext_1 ?_
  refine lv_iload_n hx hb dX1_changeWithNext_4 rfl (lv_at hl 1 rfl) ?_
  refine xa_ald (D := D) hx hb hK hP 1 0 rfl rfl hw dX1_changeWithNext_5 ?_
  refine lv_astore_n (lv' := [(3, .ref (a (2 + cn w))), (0, .ref (a 0)), (1, .int w), (2, .int (nI k))]) hx hb dX1_changeWithNext_6 rfl hl (by decide) rfl (fun ls hl => ?_)
  refine lv_aload_n hx hb dX1_changeWithNext_7 rfl (lv_at hl 0 rfl) ?_
  refine lv_iload_n hx hb dX1_changeWithNext_8 rfl (lv_at hl 3 rfl) ?_
  refine va_iald (D := D) hx hb hK hP (2 + cn w) 1 (cb_row (vp_lt hw)) rfl (vp_in_nI (show k < 33 by omega) (by decide)) dX1_changeWithNext_9 ?_
  refine lv_istore (lv' := [(4, .int (v (cn w) (cn (nI k)))), (3, .ref (a (2 + cn w))), (0, .ref (a 0)), (1, .int w), (2, .int (nI k))]) hx hb dX1_changeWithNext_10 hl (by decide) rfl (fun ls hl => ?_)
  refine lv_aload_n hx hb dX1_changeWithNext_12 rfl (lv_at hl 1 rfl) ?_
  refine lv_iload_n hx hb dX1_changeWithNext_13 rfl (lv_at hl 4 rfl) ?_
  refine lv_aload_n hx hb dX1_changeWithNext_14 rfl (lv_at hl 1 rfl) ?_
  refine lv_iload_n hx hb dX1_changeWithNext_15 rfl (lv_at hl 4 rfl) ?_
  refine lv_iconst (v := 1) hx hb dX1_changeWithNext_16 (by decide) ?_
  refine lv_iadd hx hb dX1_changeWithNext_17 ?_
  rw [nI_1 k]
  refine va_iald (D := D) hx hb hK hP (2 + cn w) 1 (cb_row (vp_lt hw)) rfl (vp_in_nI (show k + 1 < 33 by omega) (by decide)) dX1_changeWithNext_18 ?_
  refine va_iast (D := D) hx hb hK hP hD hS (2 + cn w) 1 (cb_row (vp_lt hw)) rfl (vp_in_nI (show k < 33 by omega) (by decide)) dX1_changeWithNext_19 (fun H locs hP hD hS => ?_)
  rw [cb_set (vp_lt hw)] at hP hD
  have hP : va_P D vwCl (cb a cV cI cG (up2 v (cn w) (cn (nI k)) (v (cn w) (cn (nI (k + 1))))) gg dn lt ch) H := hP
  have hD : va_D A (cb a cV cI cG (up2 v (cn w) (cn (nI k)) (v (cn w) (cn (nI (k + 1))))) gg dn lt ch) := hD
  refine lv_aload_n hx hb dX1_changeWithNext_20 rfl (lv_at hl 1 rfl) ?_
  refine lv_iload_n hx hb dX1_changeWithNext_21 rfl (lv_at hl 4 rfl) ?_
  refine lv_iconst (v := 1) hx hb dX1_changeWithNext_22 (by decide) ?_
  refine lv_iadd hx hb dX1_changeWithNext_23 ?_
  rw [nI_1 k]
  refine lv_iload hx hb dX1_changeWithNext_24 (lv_at hl 0 rfl) ?_
  refine va_iast (D := D) hx hb hK hP hD hS (2 + cn w) 1 (cb_row (vp_lt hw)) rfl (vp_in_nI (show k + 1 < 33 by omega) (by decide)) dX1_changeWithNext_26 (fun H locs hP hD hS => ?_)
  rw [cb_set (vp_lt hw)] at hP hD
  have hP : va_P D vwCl (cb a cV cI cG (up2 (up2 v (cn w) (cn (nI k)) (v (cn w) (cn (nI (k + 1))))) (cn w) (cn (nI (k + 1))) (v (cn w) (cn (nI k)))) gg dn lt ch) H := hP
  have hD : va_D A (cb a cV cI cG (up2 (up2 v (cn w) (cn (nI k)) (v (cn w) (cn (nI (k + 1))))) (cn w) (cn (nI (k + 1))) (v (cn w) (cn (nI k)))) gg dn lt ch) := hD
  have e_v : up2 (up2 v (cn w) (cn (nI k)) (v (cn w) (cn (nI (k + 1))))) (cn w) (cn (nI (k + 1))) (v (cn w) (cn (nI k))) = swp v (cn w) k := by simp only [swp, nI_cn (show k < 2 ^ 31 by omega), nI_cn (show k + 1 < 2 ^ 31 by omega)]
  rw [e_v] at hP hD
  exact xw_v (S := Unit) () hx hb hr hlk dX1_changeWithNext_27 hP hK hD hS trivial
set_option maxHeartbeats 4000000 in
set_option maxRecDepth 100000 in
theorem c_X1_pass (l : Launch) (D : va_G) (a : Nat → Nat) (cV cI cG : ClassId) (v : Nat → Nat → Int32) (gg : Nat → Option Nat) (dn lt ch : Int32) (sz : Nat) (w h x y : Int32) : Met l yX1_pass wsX1_pass ({ frames := 3, cells := 0, slots := 0, locals := 68 }) (xW D vwCl (cb a cV cI cG v gg dn lt ch) (cT cV cI cG) xB0 sz [.ref (a 0), .int w, .int h, .int x, .int y]) (xQ (S := Unit) D vwCl (fun r _ => r = aPass v w h x y) (fun _ => cb a cV cI cG (nPass v w h x y) gg dn lt (hPass v ch w h x y)) (fun _ => cT cV cI cG) (va_A (cb a cV cI cG v gg dn lt ch) sz)) 0 0 (va_A (cb a cV cI cG v gg dn lt ch) sz) := by
  refine xw_in (Qf := xQ (S := Unit) D vwCl (fun r _ => r = aPass v w h x y) (fun _ => cb a cV cI cG (nPass v w h x y) gg dn lt (hPass v ch w h x y)) (fun _ => cT cV cI cG)) (cc := cX1_pass) (maxL := 7) (ret := (some .int)) (by decide) rfl (Nat.le_of_ble_eq_true rfl) ?_
  intro p e s m below meth c ls A hx hb hr hml hts hown hlk hnm hA hP hK hD hS hB hl
  have hown : s.vm.findClass RX1 = some m.cls := hown
  have hl : lv_has ls 7 [(0, .ref (a 0)), (1, .int w), (2, .int h), (3, .int x), (4, .int y)] := hl
  have hiF : ∀ w ∈ wsX10, w ∈ wsX1_pass := by decide +kernel
  have loop : vp_in w 2 → isHb h = true → pB w h x y = true → y = nI (cn y) → cn y < 32 → ∀ (n k c1 : Nat) (v1 : Nat → Nat → Int32), k + n = cn y → psF (cn w) h n k v1 c1 = rPass v w h x y → ∀ (H : Heap) (locs : List Loc), va_P D vwCl (cb a cV cI cG v1 gg dn lt ch) H → va_D A (cb a cV cI cG v1 gg dn lt ch) → va_S A s.heap H locs → ∀ ls : Array Slot, lv_has ls 7 [(6, .int (nI k)), (5, .int (nI c1)), (0, .ref (a 0)), (1, .int w), (2, .int h), (3, .int x), (4, .int y)] → W p l e ({ frames := 3, cells := 0, slots := 0, locals := 68 }) s m ([.ref (a 0), .int w, .int h, .int x, .int y] : List Value).toArray below meth c H locs 0 0 (MQ below (xQ (S := Unit) D vwCl (fun r _ => r = aPass v w h x y) (fun _ => cb a cV cI cG (nPass v w h x y) gg dn lt (hPass v ch w h x y)) (fun _ => cT cV cI cG) A) ([.ref (a 0), .int w, .int h, .int x, .int y] : List Value).toArray s 0 0 A) (F0 m 37 ls []) := by
    intro hw hh hp hyn hy0 n
    induction n with
    | zero =>
      intro k c1 v1 hk hres H locs hP hD hS ls hl
      obtain rfl : k = cn y := by omega
      have hres : (v1, c1) = rPass v w h x y := hres
      refine lv_iload hx hb dX1_pass_37 (lv_at hl 0 rfl) ?_
      refine lv_iload hx hb dX1_pass_39 (lv_at hl 6 rfl) ?_
      refine lv_icmp_ge (tgt := 75) hx hb dX1_pass_41 (by decide) (fun c_1 => ?_) (fun c_1 => absurd (by rw [← hyn]; exact Int32.le_refl _) c_1)
      refine lv_aload_n hx hb dX1_pass_75 rfl (lv_at hl 2 rfl) ?_
      refine lv_dup hx hb dX1_pass_76 rfl ?_
      refine va_get (D := D) (ci := 1) (v := .int ch) (C := RX1) (T := TX1) (N := 5) hx hb hts hiF hown hK hP 0 rfl rfl 4 (by decide) (hts (.fieldLink RX1 27 "TunerBench" "changes" "I") (by decide +kernel)) (fun _ h9 => h9) rfl dX1_pass_77 ?_
      refine lv_iload hx hb dX1_pass_80 (lv_at hl 1 rfl) ?_
      refine lv_iadd hx hb dX1_pass_82 ?_
      refine va_put (D := D) (ci := 1) (v := .int (ch + (nI c1))) (ty := .int) (C := RX1) (T := TX1) (N := 5) hx hb hts hiF tyX1 tyX1_ok nmX1 hown hK hP hD hS 0 rfl rfl 4 (by decide) (hts (.fieldLink RX1 27 "TunerBench" "changes" "I") (by decide +kernel)) (fun _ h9 => h9) rfl (by decide +kernel) rfl rfl (Nat.le_of_ble_eq_true rfl) dX1_pass_83 (fun H locs hP hD hS => ?_)
      have hP : va_P D vwCl (cb a cV cI cG v1 gg dn lt (ch + (nI c1))) H := hP
      have hD : va_D A (cb a cV cI cG v1 gg dn lt (ch + (nI c1))) := hD
      refine lv_iload hx hb dX1_pass_86 (lv_at hl 1 rfl) ?_
      have e1 : v1 = nPass v w h x y := by simp only [nPass, hp, if_true]; rw [← hres]
      have e2 : ch + nI c1 = hPass v ch w h x y := by simp only [hPass, hp, if_true]; rw [← hres]
      rw [e1, e2] at hP hD
      exact xw_i (S := Unit) () hx hb hr hlk dX1_pass_88 hP hK hD hS (by simp only [aPass, hp, if_true]; rw [← hres])
    | succ n ih =>
      intro k c1 v1 hk hres H locs hP hD hS ls hl
      refine lv_iload hx hb dX1_pass_37 (lv_at hl 0 rfl) ?_
      refine lv_iload hx hb dX1_pass_39 (lv_at hl 6 rfl) ?_
      refine lv_icmp_ge (tgt := 75) hx hb dX1_pass_41 (by decide) (fun c_2 => absurd c_2 (by rw [hyn]; exact nI_ge (show k < cn y by omega) (by omega))) (fun c_2 => ?_)
      refine lv_aload_n hx hb dX1_pass_44 rfl (lv_at hl 2 rfl) ?_
      refine lv_iload_n hx hb dX1_pass_45 rfl (lv_at hl 3 rfl) ?_
      refine lv_iload_n hx hb dX1_pass_46 rfl (lv_at hl 4 rfl) ?_
      refine lv_iload hx hb dX1_pass_47 (lv_at hl 0 rfl) ?_
      refine lv_iload hx hb dX1_pass_49 (lv_at hl 0 rfl) ?_
      refine lv_iconst (v := 1) hx hb dX1_pass_51 (by decide) ?_
      refine lv_iadd hx hb dX1_pass_52 ?_
      rw [nI_1 k]
      refine xc_R (As := [.int w, .int h, .int (nI k), .int (nI (k + 1))]) (rest := []) ⟨hx, hb, hml, hown, hts⟩ (c_X1_stands l D a cV cI cG v1 gg dn lt ch w h (nI k) (nI (k + 1)) hw (vp_in_nI (show k < 33 by omega) (by decide)) (vp_in_nI (show k + 1 < 33 by omega) (by decide))) (cwV 4 hts gX1_pass_X1_stands rfl rfl rfl (by decide +kernel) ⟨Nat.le_of_ble_eq_true rfl, Nat.le_of_ble_eq_true rfl⟩) xMv0 trivial hP hK (va_recv hK hP (ci := 1) (q0 := 0) rfl rfl) rfl hl.1 rfl (Nat.le_of_ble_eq_true rfl) dX1_pass_53 ⟨Nat.zero_le _, Nat.zero_le _⟩ ?_
      refine lv_if_ne (tgt := 69) hx hb dX1_pass_56 (by decide) (fun c_3 => ?_) (fun c_3 => ?_)
      · have c_3 := b2i_n c_3
        have c_3 : stnF h (v1 (cn w) k) (v1 (cn w) (k + 1)) = true := by simpa [sdF, nI_cn (show k < 2 ^ 31 by omega), nI_cn (show k + 1 < 2 ^ 31 by omega)] using c_3
        refine lv_iinc (v := nI (k + 1)) (lv' := [(6, .int (nI (k + 1))), (5, .int (nI c1)), (0, .ref (a 0)), (1, .int w), (2, .int h), (3, .int x), (4, .int y)]) hx hb dX1_pass_69 hl (k := 0) rfl (nI_1 k) (by decide) rfl (fun ls hl => ?_)
        refine lv_goto (tgt := 37) hx hb dX1_pass_72 (by decide) ?_
        refine ih (k + 1) c1 v1 (by omega) ?_ H locs hP hD hS ls (lv_sub hl [0, 1, 2, 3, 4, 5, 6] rfl)
        rw [← hres]; simp [psF, c_3]
      · have c_3 := b2i_e c_3
        have c_3 : stnF h (v1 (cn w) k) (v1 (cn w) (k + 1)) = false := by simpa [sdF, nI_cn (show k < 2 ^ 31 by omega), nI_cn (show k + 1 < 2 ^ 31 by omega)] using c_3
        refine lv_aload_n hx hb dX1_pass_59 rfl (lv_at hl 2 rfl) ?_
        refine lv_iload_n hx hb dX1_pass_60 rfl (lv_at hl 3 rfl) ?_
        refine lv_iload hx hb dX1_pass_61 (lv_at hl 0 rfl) ?_
        have hPn := hP; rw [← List.append_nil (cb a cV cI cG v1 gg dn lt ch)] at hPn
        have hDn := hD; rw [← List.append_nil (cb a cV cI cG v1 gg dn lt ch)] at hDn
        refine xc_Wv (S0 := Unit) (rw := []) (As := [.int w, .int (nI k)]) (rest := []) ⟨hx, hb, hml, hown, hts⟩ (c_X1_changeWithNext l D a cV cI cG v1 gg dn lt ch H.size w k hw (by omega)) (cwV 2 hts gX1_pass_X1_changeWithNext rfl rfl rfl (by decide +kernel) ⟨Nat.le_of_ble_eq_true rfl, Nat.le_of_ble_eq_true rfl⟩) xMv0 trivial hPn hK hDn hS hA (va_recv hK hP (ci := 1) (q0 := 0) rfl rfl) rfl hl.1 rfl (Nat.le_of_ble_eq_true rfl) dX1_pass_63 ⟨Nat.zero_le _, Nat.zero_le _⟩ (fun _ H locs _ hP hD _ hS => ?_)
        rw [List.append_nil] at hP hD
        have hP : va_P D vwCl (cb a cV cI cG (swp v1 (cn w) k) gg dn lt ch) H := hP
        have hD : va_D A (cb a cV cI cG (swp v1 (cn w) k) gg dn lt ch) := hD
        refine lv_iinc (v := nI (c1 + 1)) (lv' := [(5, .int (nI (c1 + 1))), (6, .int (nI k)), (0, .ref (a 0)), (1, .int w), (2, .int h), (3, .int x), (4, .int y)]) hx hb dX1_pass_66 hl (k := 1) rfl (nI_1 c1) (by decide) rfl (fun ls hl => ?_)
        refine lv_iinc (v := nI (k + 1)) (lv' := [(6, .int (nI (k + 1))), (5, .int (nI (c1 + 1))), (0, .ref (a 0)), (1, .int w), (2, .int h), (3, .int x), (4, .int y)]) hx hb dX1_pass_69 hl (k := 1) rfl (nI_1 k) (by decide) rfl (fun ls hl => ?_)
        refine lv_goto (tgt := 37) hx hb dX1_pass_72 (by decide) ?_
        refine ih (k + 1) (c1 + 1) (swp v1 (cn w) k) (by omega) ?_ H locs hP hD hS ls (lv_sub hl [0, 1, 2, 3, 4, 5, 6] rfl)
        rw [← hres]; simp [psF, c_3]
  refine lv_iload_n hx hb dX1_pass_0 rfl (lv_at hl 1 rfl) ?_
  refine lv_iload_n hx hb dX1_pass_1 rfl (lv_at hl 2 rfl) ?_
  refine xc_T (As := [.int w, .int h]) (rest := []) ⟨hx, hb, hml, hown, hts⟩ (c_X1_isQuestion l w h) (va_cwS 2 hts gX1_pass_X1_isQuestion rfl rfl rfl (by decide +kernel) ⟨Nat.le_of_ble_eq_true rfl, Nat.le_of_ble_eq_true rfl⟩) rfl hl.1 rfl (Nat.le_of_ble_eq_true rfl) dX1_pass_2 ⟨Nat.zero_le _, Nat.zero_le _⟩ ?_
  refine lv_if_eq (tgt := 29) hx hb dX1_pass_5 (by decide) (fun c_4 => ?_) (fun c_4 => ?_)
  · have c_4 := b2i_e c_4
    refine lv_iconst (v := -1) hx hb dX1_pass_29 (by decide) ?_
    have e1 : v = nPass v w h x y := by simp [nPass, pB, c_4]
    have e2 : ch = hPass v ch w h x y := by simp [hPass, pB, c_4]
    rw [show (cb a cV cI cG v gg dn lt ch) = (cb a cV cI cG (nPass v w h x y) gg dn lt (hPass v ch w h x y)) from by rw [← e1, ← e2]] at hP hD
    exact xw_i (S := Unit) () hx hb hr hlk dX1_pass_30 hP hK hD hS (by simp [aPass, pB, c_4])
  · have c_4 := b2i_n c_4
    refine lv_iload_n hx hb dX1_pass_8 rfl (lv_at hl 3 rfl) ?_
    refine xc_T (As := [.int x]) (rest := []) ⟨hx, hb, hml, hown, hts⟩ (c_X1_isString l x) (va_cwS 1 hts gX1_pass_X1_isString rfl rfl rfl (by decide +kernel) ⟨Nat.le_of_ble_eq_true rfl, Nat.le_of_ble_eq_true rfl⟩) rfl hl.1 rfl (Nat.le_of_ble_eq_true rfl) dX1_pass_9 ⟨Nat.zero_le _, Nat.zero_le _⟩ ?_
    refine lv_if_eq (tgt := 29) hx hb dX1_pass_12 (by decide) (fun c_5 => ?_) (fun c_5 => ?_)
    · have c_5 := b2i_e c_5
      refine lv_iconst (v := -1) hx hb dX1_pass_29 (by decide) ?_
      have e1 : v = nPass v w h x y := by simp [nPass, pB, c_4, c_5]
      have e2 : ch = hPass v ch w h x y := by simp [hPass, pB, c_4, c_5]
      rw [show (cb a cV cI cG v gg dn lt ch) = (cb a cV cI cG (nPass v w h x y) gg dn lt (hPass v ch w h x y)) from by rw [← e1, ← e2]] at hP hD
      exact xw_i (S := Unit) () hx hb hr hlk dX1_pass_30 hP hK hD hS (by simp [aPass, pB, c_4, c_5])
    · have c_5 := b2i_n c_5
      refine lv_iload hx hb dX1_pass_15 (lv_at hl 4 rfl) ?_
      refine xc_T (As := [.int y]) (rest := []) ⟨hx, hb, hml, hown, hts⟩ (c_X1_isString l y) (va_cwS 1 hts gX1_pass_X1_isString rfl rfl rfl (by decide +kernel) ⟨Nat.le_of_ble_eq_true rfl, Nat.le_of_ble_eq_true rfl⟩) rfl hl.1 rfl (Nat.le_of_ble_eq_true rfl) dX1_pass_17 ⟨Nat.zero_le _, Nat.zero_le _⟩ ?_
      refine lv_if_eq (tgt := 29) hx hb dX1_pass_20 (by decide) (fun c_6 => ?_) (fun c_6 => ?_)
      · have c_6 := b2i_e c_6
        refine lv_iconst (v := -1) hx hb dX1_pass_29 (by decide) ?_
        have e1 : v = nPass v w h x y := by simp [nPass, pB, c_4, c_5, c_6]
        have e2 : ch = hPass v ch w h x y := by simp [hPass, pB, c_4, c_5, c_6]
        rw [show (cb a cV cI cG v gg dn lt ch) = (cb a cV cI cG (nPass v w h x y) gg dn lt (hPass v ch w h x y)) from by rw [← e1, ← e2]] at hP hD
        exact xw_i (S := Unit) () hx hb hr hlk dX1_pass_30 hP hK hD hS (by simp [aPass, pB, c_4, c_5, c_6])
      · have c_6 := b2i_n c_6
        refine lv_iload_n hx hb dX1_pass_23 rfl (lv_at hl 3 rfl) ?_
        refine lv_iload hx hb dX1_pass_24 (lv_at hl 4 rfl) ?_
        refine lv_icmp_le (tgt := 31) hx hb dX1_pass_26 (by decide) (fun c_7 => ?_) (fun c_7 => ?_)
        · refine lv_iconst (v := 0) hx hb dX1_pass_31 (by decide) ?_
          refine lv_istore (lv' := [(5, .int 0), (0, .ref (a 0)), (1, .int w), (2, .int h), (3, .int x), (4, .int y)]) hx hb dX1_pass_32 hl (by decide) rfl (fun ls hl => ?_)
          refine lv_iload_n hx hb dX1_pass_34 rfl (lv_at hl 4 rfl) ?_
          refine lv_istore (lv' := [(6, .int x), (5, .int 0), (0, .ref (a 0)), (1, .int w), (2, .int h), (3, .int x), (4, .int y)]) hx hb dX1_pass_35 hl (by decide) rfl (fun ls hl => ?_)
          obtain ⟨i0, hi0, ei0⟩ := vp_in_of (isS_in c_5) (by decide)
          obtain ⟨j0, hj0, ej0⟩ := vp_in_of (isS_in c_6) (by decide)
          have hci : cn x = i0 := by rw [ei0]; exact nI_cn (by omega)
          have hcj : cn y = j0 := by rw [ej0]; exact nI_cn (by omega)
          have hij : i0 ≤ j0 := by have q9 := c_7; rw [ei0, ej0] at q9; exact (nI_leI (by omega) (by omega)).mp q9
          refine loop (isQ_w c_4) (isQ_h c_4) (by simp [pB, c_4, c_5, c_6, c_7]) (by rw [hcj]; exact ej0) (by omega) (j0 - i0) i0 0 v (by omega) ?_ _ _ hP hD hS ls ?_
          · simp only [rPass, hci, hcj]
          · rw [← ei0]; exact lv_sub hl [0, 1, 2, 3, 4, 5, 6] rfl
        · refine lv_iconst (v := -1) hx hb dX1_pass_29 (by decide) ?_
          have e1 : v = nPass v w h x y := by simp [nPass, pB, c_4, c_5, c_6, c_7]
          have e2 : ch = hPass v ch w h x y := by simp [hPass, pB, c_4, c_5, c_6, c_7]
          rw [show (cb a cV cI cG v gg dn lt ch) = (cb a cV cI cG (nPass v w h x y) gg dn lt (hPass v ch w h x y)) from by rw [← e1, ← e2]] at hP hD
          exact xw_i (S := Unit) () hx hb hr hlk dX1_pass_30 hP hK hD hS (by simp [aPass, pB, c_4, c_5, c_6, c_7])
set_option maxHeartbeats 4000000 in
set_option maxRecDepth 100000 in
theorem c_X1_strike (l : Launch) (D : va_G) (a : Nat → Nat) (cV cI cG : ClassId) (v : Nat → Nat → Int32) (gg : Nat → Option Nat) (dn lt ch : Int32) (sz : Nat) (x : Int32) : Met l yX1_strike wsX1_strike ({ frames := 1, cells := 0, slots := 0, locals := 20 }) (xW D vwCl (cb a cV cI cG v gg dn lt ch) (cT cV cI cG) xB0 sz [.ref (a 0), .int x]) (xQ (S := Unit) D vwCl (fun r _ => r = b2i (isSb x)) (fun _ => cb a cV cI cG (nStri v x) gg dn lt ch) (fun _ => cT cV cI cG) (va_A (cb a cV cI cG v gg dn lt ch) sz)) 0 0 (va_A (cb a cV cI cG v gg dn lt ch) sz) := by
  refine xw_in (Qf := xQ (S := Unit) D vwCl (fun r _ => r = b2i (isSb x)) (fun _ => cb a cV cI cG (nStri v x) gg dn lt ch) (fun _ => cT cV cI cG)) (cc := cX1_strike) (maxL := 3) (ret := (some .boolean)) (by decide) rfl (Nat.le_of_ble_eq_true rfl) ?_
  intro p e s m below meth c ls A hx hb hr hml hts hown hlk hnm hA hP hK hD hS hB hl
  have hown : s.vm.findClass RX1 = some m.cls := hown
  have hl : lv_has ls 3 [(0, .ref (a 0)), (1, .int x)] := hl
  have hiF : ∀ w ∈ wsX10, w ∈ wsX1_strike := by decide +kernel
  refine lv_iload_n hx hb dX1_strike_0 rfl (lv_at hl 1 rfl) ?_
  refine xc_T (As := [.int x]) (rest := []) ⟨hx, hb, hml, hown, hts⟩ (c_X1_isString l x) (va_cwS 1 hts gX1_strike_X1_isString rfl rfl rfl (by decide +kernel) ⟨Nat.le_of_ble_eq_true rfl, Nat.le_of_ble_eq_true rfl⟩) rfl hl.1 rfl (Nat.le_of_ble_eq_true rfl) dX1_strike_1 ⟨Nat.zero_le _, Nat.zero_le _⟩ ?_
  refine lv_if_ne (tgt := 9) hx hb dX1_strike_4 (by decide) (fun c_1 => ?_) (fun c_1 => ?_)
  · have c_1 := b2i_n c_1
    refine lv_iconst (v := 0) hx hb dX1_strike_9 (by decide) ?_
    refine lv_istore_n (lv' := [(2, .int 0), (0, .ref (a 0)), (1, .int x)]) hx hb dX1_strike_10 rfl hl (by decide) rfl (fun ls hl => ?_)
    refine lv_iload_n hx hb dX1_strike_11 rfl (lv_at hl 0 rfl) ?_
    refine lv_iconst (v := 2) hx hb dX1_strike_12 (by decide) ?_
    refine lv_icmp_ge (tgt := 39) hx hb dX1_strike_13 (by decide) (fun c_2 => absurd c_2 (by decide)) (fun c_2 => ?_)
    refine lv_aload_n hx hb dX1_strike_16 rfl (lv_at hl 1 rfl) ?_
    refine va_get (D := D) (ci := 1) (v := .ref (a 1)) (C := RX1) (T := TX1) (N := 5) hx hb hts hiF hown hK hP 0 rfl rfl 0 (by decide) (hts (.fieldLink RX1 11 "TunerBench" "values" "[[I") (by decide +kernel)) (fun _ h9 => h9) rfl dX1_strike_17 ?_
    refine lv_iload_n hx hb dX1_strike_20 rfl (lv_at hl 0 rfl) ?_
    refine xa_ald (D := D) hx hb hK hP 1 0 rfl rfl (show vp_in (0) 2 by unfold vp_in; decide) dX1_strike_21 ?_
    refine lv_bipush (v := 32) hx hb dX1_strike_22 (by decide) ?_
    refine lv_aload_n hx hb dX1_strike_24 rfl (lv_at hl 1 rfl) ?_
    refine va_get (D := D) (ci := 1) (v := .ref (a 1)) (C := RX1) (T := TX1) (N := 5) hx hb hts hiF hown hK hP 0 rfl rfl 0 (by decide) (hts (.fieldLink RX1 11 "TunerBench" "values" "[[I") (by decide +kernel)) (fun _ h9 => h9) rfl dX1_strike_25 ?_
    refine lv_iload_n hx hb dX1_strike_28 rfl (lv_at hl 0 rfl) ?_
    refine xa_ald (D := D) hx hb hK hP 1 0 rfl rfl (show vp_in (0) 2 by unfold vp_in; decide) dX1_strike_29 ?_
    refine lv_iload_n hx hb dX1_strike_30 rfl (lv_at hl 2 rfl) ?_
    refine va_iald (D := D) hx hb hK hP (2 + cn 0) 1 (cb_row (vp_lt (show vp_in (0) 2 by unfold vp_in; decide))) rfl (isF_in (isS_F c_1)) dX1_strike_31 ?_
    refine va_iast (D := D) hx hb hK hP hD hS (2 + cn 0) 1 (cb_row (vp_lt (show vp_in (0) 2 by unfold vp_in; decide))) rfl (show vp_in (32) 33 by unfold vp_in; decide) dX1_strike_32 (fun H locs hP hD hS => ?_)
    rw [cb_set (vp_lt (show vp_in (0) 2 by unfold vp_in; decide))] at hP hD
    have hP : va_P D vwCl (cb a cV cI cG (up2 v (cn 0) (cn 32) (v (cn 0) (cn x))) gg dn lt ch) H := hP
    have hD : va_D A (cb a cV cI cG (up2 v (cn 0) (cn 32) (v (cn 0) (cn x))) gg dn lt ch) := hD
    refine lv_iinc (v := 0 + 1) (lv' := [(2, .int (0 + 1)), (0, .ref (a 0)), (1, .int x)]) hx hb dX1_strike_33 hl (k := 0) rfl (rfl) (by decide) rfl (fun ls hl => ?_)
    refine lv_goto (tgt := 11) hx hb dX1_strike_36 (by decide) ?_
    refine lv_iload_n hx hb dX1_strike_11 rfl (lv_at hl 0 rfl) ?_
    refine lv_iconst (v := 2) hx hb dX1_strike_12 (by decide) ?_
    refine lv_icmp_ge (tgt := 39) hx hb dX1_strike_13 (by decide) (fun c_3 => absurd c_3 (by decide)) (fun c_3 => ?_)
    refine lv_aload_n hx hb dX1_strike_16 rfl (lv_at hl 1 rfl) ?_
    refine va_get (D := D) (ci := 1) (v := .ref (a 1)) (C := RX1) (T := TX1) (N := 5) hx hb hts hiF hown hK hP 0 rfl rfl 0 (by decide) (hts (.fieldLink RX1 11 "TunerBench" "values" "[[I") (by decide +kernel)) (fun _ h9 => h9) rfl dX1_strike_17 ?_
    refine lv_iload_n hx hb dX1_strike_20 rfl (lv_at hl 0 rfl) ?_
    refine xa_ald (D := D) hx hb hK hP 1 0 rfl rfl (show vp_in (0 + 1) 2 by unfold vp_in; decide) dX1_strike_21 ?_
    refine lv_bipush (v := 32) hx hb dX1_strike_22 (by decide) ?_
    refine lv_aload_n hx hb dX1_strike_24 rfl (lv_at hl 1 rfl) ?_
    refine va_get (D := D) (ci := 1) (v := .ref (a 1)) (C := RX1) (T := TX1) (N := 5) hx hb hts hiF hown hK hP 0 rfl rfl 0 (by decide) (hts (.fieldLink RX1 11 "TunerBench" "values" "[[I") (by decide +kernel)) (fun _ h9 => h9) rfl dX1_strike_25 ?_
    refine lv_iload_n hx hb dX1_strike_28 rfl (lv_at hl 0 rfl) ?_
    refine xa_ald (D := D) hx hb hK hP 1 0 rfl rfl (show vp_in (0 + 1) 2 by unfold vp_in; decide) dX1_strike_29 ?_
    refine lv_iload_n hx hb dX1_strike_30 rfl (lv_at hl 2 rfl) ?_
    refine va_iald (D := D) hx hb hK hP (2 + cn (0 + 1)) 1 (cb_row (vp_lt (show vp_in (0 + 1) 2 by unfold vp_in; decide))) rfl (isF_in (isS_F c_1)) dX1_strike_31 ?_
    refine va_iast (D := D) hx hb hK hP hD hS (2 + cn (0 + 1)) 1 (cb_row (vp_lt (show vp_in (0 + 1) 2 by unfold vp_in; decide))) rfl (show vp_in (32) 33 by unfold vp_in; decide) dX1_strike_32 (fun H locs hP hD hS => ?_)
    rw [cb_set (vp_lt (show vp_in (0 + 1) 2 by unfold vp_in; decide))] at hP hD
    have hP : va_P D vwCl (cb a cV cI cG (up2 (up2 v (cn 0) (cn 32) (v (cn 0) (cn x))) (cn (0 + 1)) (cn 32) ((up2 v (cn 0) (cn 32) (v (cn 0) (cn x))) (cn (0 + 1)) (cn x))) gg dn lt ch) H := hP
    have hD : va_D A (cb a cV cI cG (up2 (up2 v (cn 0) (cn 32) (v (cn 0) (cn x))) (cn (0 + 1)) (cn 32) ((up2 v (cn 0) (cn 32) (v (cn 0) (cn x))) (cn (0 + 1)) (cn x))) gg dn lt ch) := hD
    refine lv_iinc (v := (0 + 1) + 1) (lv' := [(2, .int ((0 + 1) + 1)), (0, .ref (a 0)), (1, .int x)]) hx hb dX1_strike_33 hl (k := 0) rfl (rfl) (by decide) rfl (fun ls hl => ?_)
    refine lv_goto (tgt := 11) hx hb dX1_strike_36 (by decide) ?_
    refine lv_iload_n hx hb dX1_strike_11 rfl (lv_at hl 0 rfl) ?_
    refine lv_iconst (v := 2) hx hb dX1_strike_12 (by decide) ?_
    refine lv_icmp_ge (tgt := 39) hx hb dX1_strike_13 (by decide) (fun c_4 => ?_) (fun c_4 => absurd (by decide) c_4)
    refine lv_iconst (v := 1) hx hb dX1_strike_39 (by decide) ?_
    have e_v : up2 (up2 v (cn 0) (cn 32) (v (cn 0) (cn x))) (cn (0 + 1)) (cn 32) ((up2 v (cn 0) (cn 32) (v (cn 0) (cn x))) (cn (0 + 1)) (cn x)) = nStri v x := by
      simp only [nStri, c_1, if_true, show cn 0 = 0 by decide, show cn 1 = 1 by decide, show cn 32 = 32 by decide, show cn (0 + 1) = 1 by decide]
      rw [up2_oth v _ _ (show (1 : Nat) ≠ 0 by decide)]
    rw [e_v] at hP hD
    exact xw_z (S := Unit) () hx hb hr hlk dX1_strike_40 (by decide) hP hK hD hS (by simp [b2i, c_1])
  · have c_1 := b2i_e c_1
    refine lv_iconst (v := 0) hx hb dX1_strike_7 (by decide) ?_
    have e_v : v = nStri v x := by simp [nStri, c_1]
    rw [e_v] at hP hD
    exact xw_z (S := Unit) () hx hb hr hlk dX1_strike_8 (by decide) hP hK hD hS (by simp [b2i, c_1])
