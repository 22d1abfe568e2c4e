/-! the model: its loops -/
set_option maxHeartbeats 4000000 in
set_option maxRecDepth 100000 in
theorem c_X2_climb (l : Launch) (D : va_G) (a : Nat → Nat) (cI cZ : ClassId) (v : Nat → Nat → Int32) (G : Nat → Option GT) (dn lt ch gn : Int32) (w h x : Int32) (okv : ∀ i j : Nat, okV (v i j)) : Met l yX2_climb wsX2_climb ({ frames := 3, cells := 0, slots := 0, locals := 73 }) (xR D vwCl (mb a cI cZ v G dn lt ch gn) (mT cI cZ) xB0 [.ref (a 0), .int w, .int h, .int x]) (QcRead (aClim v w h x)) 0 0 (fun _ => False) := by
  refine xr_in (cc := cX2_climb) (maxL := 5) (ret := (some .int)) (by decide) rfl (Nat.le_of_ble_eq_true rfl) ?_
  intro p e s m below meth c ls hx hb hr hml hts hown hlk hP hK hB hl
  have hown : s.vm.findClass RX2 = some m.cls := hown
  have hl : lv_has ls 5 [(0, .ref (a 0)), (1, .int w), (2, .int h), (3, .int x)] := hl
  have hiF : ∀ w ∈ wsX20, w ∈ wsX2_climb := by decide +kernel
  have loop : vp_in w 2 → isHb h = true → ∀ (n k : Nat), k + n = 31 → nI (clF v (cn w) h n k) = aClim v w h x → ∀ ls : Array Slot, lv_has ls 5 [(4, .int (nI k)), (0, .ref (a 0)), (1, .int w), (2, .int h), (3, .int x)] → W p l e ({ frames := 3, cells := 0, slots := 0, locals := 73 }) s m ([.ref (a 0), .int w, .int h, .int x] : List Value).toArray below meth c s.heap [] 0 0 (MQ below (QcRead (aClim v w h x)) ([.ref (a 0), .int w, .int h, .int x] : List Value).toArray s 0 0 (fun _ => False)) (F0 m 20 ls []) := by
    intro hw hh n
    induction n with
    | zero =>
      intro k hk hres ls hl
      obtain rfl : k = 31 := by omega
      refine lv_iload hx hb dX2_climb_20 (lv_at hl 0 rfl) ?_
      refine lv_iconst (v := 1) hx hb dX2_climb_22 (by decide) ?_
      refine lv_iadd hx hb dX2_climb_23 ?_
      refine lv_bipush (v := 32) hx hb dX2_climb_24 (by decide) ?_
      refine lv_icmp_ge (tgt := 50) hx hb dX2_climb_26 (by decide) (fun c_1 => ?_) (fun c_1 => absurd (by decide) c_1)
      refine lv_iload hx hb dX2_climb_50 (lv_at hl 0 rfl) ?_
      exact xr_i hx hb hr hlk dX2_climb_52 hres
    | succ n ih =>
      intro k hk hres ls hl
      refine lv_iload hx hb dX2_climb_20 (lv_at hl 0 rfl) ?_
      refine lv_iconst (v := 1) hx hb dX2_climb_22 (by decide) ?_
      refine lv_iadd hx hb dX2_climb_23 ?_
      rw [nI_1 k]
      refine lv_bipush (v := 32) hx hb dX2_climb_24 (by decide) ?_
      refine lv_icmp_ge (tgt := 50) hx hb dX2_climb_26 (by decide) (fun c_2 => absurd c_2 (nI_ge (show k + 1 < 32 by omega) (by decide))) (fun c_2 => ?_)
      refine lv_aload_n hx hb dX2_climb_29 rfl (lv_at hl 1 rfl) ?_
      refine lv_iload_n hx hb dX2_climb_30 rfl (lv_at hl 2 rfl) ?_
      refine lv_iload_n hx hb dX2_climb_31 rfl (lv_at hl 3 rfl) ?_
      refine lv_iload hx hb dX2_climb_32 (lv_at hl 0 rfl) ?_
      refine lv_iload hx hb dX2_climb_34 (lv_at hl 0 rfl) ?_
      refine lv_iconst (v := 1) hx hb dX2_climb_36 (by decide) ?_
      refine lv_iadd hx hb dX2_climb_37 ?_
      rw [nI_1 k]
      refine xc_R (As := [.int w, .int h, .int (nI k), .int (nI (k + 1))]) (rest := []) ⟨hx, hb, hml, hown, hts⟩ (c_X2_stands l D a cI cZ v G dn lt ch gn w h (nI k) (nI (k + 1)) hw (vp_in_nI (show k < 33 by omega) (by decide)) (vp_in_nI (show k + 1 < 33 by omega) (by decide)) hh okv) (cwV 4 hts gX2_climb_X2_stands rfl rfl rfl (by decide +kernel) ⟨Nat.le_of_ble_eq_true rfl, Nat.le_of_ble_eq_true rfl⟩) xMv0 trivial hP hK (va_recv hK hP (ci := 2) (q0 := 0) rfl rfl) rfl hl.1 rfl (Nat.le_of_ble_eq_true rfl) dX2_climb_38 ⟨Nat.zero_le _, Nat.zero_le _⟩ ?_
      refine lv_if_eq (tgt := 50) hx hb dX2_climb_41 (by decide) (fun c_3 => ?_) (fun c_3 => ?_)
      · have c_3 := b2i_e c_3
        have c_3 : stnF h (v (cn w) k) (v (cn w) (k + 1)) = false := by simpa [sdF, nI_cn (show k < 2 ^ 31 by omega), nI_cn (show k + 1 < 2 ^ 31 by omega)] using c_3
        refine lv_iload hx hb dX2_climb_50 (lv_at hl 0 rfl) ?_
        exact xr_i hx hb hr hlk dX2_climb_52 (by rw [← hres]; simp [clF, c_3])
      · have c_3 := b2i_n c_3
        have c_3 : stnF h (v (cn w) k) (v (cn w) (k + 1)) = true := by simpa [sdF, nI_cn (show k < 2 ^ 31 by omega), nI_cn (show k + 1 < 2 ^ 31 by omega)] using c_3
        refine lv_iinc (v := nI (k + 1)) (lv' := [(4, .int (nI (k + 1))), (0, .ref (a 0)), (1, .int w), (2, .int h), (3, .int x)]) hx hb dX2_climb_44 hl (k := 0) rfl (nI_1 k) (by decide) rfl (fun ls hl => ?_)
        refine lv_goto (tgt := 20) hx hb dX2_climb_47 (by decide) ?_
        refine ih (k + 1) (by omega) ?_ ls (lv_sub hl [0, 1, 2, 3, 4] rfl)
        rw [← hres]; simp [clF, c_3]
  refine lv_iload_n hx hb dX2_climb_0 rfl (lv_at hl 1 rfl) ?_
  refine lv_iload_n hx hb dX2_climb_1 rfl (lv_at hl 2 rfl) ?_
  refine xc_T (As := [.int w, .int h]) (rest := []) ⟨hx, hb, hml, hown, hts⟩ (c_X2_isAsked l w h) (va_cwS 2 hts gX2_climb_X2_isAsked rfl rfl rfl (by decide +kernel) ⟨Nat.le_of_ble_eq_true rfl, Nat.le_of_ble_eq_true rfl⟩) rfl hl.1 rfl (Nat.le_of_ble_eq_true rfl) dX2_climb_2 ⟨Nat.zero_le _, Nat.zero_le _⟩ ?_
  refine lv_if_eq (tgt := 15) hx hb dX2_climb_5 (by decide) (fun c_4 => ?_) (fun c_4 => ?_)
  · have c_4 := b2i_e c_4
    refine lv_iconst (v := -1) hx hb dX2_climb_15 (by decide) ?_
    exact xr_i hx hb hr hlk dX2_climb_16 (by simp [aClim, c_4])
  · have c_4 := b2i_n c_4
    refine lv_iload_n hx hb dX2_climb_8 rfl (lv_at hl 3 rfl) ?_
    refine xc_T (As := [.int x]) (rest := []) ⟨hx, hb, hml, hown, hts⟩ (c_X2_isString l x) (va_cwS 1 hts gX2_climb_X2_isString rfl rfl rfl (by decide +kernel) ⟨Nat.le_of_ble_eq_true rfl, Nat.le_of_ble_eq_true rfl⟩) rfl hl.1 rfl (Nat.le_of_ble_eq_true rfl) dX2_climb_9 ⟨Nat.zero_le _, Nat.zero_le _⟩ ?_
    refine lv_if_ne (tgt := 17) hx hb dX2_climb_12 (by decide) (fun c_5 => ?_) (fun c_5 => ?_)
    · have c_5 := b2i_n c_5
      refine lv_iload_n hx hb dX2_climb_17 rfl (lv_at hl 3 rfl) ?_
      refine lv_istore (lv' := [(4, .int x), (0, .ref (a 0)), (1, .int w), (2, .int h), (3, .int x)]) hx hb dX2_climb_18 hl (by decide) rfl (fun ls hl => ?_)
      obtain ⟨j, hj, ej⟩ := vp_in_of (isS_in c_5) (by decide)
      have hcj : cn x = j := by rw [ej]; exact nI_cn (by omega)
      refine loop (isQ_w c_4) (isQ_h c_4) (31 - j) j (by omega) ?_ ls ?_
      · simp [aClim, hcj, c_4, c_5]
      · rw [← ej]; exact lv_sub hl [0, 1, 2, 3, 4] rfl
    · have c_5 := b2i_e c_5
      refine lv_iconst (v := -1) hx hb dX2_climb_15 (by decide) ?_
      exact xr_i hx hb hr hlk dX2_climb_16 (by simp [aClim, c_4, c_5])
set_option maxHeartbeats 4000000 in
set_option maxRecDepth 100000 in
theorem c_X2_first (l : Launch) (D : va_G) (a : Nat → Nat) (cI cZ : ClassId) (v : Nat → Nat → Int32) (G : Nat → Option GT) (dn lt ch gn : Int32) (w h x : Int32) (nb : Bool) (okv : ∀ i j : Nat, okV (v i j)) : Met l yX2_first wsX2_first ({ frames := 3, cells := 0, slots := 0, locals := 73 }) (xR D vwCl (mb a cI cZ v G dn lt ch gn) (mT cI cZ) xB0 [.ref (a 0), .int w, .int h, .int x, .int (b2i nb)]) (QcRead (aFirs v w h x nb)) 0 0 (fun _ => False) := by
  refine xr_in (cc := cX2_first) (maxL := 6) (ret := (some .int)) (by decide) rfl (Nat.le_of_ble_eq_true rfl) ?_
  intro p e s m below meth c ls hx hb hr hml hts hown hlk hP hK hB hl
  have hown : s.vm.findClass RX2 = some m.cls := hown
  have hl : lv_has ls 6 [(0, .ref (a 0)), (1, .int w), (2, .int h), (3, .int x), (4, .int (b2i nb))] := hl
  have hiF : ∀ w ∈ wsX20, w ∈ wsX2_first := by decide +kernel
  have loop : vp_in w 2 → isHb h = true → ∀ (n k : Nat), k + n = 32 → fsF v (cn w) h nb n k = aFirs v w h x nb → ∀ ls : Array Slot, lv_has ls 6 [(5, .int (nI k)), (0, .ref (a 0)), (1, .int w), (2, .int h), (3, .int x), (4, .int (b2i nb))] → W p l e ({ frames := 3, cells := 0, slots := 0, locals := 73 }) s m ([.ref (a 0), .int w, .int h, .int x, .int (b2i nb)] : List Value).toArray below meth c s.heap [] 0 0 (MQ below (QcRead (aFirs v w h x nb)) ([.ref (a 0), .int w, .int h, .int x, .int (b2i nb)] : List Value).toArray s 0 0 (fun _ => False)) (F0 m 20 ls []) := by
    intro hw hh n
    induction n with
    | zero =>
      intro k hk hres ls hl
      obtain rfl : k = 32 := by omega
      refine lv_iload hx hb dX2_first_20 (lv_at hl 0 rfl) ?_
      refine lv_bipush (v := 32) hx hb dX2_first_22 (by decide) ?_
      refine lv_icmp_ge (tgt := 51) hx hb dX2_first_24 (by decide) (fun c_1 => ?_) (fun c_1 => absurd (by decide) c_1)
      refine lv_iconst (v := -1) hx hb dX2_first_51 (by decide) ?_
      exact xr_i hx hb hr hlk dX2_first_52 hres
    | succ n ih =>
      intro k hk hres ls hl
      refine lv_iload hx hb dX2_first_20 (lv_at hl 0 rfl) ?_
      refine lv_bipush (v := 32) hx hb dX2_first_22 (by decide) ?_
      refine lv_icmp_ge (tgt := 51) hx hb dX2_first_24 (by decide) (fun c_2 => absurd c_2 (nI_ge (show k < 32 by omega) (by decide))) (fun c_2 => ?_)
      refine lv_aload_n hx hb dX2_first_27 rfl (lv_at hl 1 rfl) ?_
      refine lv_iload_n hx hb dX2_first_28 rfl (lv_at hl 2 rfl) ?_
      refine lv_iload_n hx hb dX2_first_29 rfl (lv_at hl 3 rfl) ?_
      refine lv_iload hx hb dX2_first_30 (lv_at hl 0 rfl) ?_
      refine lv_bipush (v := 32) hx hb dX2_first_32 (by decide) ?_
      refine xc_R (As := [.int w, .int h, .int (nI k), .int 32]) (rest := []) ⟨hx, hb, hml, hown, hts⟩ (c_X2_stands l D a cI cZ v G dn lt ch gn w h (nI k) 32 hw (vp_in_nI (show k < 33 by omega) (by decide)) (show vp_in (32) 33 by unfold vp_in; decide) hh okv) (cwV 4 hts gX2_first_X2_stands rfl rfl rfl (by decide +kernel) ⟨Nat.le_of_ble_eq_true rfl, Nat.le_of_ble_eq_true rfl⟩) xMv0 trivial hP hK (va_recv hK hP (ci := 2) (q0 := 0) rfl rfl) rfl hl.1 rfl (Nat.le_of_ble_eq_true rfl) dX2_first_34 ⟨Nat.zero_le _, Nat.zero_le _⟩ ?_
      refine lv_iload hx hb dX2_first_37 (lv_at hl 5 rfl) ?_
      refine lv_icmp_eq (tgt := 45) hx hb dX2_first_39 (by decide) (fun c_3 => ?_) (fun c_3 => ?_)
      · have c_3 : (stnF h (v (cn w) k) (v (cn w) 32) != nb) = false := by
          have q9 := b2i_eq c_3
          simpa [sdF, nI_cn (show k < 2 ^ 31 by omega), show cn 32 = 32 by decide] using q9
        refine lv_iinc (v := nI (k + 1)) (lv' := [(5, .int (nI (k + 1))), (0, .ref (a 0)), (1, .int w), (2, .int h), (3, .int x), (4, .int (b2i nb))]) hx hb dX2_first_45 hl (k := 0) rfl (nI_1 k) (by decide) rfl (fun ls hl => ?_)
        refine lv_goto (tgt := 20) hx hb dX2_first_48 (by decide) ?_
        refine ih (k + 1) (by omega) ?_ ls (lv_sub hl [0, 1, 2, 3, 4, 5] rfl)
        rw [← hres]; simp only [fsF, c_3]; simp
      · have c_3 : (stnF h (v (cn w) k) (v (cn w) 32) != nb) = true := by
          have q9 := b2i_ne c_3
          simpa [sdF, nI_cn (show k < 2 ^ 31 by omega), show cn 32 = 32 by decide] using q9
        refine lv_iload hx hb dX2_first_42 (lv_at hl 0 rfl) ?_
        exact xr_i hx hb hr hlk dX2_first_44 (by rw [← hres]; simp only [fsF, c_3]; simp)
  refine lv_iload_n hx hb dX2_first_0 rfl (lv_at hl 1 rfl) ?_
  refine lv_iload_n hx hb dX2_first_1 rfl (lv_at hl 2 rfl) ?_
  refine xc_T (As := [.int w, .int h]) (rest := []) ⟨hx, hb, hml, hown, hts⟩ (c_X2_isAsked l w h) (va_cwS 2 hts gX2_first_X2_isAsked rfl rfl rfl (by decide +kernel) ⟨Nat.le_of_ble_eq_true rfl, Nat.le_of_ble_eq_true rfl⟩) rfl hl.1 rfl (Nat.le_of_ble_eq_true rfl) dX2_first_2 ⟨Nat.zero_le _, Nat.zero_le _⟩ ?_
  refine lv_if_eq (tgt := 15) hx hb dX2_first_5 (by decide) (fun c_4 => ?_) (fun c_4 => ?_)
  · have c_4 := b2i_e c_4
    refine lv_iconst (v := -1) hx hb dX2_first_15 (by decide) ?_
    exact xr_i hx hb hr hlk dX2_first_16 (by simp [aFirs, c_4])
  · have c_4 := b2i_n c_4
    refine lv_iload_n hx hb dX2_first_8 rfl (lv_at hl 3 rfl) ?_
    refine xc_T (As := [.int x]) (rest := []) ⟨hx, hb, hml, hown, hts⟩ (c_X2_isString l x) (va_cwS 1 hts gX2_first_X2_isString rfl rfl rfl (by decide +kernel) ⟨Nat.le_of_ble_eq_true rfl, Nat.le_of_ble_eq_true rfl⟩) rfl hl.1 rfl (Nat.le_of_ble_eq_true rfl) dX2_first_9 ⟨Nat.zero_le _, Nat.zero_le _⟩ ?_
    refine lv_if_ne (tgt := 17) hx hb dX2_first_12 (by decide) (fun c_5 => ?_) (fun c_5 => ?_)
    · have c_5 := b2i_n c_5
      refine lv_iload_n hx hb dX2_first_17 rfl (lv_at hl 3 rfl) ?_
      refine lv_istore (lv' := [(5, .int x), (0, .ref (a 0)), (1, .int w), (2, .int h), (3, .int x), (4, .int (b2i nb))]) hx hb dX2_first_18 hl (by decide) rfl (fun ls hl => ?_)
      obtain ⟨j, hj, ej⟩ := vp_in_of (isS_in c_5) (by decide)
      have hcj : cn x = j := by rw [ej]; exact nI_cn (by omega)
      refine loop (isQ_w c_4) (isQ_h c_4) (32 - j) j (by omega) ?_ ls ?_
      · simp [aFirs, hcj, c_4, c_5]
      · rw [← ej]; exact lv_sub hl [0, 1, 2, 3, 4, 5] rfl
    · have c_5 := b2i_e c_5
      refine lv_iconst (v := -1) hx hb dX2_first_15 (by decide) ?_
      exact xr_i hx hb hr hlk dX2_first_16 (by simp [aFirs, c_4, c_5])
set_option maxHeartbeats 4000000 in
set_option maxRecDepth 100000 in
theorem c_X2_best (l : Launch) (D : va_G) (a : Nat → Nat) (cI cZ : ClassId) (v : Nat → Nat → Int32) (G : Nat → Option GT) (dn lt ch gn : Int32) (w h : Int32) (nb : Bool) (okv : ∀ i j : Nat, okV (v i j)) : Met l yX2_best wsX2_best ({ frames := 3, cells := 0, slots := 0, locals := 73 }) (xR D vwCl (mb a cI cZ v G dn lt ch gn) (mT cI cZ) xB0 [.ref (a 0), .int w, .int h, .int (b2i nb)]) (QcRead (aBest v w h nb)) 0 0 (fun _ => False) := by
  refine xr_in (cc := cX2_best) (maxL := 6) (ret := (some .int)) (by decide) rfl (Nat.le_of_ble_eq_true rfl) ?_
  intro p e s m below meth c ls hx hb hr hml hts hown hlk hP hK hB hl
  have hown : s.vm.findClass RX2 = some m.cls := hown
  have hl : lv_has ls 6 [(0, .ref (a 0)), (1, .int w), (2, .int h), (3, .int (b2i nb))] := hl
  have hiF : ∀ w ∈ wsX20, w ∈ wsX2_best := by decide +kernel
  have loop : vp_in w 2 → isHb h = true → ∀ (n k f : Nat), k + n = 32 → f < 32 → nI (bsF v (cn w) h nb n k f) = aBest v w h nb → ∀ ls : Array Slot, lv_has ls 6 [(5, .int (nI k)), (4, .int (nI f)), (0, .ref (a 0)), (1, .int w), (2, .int h), (3, .int (b2i nb))] → W p l e ({ frames := 3, cells := 0, slots := 0, locals := 73 }) s m ([.ref (a 0), .int w, .int h, .int (b2i nb)] : List Value).toArray below meth c s.heap [] 0 0 (MQ below (QcRead (aBest v w h nb)) ([.ref (a 0), .int w, .int h, .int (b2i nb)] : List Value).toArray s 0 0 (fun _ => False)) (F0 m 16 ls []) := by
    intro hw hh n
    induction n with
    | zero =>
      intro k f hk hf hres ls hl
      obtain rfl : k = 32 := by omega
      refine lv_iload hx hb dX2_best_16 (lv_at hl 0 rfl) ?_
      refine lv_bipush (v := 32) hx hb dX2_best_18 (by decide) ?_
      refine lv_icmp_ge (tgt := 47) hx hb dX2_best_20 (by decide) (fun c_1 => ?_) (fun c_1 => absurd (by decide) c_1)
      refine lv_iload hx hb dX2_best_47 (lv_at hl 1 rfl) ?_
      exact xr_i hx hb hr hlk dX2_best_49 hres
    | succ n ih =>
      intro k f hk hf hres ls hl
      refine lv_iload hx hb dX2_best_16 (lv_at hl 0 rfl) ?_
      refine lv_bipush (v := 32) hx hb dX2_best_18 (by decide) ?_
      refine lv_icmp_ge (tgt := 47) hx hb dX2_best_20 (by decide) (fun c_2 => absurd c_2 (nI_ge (show k < 32 by omega) (by decide))) (fun c_2 => ?_)
      refine lv_aload_n hx hb dX2_best_23 rfl (lv_at hl 2 rfl) ?_
      refine lv_iload_n hx hb dX2_best_24 rfl (lv_at hl 3 rfl) ?_
      refine lv_iload_n hx hb dX2_best_25 rfl (lv_at hl 4 rfl) ?_
      refine lv_iload hx hb dX2_best_26 (lv_at hl 0 rfl) ?_
      refine lv_iload hx hb dX2_best_28 (lv_at hl 1 rfl) ?_
      refine xc_R (As := [.int w, .int h, .int (nI k), .int (nI f)]) (rest := []) ⟨hx, hb, hml, hown, hts⟩ (c_X2_stands l D a cI cZ v G dn lt ch gn w h (nI k) (nI f) hw (vp_in_nI (show k < 33 by omega) (by decide)) (vp_in_nI (show f < 33 by omega) (by decide)) hh okv) (cwV 4 hts gX2_best_X2_stands rfl rfl rfl (by decide +kernel) ⟨Nat.le_of_ble_eq_true rfl, Nat.le_of_ble_eq_true rfl⟩) xMv0 trivial hP hK (va_recv hK hP (ci := 2) (q0 := 0) rfl rfl) rfl hl.1 rfl (Nat.le_of_ble_eq_true rfl) dX2_best_30 ⟨Nat.zero_le _, Nat.zero_le _⟩ ?_
      refine lv_iload_n hx hb dX2_best_33 rfl (lv_at hl 5 rfl) ?_
      refine lv_icmp_eq (tgt := 41) hx hb dX2_best_34 (by decide) (fun c_3 => ?_) (fun c_3 => ?_)
      · have c_3 : (stnF h (v (cn w) k) (v (cn w) f) != nb) = false := by
          have q9 := b2i_eq c_3
          simpa [sdF, nI_cn (show k < 2 ^ 31 by omega), nI_cn (show f < 2 ^ 31 by omega)] using q9
        refine lv_iinc (v := nI (k + 1)) (lv' := [(5, .int (nI (k + 1))), (4, .int (nI f)), (0, .ref (a 0)), (1, .int w), (2, .int h), (3, .int (b2i nb))]) hx hb dX2_best_41 hl (k := 0) rfl (nI_1 k) (by decide) rfl (fun ls hl => ?_)
        refine lv_goto (tgt := 16) hx hb dX2_best_44 (by decide) ?_
        refine ih (k + 1) f (by omega) (by omega) ?_ ls (lv_sub hl [0, 1, 2, 3, 4, 5] rfl)
        rw [← hres]; simp only [bsF, c_3]; simp
      · have c_3 : (stnF h (v (cn w) k) (v (cn w) f) != nb) = true := by
          have q9 := b2i_ne c_3
          simpa [sdF, nI_cn (show k < 2 ^ 31 by omega), nI_cn (show f < 2 ^ 31 by omega)] using q9
        refine lv_iload hx hb dX2_best_37 (lv_at hl 0 rfl) ?_
        refine lv_istore (lv' := [(4, .int (nI k)), (5, .int (nI k)), (0, .ref (a 0)), (1, .int w), (2, .int h), (3, .int (b2i nb))]) hx hb dX2_best_39 hl (by decide) rfl (fun ls hl => ?_)
        refine lv_iinc (v := nI (k + 1)) (lv' := [(5, .int (nI (k + 1))), (4, .int (nI k)), (0, .ref (a 0)), (1, .int w), (2, .int h), (3, .int (b2i nb))]) hx hb dX2_best_41 hl (k := 1) rfl (nI_1 k) (by decide) rfl (fun ls hl => ?_)
        refine lv_goto (tgt := 16) hx hb dX2_best_44 (by decide) ?_
        refine ih (k + 1) k (by omega) (by omega) ?_ ls (lv_sub hl [0, 1, 2, 3, 4, 5] rfl)
        rw [← hres]; simp only [bsF, c_3]; simp
  refine lv_iload_n hx hb dX2_best_0 rfl (lv_at hl 1 rfl) ?_
  refine lv_iload_n hx hb dX2_best_1 rfl (lv_at hl 2 rfl) ?_
  refine xc_T (As := [.int w, .int h]) (rest := []) ⟨hx, hb, hml, hown, hts⟩ (c_X2_isAsked l w h) (va_cwS 2 hts gX2_best_X2_isAsked rfl rfl rfl (by decide +kernel) ⟨Nat.le_of_ble_eq_true rfl, Nat.le_of_ble_eq_true rfl⟩) rfl hl.1 rfl (Nat.le_of_ble_eq_true rfl) dX2_best_2 ⟨Nat.zero_le _, Nat.zero_le _⟩ ?_
  refine lv_if_ne (tgt := 10) hx hb dX2_best_5 (by decide) (fun c_4 => ?_) (fun c_4 => ?_)
  · have c_4 := b2i_n c_4
    refine lv_iconst (v := 0) hx hb dX2_best_10 (by decide) ?_
    refine lv_istore (lv' := [(4, .int 0), (0, .ref (a 0)), (1, .int w), (2, .int h), (3, .int (b2i nb))]) hx hb dX2_best_11 hl (by decide) rfl (fun ls hl => ?_)
    refine lv_iconst (v := 1) hx hb dX2_best_13 (by decide) ?_
    refine lv_istore (lv' := [(5, .int 1), (4, .int 0), (0, .ref (a 0)), (1, .int w), (2, .int h), (3, .int (b2i nb))]) hx hb dX2_best_14 hl (by decide) rfl (fun ls hl => ?_)
    refine loop (isQ_w c_4) (isQ_h c_4) 31 1 0 (by omega) (by omega) ?_ ls (lv_sub hl [0, 1, 2, 3, 4, 5] rfl)
    simp [aBest, c_4]
  · have c_4 := b2i_e c_4
    refine lv_iconst (v := -1) hx hb dX2_best_8 (by decide) ?_
    exact xr_i hx hb hr hlk dX2_best_9 (by simp [aBest, c_4])
theorem srt1 (z : Int32) : srtF z = 1 ↔ z = 40003 := by
  unfold srtF
  by_cases h : z = 40003
  · simp [h]
  · by_cases h2 : z = 40002
    · simp [h, h2]
    · by_cases h3 : z = 40001
      · simp [h, h2, h3]
      · by_cases h4 : z = -40001
        · simp [h, h2, h3, h4]
        · simp [h, h2, h3, h4]
set_option maxHeartbeats 4000000 in
set_option maxRecDepth 100000 in
theorem c_X2_within (l : Launch) (D : va_G) (a : Nat → Nat) (cI cZ : ClassId) (v : Nat → Nat → Int32) (G : Nat → Option GT) (dn lt ch gn : Int32) (w x y z : Int32) (okv : ∀ i j : Nat, okV (v i j)) : Met l yX2_within wsX2_within ({ frames := 3, cells := 0, slots := 0, locals := 73 }) (xR D vwCl (mb a cI cZ v G dn lt ch gn) (mT cI cZ) xB0 [.ref (a 0), .int w, .int x, .int y, .int z]) (QcRead (aWith v w x y z)) 0 0 (fun _ => False) := by
  refine xr_in (cc := cX2_within) (maxL := 6) (ret := (some .int)) (by decide) rfl (Nat.le_of_ble_eq_true rfl) ?_
  intro p e s m below meth c ls hx hb hr hml hts hown hlk hP hK hB hl
  have hown : s.vm.findClass RX2 = some m.cls := hown
  have hl : lv_has ls 6 [(0, .ref (a 0)), (1, .int w), (2, .int x), (3, .int y), (4, .int z)] := hl
  have hiF : ∀ w ∈ wsX20, w ∈ wsX2_within := by decide +kernel
  have J0 : isWb w = true → isSb x = true → isFb y = true → isFb z = true → ∀ (u : Int32), u = aWith v w x y z → ∀ ls : Array Slot, lv_has ls 6 [(5, .int u), (0, .ref (a 0)), (1, .int w), (2, .int x), (3, .int y), (4, .int z)] → W p l e ({ frames := 3, cells := 0, slots := 0, locals := 73 }) s m ([.ref (a 0), .int w, .int x, .int y, .int z] : List Value).toArray below meth c s.heap [] 0 0 (MQ below (QcRead (aWith v w x y z)) ([.ref (a 0), .int w, .int x, .int y, .int z] : List Value).toArray s 0 0 (fun _ => False)) (F0 m 131 ls []) := by
    intro hw0 hx0 hy0 hz0 u hres ls hl
    refine lv_iload hx hb dX2_within_131 (lv_at hl 0 rfl) ?_
    exact xr_i hx hb hr hlk dX2_within_133 hres
  have J1 : isWb w = true → isSb x = true → isFb y = true → isFb z = true → ∀ (u : Int32), u + w4F v w x = aWith v w x y z → ∀ ls : Array Slot, lv_has ls 6 [(5, .int u), (0, .ref (a 0)), (1, .int w), (2, .int x), (3, .int y), (4, .int z)] → W p l e ({ frames := 3, cells := 0, slots := 0, locals := 73 }) s m ([.ref (a 0), .int w, .int x, .int y, .int z] : List Value).toArray below meth c s.heap [] 0 0 (MQ below (QcRead (aWith v w x y z)) ([.ref (a 0), .int w, .int x, .int y, .int z] : List Value).toArray s 0 0 (fun _ => False)) (F0 m 114 ls []) := by
    intro hw0 hx0 hy0 hz0 u hres ls hl
    refine lv_aload_n hx hb dX2_within_114 rfl (lv_at hl 1 rfl) ?_
    refine va_get (D := D) (ci := 2) (v := .ref (a 1)) (C := RX2) (T := TX2) (N := 14) hx hb hts hiF hown hK hP 0 rfl rfl 0 (by decide) (hts (.fieldLink RX2 7 "TunerBenchModel" "sorts" "[I") (by decide +kernel)) (fun _ h9 => h9) rfl dX2_within_115 ?_
    refine lv_iload_n hx hb dX2_within_118 rfl (lv_at hl 2 rfl) ?_
    refine lv_iload_n hx hb dX2_within_119 rfl (lv_at hl 3 rfl) ?_
    refine xc_T (As := [.int w, .int x]) (rest := [.ref (a 1)]) ⟨hx, hb, hml, hown, hts⟩ (c_X2_at l w x) (va_cwS 2 hts gX2_within_X2_at rfl rfl rfl (by decide +kernel) ⟨Nat.le_of_ble_eq_true rfl, Nat.le_of_ble_eq_true rfl⟩) rfl hl.1 rfl (Nat.le_of_ble_eq_true rfl) dX2_within_120 ⟨Nat.zero_le _, Nat.zero_le _⟩ ?_
    refine va_iald (D := D) hx hb hK hP 1 0 rfl rfl (at_in (isW_in hw0) (isF_in (isS_F hx0))) dX2_within_123 ?_
    rw [at_cn (isW_in hw0) (isF_in (isS_F hx0)), mso_at v (vp_lt (isF_in (isS_F hx0)))]
    refine lv_iconst (v := 1) hx hb dX2_within_124 (by decide) ?_
    refine lv_icmp_ne (tgt := 131) hx hb dX2_within_125 (by decide) (fun c_1 => ?_) (fun c_1 => ?_)
    · rw [srt1] at c_1
      refine J0 hw0 hx0 hy0 hz0 _ ?_ ls (lv_sub hl [0, 1, 2, 3, 4, 5] rfl)
      rw [← hres]; simp [w4F, c_1]
    · rw [srt1] at c_1
      refine lv_iinc (v := u + 8) (lv' := [(5, .int (u + 8)), (0, .ref (a 0)), (1, .int w), (2, .int x), (3, .int y), (4, .int z)]) hx hb dX2_within_128 hl (k := 0) rfl (rfl) (by decide) rfl (fun ls hl => ?_)
      refine J0 hw0 hx0 hy0 hz0 _ ?_ ls (lv_sub hl [0, 1, 2, 3, 4, 5] rfl)
      rw [← hres]; simp [w4F, c_1]
  have J2 : isWb w = true → isSb x = true → isFb y = true → isFb z = true → ∀ (u : Int32), (u + w3F v w x y z) + w4F v w x = aWith v w x y z → ∀ ls : Array Slot, lv_has ls 6 [(5, .int u), (0, .ref (a 0)), (1, .int w), (2, .int x), (3, .int y), (4, .int z)] → W p l e ({ frames := 3, cells := 0, slots := 0, locals := 73 }) s m ([.ref (a 0), .int w, .int x, .int y, .int z] : List Value).toArray below meth c s.heap [] 0 0 (MQ below (QcRead (aWith v w x y z)) ([.ref (a 0), .int w, .int x, .int y, .int z] : List Value).toArray s 0 0 (fun _ => False)) (F0 m 88 ls []) := by
    intro hw0 hx0 hy0 hz0 u hres ls hl
    refine lv_aload_n hx hb dX2_within_88 rfl (lv_at hl 1 rfl) ?_
    refine lv_iload_n hx hb dX2_within_89 rfl (lv_at hl 2 rfl) ?_
    refine lv_iconst (v := 0) hx hb dX2_within_90 (by decide) ?_
    refine lv_iload_n hx hb dX2_within_91 rfl (lv_at hl 3 rfl) ?_
    refine lv_iload_n hx hb dX2_within_92 rfl (lv_at hl 4 rfl) ?_
    refine xc_R (As := [.int w, .int 0, .int x, .int y]) (rest := []) ⟨hx, hb, hml, hown, hts⟩ (c_X2_stands l D a cI cZ v G dn lt ch gn w 0 x y (isW_in hw0) (isF_in (isS_F hx0)) (isF_in hy0) (by decide) okv) (cwV 4 hts gX2_within_X2_stands rfl rfl rfl (by decide +kernel) ⟨Nat.le_of_ble_eq_true rfl, Nat.le_of_ble_eq_true rfl⟩) xMv0 trivial hP hK (va_recv hK hP (ci := 2) (q0 := 0) rfl rfl) rfl hl.1 rfl (Nat.le_of_ble_eq_true rfl) dX2_within_93 ⟨Nat.zero_le _, Nat.zero_le _⟩ ?_
    refine lv_if_ne (tgt := 111) hx hb dX2_within_96 (by decide) (fun c_2 => ?_) (fun c_2 => ?_)
    · have c_2 := b2i_n c_2
      refine lv_iinc (v := u + 4) (lv' := [(5, .int (u + 4)), (0, .ref (a 0)), (1, .int w), (2, .int x), (3, .int y), (4, .int z)]) hx hb dX2_within_111 hl (k := 0) rfl (rfl) (by decide) rfl (fun ls hl => ?_)
      refine J1 hw0 hx0 hy0 hz0 _ ?_ ls (lv_sub hl [0, 1, 2, 3, 4, 5] rfl)
      rw [← hres]; simp [w3F, c_2]
    · have c_2 := b2i_e c_2
      refine lv_aload_n hx hb dX2_within_99 rfl (lv_at hl 1 rfl) ?_
      refine lv_iload_n hx hb dX2_within_100 rfl (lv_at hl 2 rfl) ?_
      refine lv_iconst (v := 2) hx hb dX2_within_101 (by decide) ?_
      refine lv_iload_n hx hb dX2_within_102 rfl (lv_at hl 3 rfl) ?_
      refine lv_iload hx hb dX2_within_103 (lv_at hl 5 rfl) ?_
      refine xc_R (As := [.int w, .int 2, .int x, .int z]) (rest := []) ⟨hx, hb, hml, hown, hts⟩ (c_X2_stands l D a cI cZ v G dn lt ch gn w 2 x z (isW_in hw0) (isF_in (isS_F hx0)) (isF_in hz0) (by decide) okv) (cwV 4 hts gX2_within_X2_stands rfl rfl rfl (by decide +kernel) ⟨Nat.le_of_ble_eq_true rfl, Nat.le_of_ble_eq_true rfl⟩) xMv0 trivial hP hK (va_recv hK hP (ci := 2) (q0 := 0) rfl rfl) rfl hl.1 rfl (Nat.le_of_ble_eq_true rfl) dX2_within_105 ⟨Nat.zero_le _, Nat.zero_le _⟩ ?_
      refine lv_if_eq (tgt := 114) hx hb dX2_within_108 (by decide) (fun c_3 => ?_) (fun c_3 => ?_)
      · have c_3 := b2i_e c_3
        refine J1 hw0 hx0 hy0 hz0 _ ?_ ls (lv_sub hl [0, 1, 2, 3, 4, 5] rfl)
        rw [← hres]; simp [w3F, c_2, c_3]
      · have c_3 := b2i_n c_3
        refine lv_iinc (v := u + 4) (lv' := [(5, .int (u + 4)), (0, .ref (a 0)), (1, .int w), (2, .int x), (3, .int y), (4, .int z)]) hx hb dX2_within_111 hl (k := 0) rfl (rfl) (by decide) rfl (fun ls hl => ?_)
        refine J1 hw0 hx0 hy0 hz0 _ ?_ ls (lv_sub hl [0, 1, 2, 3, 4, 5] rfl)
        rw [← hres]; simp [w3F, c_2, c_3]
  have J3 : isWb w = true → isSb x = true → isFb y = true → isFb z = true → ∀ (u : Int32), ((u + w2F v w x y z) + w3F v w x y z) + w4F v w x = aWith v w x y z → ∀ ls : Array Slot, lv_has ls 6 [(5, .int u), (0, .ref (a 0)), (1, .int w), (2, .int x), (3, .int y), (4, .int z)] → W p l e ({ frames := 3, cells := 0, slots := 0, locals := 73 }) s m ([.ref (a 0), .int w, .int x, .int y, .int z] : List Value).toArray below meth c s.heap [] 0 0 (MQ below (QcRead (aWith v w x y z)) ([.ref (a 0), .int w, .int x, .int y, .int z] : List Value).toArray s 0 0 (fun _ => False)) (F0 m 62 ls []) := by
    intro hw0 hx0 hy0 hz0 u hres ls hl
    refine lv_aload_n hx hb dX2_within_62 rfl (lv_at hl 1 rfl) ?_
    refine lv_iload_n hx hb dX2_within_63 rfl (lv_at hl 2 rfl) ?_
    refine lv_iconst (v := 0) hx hb dX2_within_64 (by decide) ?_
    refine lv_iload_n hx hb dX2_within_65 rfl (lv_at hl 3 rfl) ?_
    refine lv_iload_n hx hb dX2_within_66 rfl (lv_at hl 4 rfl) ?_
    refine xc_R (As := [.int w, .int 0, .int x, .int y]) (rest := []) ⟨hx, hb, hml, hown, hts⟩ (c_X2_stands l D a cI cZ v G dn lt ch gn w 0 x y (isW_in hw0) (isF_in (isS_F hx0)) (isF_in hy0) (by decide) okv) (cwV 4 hts gX2_within_X2_stands rfl rfl rfl (by decide +kernel) ⟨Nat.le_of_ble_eq_true rfl, Nat.le_of_ble_eq_true rfl⟩) xMv0 trivial hP hK (va_recv hK hP (ci := 2) (q0 := 0) rfl rfl) rfl hl.1 rfl (Nat.le_of_ble_eq_true rfl) dX2_within_67 ⟨Nat.zero_le _, Nat.zero_le _⟩ ?_
    refine lv_if_ne (tgt := 88) hx hb dX2_within_70 (by decide) (fun c_4 => ?_) (fun c_4 => ?_)
    · have c_4 := b2i_n c_4
      refine J2 hw0 hx0 hy0 hz0 _ ?_ ls (lv_sub hl [0, 1, 2, 3, 4, 5] rfl)
      rw [← hres]; simp [w2F, c_4]
    · have c_4 := b2i_e c_4
      refine lv_aload_n hx hb dX2_within_73 rfl (lv_at hl 1 rfl) ?_
      refine lv_iload_n hx hb dX2_within_74 rfl (lv_at hl 2 rfl) ?_
      refine lv_iconst (v := 2) hx hb dX2_within_75 (by decide) ?_
      refine lv_iload_n hx hb dX2_within_76 rfl (lv_at hl 3 rfl) ?_
      refine lv_iload hx hb dX2_within_77 (lv_at hl 5 rfl) ?_
      refine xc_R (As := [.int w, .int 2, .int x, .int z]) (rest := []) ⟨hx, hb, hml, hown, hts⟩ (c_X2_stands l D a cI cZ v G dn lt ch gn w 2 x z (isW_in hw0) (isF_in (isS_F hx0)) (isF_in hz0) (by decide) okv) (cwV 4 hts gX2_within_X2_stands rfl rfl rfl (by decide +kernel) ⟨Nat.le_of_ble_eq_true rfl, Nat.le_of_ble_eq_true rfl⟩) xMv0 trivial hP hK (va_recv hK hP (ci := 2) (q0 := 0) rfl rfl) rfl hl.1 rfl (Nat.le_of_ble_eq_true rfl) dX2_within_79 ⟨Nat.zero_le _, Nat.zero_le _⟩ ?_
      refine lv_if_ne (tgt := 88) hx hb dX2_within_82 (by decide) (fun c_5 => ?_) (fun c_5 => ?_)
      · have c_5 := b2i_n c_5
        refine J2 hw0 hx0 hy0 hz0 _ ?_ ls (lv_sub hl [0, 1, 2, 3, 4, 5] rfl)
        rw [← hres]; simp [w2F, c_4, c_5]
      · have c_5 := b2i_e c_5
        refine lv_iinc (v := u + 2) (lv' := [(5, .int (u + 2)), (0, .ref (a 0)), (1, .int w), (2, .int x), (3, .int y), (4, .int z)]) hx hb dX2_within_85 hl (k := 0) rfl (rfl) (by decide) rfl (fun ls hl => ?_)
        refine J2 hw0 hx0 hy0 hz0 _ ?_ ls (lv_sub hl [0, 1, 2, 3, 4, 5] rfl)
        rw [← hres]; simp [w2F, c_4, c_5]
  refine lv_iload_n hx hb dX2_within_0 rfl (lv_at hl 1 rfl) ?_
  refine lv_iconst (v := 0) hx hb dX2_within_1 (by decide) ?_
  refine lv_iconst (v := 1) hx hb dX2_within_2 (by decide) ?_
  refine xc_T (As := [.int w, .int 0, .int 1]) (rest := []) ⟨hx, hb, hml, hown, hts⟩ (c_X2_in l w 0 1) (va_cwS 3 hts gX2_within_X2_in rfl rfl rfl (by decide +kernel) ⟨Nat.le_of_ble_eq_true rfl, Nat.le_of_ble_eq_true rfl⟩) rfl hl.1 rfl (Nat.le_of_ble_eq_true rfl) dX2_within_3 ⟨Nat.zero_le _, Nat.zero_le _⟩ ?_
  rw [in01]
  refine lv_if_eq (tgt := 31) hx hb dX2_within_6 (by decide) (fun c_6 => ?_) (fun c_6 => ?_)
  · have c_6 := b2i_e c_6
    refine lv_iconst (v := -1) hx hb dX2_within_31 (by decide) ?_
    exact xr_i hx hb hr hlk dX2_within_32 (by simp [aWith, wB, c_6])
  · have c_6 := b2i_n c_6
    refine lv_iload_n hx hb dX2_within_9 rfl (lv_at hl 2 rfl) ?_
    refine xc_T (As := [.int x]) (rest := []) ⟨hx, hb, hml, hown, hts⟩ (c_X2_isString l x) (va_cwS 1 hts gX2_within_X2_isString rfl rfl rfl (by decide +kernel) ⟨Nat.le_of_ble_eq_true rfl, Nat.le_of_ble_eq_true rfl⟩) rfl hl.1 rfl (Nat.le_of_ble_eq_true rfl) dX2_within_10 ⟨Nat.zero_le _, Nat.zero_le _⟩ ?_
    refine lv_if_eq (tgt := 31) hx hb dX2_within_13 (by decide) (fun c_7 => ?_) (fun c_7 => ?_)
    · have c_7 := b2i_e c_7
      refine lv_iconst (v := -1) hx hb dX2_within_31 (by decide) ?_
      exact xr_i hx hb hr hlk dX2_within_32 (by simp [aWith, wB, c_6, c_7])
    · have c_7 := b2i_n c_7
      refine lv_iload_n hx hb dX2_within_16 rfl (lv_at hl 3 rfl) ?_
      refine xc_T (As := [.int y]) (rest := []) ⟨hx, hb, hml, hown, hts⟩ (c_X2_isStringOrFork l y) (va_cwS 1 hts gX2_within_X2_isStringOrFork rfl rfl rfl (by decide +kernel) ⟨Nat.le_of_ble_eq_true rfl, Nat.le_of_ble_eq_true rfl⟩) rfl hl.1 rfl (Nat.le_of_ble_eq_true rfl) dX2_within_17 ⟨Nat.zero_le _, Nat.zero_le _⟩ ?_
      refine lv_if_eq (tgt := 31) hx hb dX2_within_20 (by decide) (fun c_8 => ?_) (fun c_8 => ?_)
      · have c_8 := b2i_e c_8
        refine lv_iconst (v := -1) hx hb dX2_within_31 (by decide) ?_
        exact xr_i hx hb hr hlk dX2_within_32 (by simp [aWith, wB, c_6, c_7, c_8])
      · have c_8 := b2i_n c_8
        refine lv_iload hx hb dX2_within_23 (lv_at hl 4 rfl) ?_
        refine xc_T (As := [.int z]) (rest := []) ⟨hx, hb, hml, hown, hts⟩ (c_X2_isStringOrFork l z) (va_cwS 1 hts gX2_within_X2_isStringOrFork rfl rfl rfl (by decide +kernel) ⟨Nat.le_of_ble_eq_true rfl, Nat.le_of_ble_eq_true rfl⟩) rfl hl.1 rfl (Nat.le_of_ble_eq_true rfl) dX2_within_25 ⟨Nat.zero_le _, Nat.zero_le _⟩ ?_
        refine lv_if_ne (tgt := 33) hx hb dX2_within_28 (by decide) (fun c_9 => ?_) (fun c_9 => ?_)
        · have c_9 := b2i_n c_9
          refine lv_iconst (v := 0) hx hb dX2_within_33 (by decide) ?_
          refine lv_istore (lv' := [(5, .int 0), (0, .ref (a 0)), (1, .int w), (2, .int x), (3, .int y), (4, .int z)]) hx hb dX2_within_34 hl (by decide) rfl (fun ls hl => ?_)
          refine lv_aload_n hx hb dX2_within_36 rfl (lv_at hl 1 rfl) ?_
          refine lv_iload_n hx hb dX2_within_37 rfl (lv_at hl 2 rfl) ?_
          refine lv_iconst (v := 3) hx hb dX2_within_38 (by decide) ?_
          refine lv_iload_n hx hb dX2_within_39 rfl (lv_at hl 3 rfl) ?_
          refine lv_iload_n hx hb dX2_within_40 rfl (lv_at hl 4 rfl) ?_
          refine xc_R (As := [.int w, .int 3, .int x, .int y]) (rest := []) ⟨hx, hb, hml, hown, hts⟩ (c_X2_stands l D a cI cZ v G dn lt ch gn w 3 x y (isW_in c_6) (isF_in (isS_F c_7)) (isF_in c_8) (by decide) okv) (cwV 4 hts gX2_within_X2_stands rfl rfl rfl (by decide +kernel) ⟨Nat.le_of_ble_eq_true rfl, Nat.le_of_ble_eq_true rfl⟩) xMv0 trivial hP hK (va_recv hK hP (ci := 2) (q0 := 0) rfl rfl) rfl hl.1 rfl (Nat.le_of_ble_eq_true rfl) dX2_within_41 ⟨Nat.zero_le _, Nat.zero_le _⟩ ?_
          refine lv_if_eq (tgt := 62) hx hb dX2_within_44 (by decide) (fun c_10 => ?_) (fun c_10 => ?_)
          · have c_10 := b2i_e c_10
            refine J3 c_6 c_7 c_8 c_9 _ ?_ ls (lv_sub hl [0, 1, 2, 3, 4, 5] rfl)
            simp [aWith, wB, w1F, c_6, c_7, c_8, c_9, c_10]
          · have c_10 := b2i_n c_10
            refine lv_aload_n hx hb dX2_within_47 rfl (lv_at hl 1 rfl) ?_
            refine lv_iload_n hx hb dX2_within_48 rfl (lv_at hl 2 rfl) ?_
            refine lv_iconst (v := 1) hx hb dX2_within_49 (by decide) ?_
            refine lv_iload_n hx hb dX2_within_50 rfl (lv_at hl 3 rfl) ?_
            refine lv_iload hx hb dX2_within_51 (lv_at hl 5 rfl) ?_
            refine xc_R (As := [.int w, .int 1, .int x, .int z]) (rest := []) ⟨hx, hb, hml, hown, hts⟩ (c_X2_stands l D a cI cZ v G dn lt ch gn w 1 x z (isW_in c_6) (isF_in (isS_F c_7)) (isF_in c_9) (by decide) okv) (cwV 4 hts gX2_within_X2_stands rfl rfl rfl (by decide +kernel) ⟨Nat.le_of_ble_eq_true rfl, Nat.le_of_ble_eq_true rfl⟩) xMv0 trivial hP hK (va_recv hK hP (ci := 2) (q0 := 0) rfl rfl) rfl hl.1 rfl (Nat.le_of_ble_eq_true rfl) dX2_within_53 ⟨Nat.zero_le _, Nat.zero_le _⟩ ?_
            refine lv_if_eq (tgt := 62) hx hb dX2_within_56 (by decide) (fun c_11 => ?_) (fun c_11 => ?_)
            · have c_11 := b2i_e c_11
              refine J3 c_6 c_7 c_8 c_9 _ ?_ ls (lv_sub hl [0, 1, 2, 3, 4, 5] rfl)
              simp [aWith, wB, w1F, c_6, c_7, c_8, c_9, c_10, c_11]
            · have c_11 := b2i_n c_11
              refine lv_iinc (v := 0 + 1) (lv' := [(5, .int (0 + 1)), (0, .ref (a 0)), (1, .int w), (2, .int x), (3, .int y), (4, .int z)]) hx hb dX2_within_59 hl (k := 0) rfl (rfl) (by decide) rfl (fun ls hl => ?_)
              refine J3 c_6 c_7 c_8 c_9 _ ?_ ls (lv_sub hl [0, 1, 2, 3, 4, 5] rfl)
              simp [aWith, wB, w1F, c_6, c_7, c_8, c_9, c_10, c_11]
        · have c_9 := b2i_e c_9
          refine lv_iconst (v := -1) hx hb dX2_within_31 (by decide) ?_
          exact xr_i hx hb hr hlk dX2_within_32 (by simp [aWith, wB, c_6, c_7, c_8, c_9])
set_option maxHeartbeats 4000000 in
set_option maxRecDepth 100000 in
theorem c_X2_pass (l : Launch) (D : va_G) (a : Nat → Nat) (cI cZ : ClassId) (v : Nat → Nat → Int32) (G : Nat → Option GT) (dn lt ch gn : Int32) (sz : Nat) (w h x y : Int32) (okv : ∀ i j : Nat, okV (v i j)) : Met l yX2_pass wsX2_pass ({ frames := 3, cells := 0, slots := 0, locals := 73 }) (xW D vwCl (mb a cI cZ v G dn lt ch gn) (mT cI cZ) xB0 sz [.ref (a 0), .int w, .int h, .int x, .int y]) (xQ (S := Unit) D vwCl (fun r _ => r = aPass v w h x y) (fun _ => mb a cI cZ (nPass v w h x y) G dn lt (hPass v ch w h x y) gn) (fun _ => mT cI cZ) (va_A (mb a cI cZ v G dn lt ch gn) sz)) 0 0 (va_A (mb a cI cZ v G dn lt ch gn) sz) := by
  refine xw_in (Qf := xQ (S := Unit) D vwCl (fun r _ => r = aPass v w h x y) (fun _ => mb a cI cZ (nPass v w h x y) G dn lt (hPass v ch w h x y) gn) (fun _ => mT cI cZ)) (cc := cX2_pass) (maxL := 10) (ret := (some .int)) (by decide) rfl (Nat.le_of_ble_eq_true rfl) ?_
  intro p e s m below meth c ls A hx hb hr hml hts hown hlk hnm hA hP hK hD hS hB hl
  have hown : s.vm.findClass RX2 = some m.cls := hown
  have hl : lv_has ls 10 [(0, .ref (a 0)), (1, .int w), (2, .int h), (3, .int x), (4, .int y)] := hl
  have hiF : ∀ w ∈ wsX20, w ∈ wsX2_pass := by decide +kernel
  have loop : vp_in w 2 → isHb h = true → pB w h x y = true → y = nI (cn y) → cn y < 32 → ∀ (n k c1 : Nat) (v1 : Nat → Nat → Int32), (∀ i j : Nat, okV (v1 i j)) → k + n = cn y → psF (cn w) h n k v1 c1 = rPass v w h x y → ∀ (H : Heap) (locs : List Loc), va_P D vwCl (mb a cI cZ v1 G dn lt ch gn) H → va_D A (mb a cI cZ v1 G dn lt ch gn) → va_S A s.heap H locs → ∀ ls : Array Slot, lv_has ls 10 [(6, .int (nI k)), (5, .int (nI c1)), (0, .ref (a 0)), (1, .int w), (2, .int h), (3, .int x), (4, .int y)] → W p l e ({ frames := 3, cells := 0, slots := 0, locals := 73 }) s m ([.ref (a 0), .int w, .int h, .int x, .int y] : List Value).toArray below meth c H locs 0 0 (MQ below (xQ (S := Unit) D vwCl (fun r _ => r = aPass v w h x y) (fun _ => mb a cI cZ (nPass v w h x y) G dn lt (hPass v ch w h x y) gn) (fun _ => mT cI cZ) A) ([.ref (a 0), .int w, .int h, .int x, .int y] : List Value).toArray s 0 0 A) (F0 m 37 ls []) := by
    intro hw hh hp hyn hy0 n
    induction n with
    | zero =>
      intro k c1 v1 ok1 hk hres H locs hP hD hS ls hl
      obtain rfl : k = cn y := by omega
      have hres : (v1, c1) = rPass v w h x y := hres
      refine lv_iload hx hb dX2_pass_37 (lv_at hl 0 rfl) ?_
      refine lv_iload hx hb dX2_pass_39 (lv_at hl 6 rfl) ?_
      refine lv_icmp_ge (tgt := 151) hx hb dX2_pass_41 (by decide) (fun c_1 => ?_) (fun c_1 => absurd (by rw [← hyn]; exact Int32.le_refl _) c_1)
      refine lv_aload_n hx hb dX2_pass_151 rfl (lv_at hl 2 rfl) ?_
      refine lv_dup hx hb dX2_pass_152 rfl ?_
      refine va_get (D := D) (ci := 2) (v := .int ch) (C := RX2) (T := TX2) (N := 14) hx hb hts hiF hown hK hP 0 rfl rfl 4 (by decide) (hts (.fieldLink RX2 82 "TunerBenchModel" "changes" "I") (by decide +kernel)) (fun _ h9 => h9) rfl dX2_pass_153 ?_
      refine lv_iload hx hb dX2_pass_156 (lv_at hl 1 rfl) ?_
      refine lv_iadd hx hb dX2_pass_158 ?_
      refine va_put (D := D) (ci := 2) (v := .int (ch + (nI c1))) (ty := .int) (C := RX2) (T := TX2) (N := 14) hx hb hts hiF tyX2 tyX2_ok nmX2 hown hK hP hD hS 0 rfl rfl 4 (by decide) (hts (.fieldLink RX2 82 "TunerBenchModel" "changes" "I") (by decide +kernel)) (fun _ h9 => h9) rfl (by decide +kernel) rfl rfl (Nat.le_of_ble_eq_true rfl) dX2_pass_159 (fun H locs hP hD hS => ?_)
      have hP : va_P D vwCl (mb a cI cZ v1 G dn lt (ch + (nI c1)) gn) H := hP
      have hD : va_D A (mb a cI cZ v1 G dn lt (ch + (nI c1)) gn) := hD
      refine lv_iload hx hb dX2_pass_162 (lv_at hl 1 rfl) ?_
      have e1 : v1 = nPass v w h x y := by simp only [nPass, hp, if_true]; rw [← hres]
      have e2 : ch + nI c1 = hPass v ch w h x y := by simp only [hPass, hp, if_true]; rw [← hres]
      rw [e1, e2] at hP hD
      exact xw_i (S := Unit) () hx hb hr hlk dX2_pass_164 hP hK hD hS (by simp only [aPass, hp, if_true]; rw [← hres])
    | succ n ih =>
      intro k c1 v1 ok1 hk hres H locs hP hD hS ls hl
      refine lv_iload hx hb dX2_pass_37 (lv_at hl 0 rfl) ?_
      refine lv_iload hx hb dX2_pass_39 (lv_at hl 6 rfl) ?_
      refine lv_icmp_ge (tgt := 151) hx hb dX2_pass_41 (by decide) (fun c_2 => absurd c_2 (by rw [hyn]; exact nI_ge (show k < cn y by omega) (by omega))) (fun c_2 => ?_)
      refine lv_aload_n hx hb dX2_pass_44 rfl (lv_at hl 2 rfl) ?_
      refine lv_iload_n hx hb dX2_pass_45 rfl (lv_at hl 3 rfl) ?_
      refine lv_iload_n hx hb dX2_pass_46 rfl (lv_at hl 4 rfl) ?_
      refine lv_iload hx hb dX2_pass_47 (lv_at hl 0 rfl) ?_
      refine lv_iload hx hb dX2_pass_49 (lv_at hl 0 rfl) ?_
      refine lv_iconst (v := 1) hx hb dX2_pass_51 (by decide) ?_
      refine lv_iadd hx hb dX2_pass_52 ?_
      rw [nI_1 k]
      refine xc_R (As := [.int w, .int h, .int (nI k), .int (nI (k + 1))]) (rest := []) ⟨hx, hb, hml, hown, hts⟩ (c_X2_stands l D a cI cZ v1 G dn lt ch gn w h (nI k) (nI (k + 1)) hw (vp_in_nI (show k < 33 by omega) (by decide)) (vp_in_nI (show k + 1 < 33 by omega) (by decide)) hh ok1) (cwV 4 hts gX2_pass_X2_stands rfl rfl rfl (by decide +kernel) ⟨Nat.le_of_ble_eq_true rfl, Nat.le_of_ble_eq_true rfl⟩) xMv0 trivial hP hK (va_recv hK hP (ci := 2) (q0 := 0) rfl rfl) rfl hl.1 rfl (Nat.le_of_ble_eq_true rfl) dX2_pass_53 ⟨Nat.zero_le _, Nat.zero_le _⟩ ?_
      refine lv_if_eq (tgt := 62) hx hb dX2_pass_56 (by decide) (fun c_3 => ?_) (fun c_3 => ?_)
      · have c_3 := b2i_e c_3
        have c_3 : stnF h (v1 (cn w) k) (v1 (cn w) (k + 1)) = false := by simpa [sdF, nI_cn (show k < 2 ^ 31 by omega), nI_cn (show k + 1 < 2 ^ 31 by omega)] using c_3
        refine lv_iload_n hx hb dX2_pass_62 rfl (lv_at hl 3 rfl) ?_
        refine lv_iload hx hb dX2_pass_63 (lv_at hl 0 rfl) ?_
        refine xc_T (As := [.int w, .int (nI k)]) (rest := []) ⟨hx, hb, hml, hown, hts⟩ (c_X2_at l w (nI k)) (va_cwS 2 hts gX2_pass_X2_at rfl rfl rfl (by decide +kernel) ⟨Nat.le_of_ble_eq_true rfl, Nat.le_of_ble_eq_true rfl⟩) rfl hl.1 rfl (Nat.le_of_ble_eq_true rfl) dX2_pass_65 ⟨Nat.zero_le _, Nat.zero_le _⟩ ?_
        refine lv_istore (lv' := [(7, .int (33 * w + (nI k))), (6, .int (nI k)), (5, .int (nI c1)), (0, .ref (a 0)), (1, .int w), (2, .int h), (3, .int x), (4, .int y)]) hx hb dX2_pass_68 hl (by decide) rfl (fun ls hl => ?_)
        refine lv_aload_n hx hb dX2_pass_70 rfl (lv_at hl 3 rfl) ?_
        refine va_get (D := D) (ci := 2) (v := .ref (a 1)) (C := RX2) (T := TX2) (N := 14) hx hb hts hiF hown hK hP 0 rfl rfl 0 (by decide) (hts (.fieldLink RX2 7 "TunerBenchModel" "sorts" "[I") (by decide +kernel)) (fun _ h9 => h9) rfl dX2_pass_71 ?_
        refine lv_iload hx hb dX2_pass_74 (lv_at hl 0 rfl) ?_
        refine va_iald (D := D) hx hb hK hP 1 0 rfl rfl (at_in hw (vp_in_nI (show k < 33 by omega) (by decide))) dX2_pass_76 ?_
        rw [at_cn hw (vp_in_nI (show k < 33 by omega) (by decide)), mso_at v1 (vp_lt (vp_in_nI (show k < 33 by omega) (by decide)))]
        refine lv_istore (lv' := [(8, .int (srtF (v1 (cn w) (cn (nI k))))), (7, .int (33 * w + (nI k))), (6, .int (nI k)), (5, .int (nI c1)), (0, .ref (a 0)), (1, .int w), (2, .int h), (3, .int x), (4, .int y)]) hx hb dX2_pass_77 hl (by decide) rfl (fun ls hl => ?_)
        refine lv_aload_n hx hb dX2_pass_79 rfl (lv_at hl 4 rfl) ?_
        refine va_get (D := D) (ci := 2) (v := .ref (a 2)) (C := RX2) (T := TX2) (N := 14) hx hb hts hiF hown hK hP 0 rfl rfl 1 (by decide) (hts (.fieldLink RX2 13 "TunerBenchModel" "quarters" "[I") (by decide +kernel)) (fun _ h9 => h9) rfl dX2_pass_80 ?_
        refine lv_iload hx hb dX2_pass_83 (lv_at hl 1 rfl) ?_
        refine va_iald (D := D) hx hb hK hP 2 0 rfl rfl (at_in hw (vp_in_nI (show k < 33 by omega) (by decide))) dX2_pass_85 ?_
        rw [at_cn hw (vp_in_nI (show k < 33 by omega) (by decide)), mqu_at v1 (vp_lt (vp_in_nI (show k < 33 by omega) (by decide)))]
        refine lv_istore (lv' := [(9, .int (qrtF (v1 (cn w) (cn (nI k))))), (8, .int (srtF (v1 (cn w) (cn (nI k))))), (7, .int (33 * w + (nI k))), (6, .int (nI k)), (5, .int (nI c1)), (0, .ref (a 0)), (1, .int w), (2, .int h), (3, .int x), (4, .int y)]) hx hb dX2_pass_86 hl (by decide) rfl (fun ls hl => ?_)
        refine lv_aload_n hx hb dX2_pass_88 rfl (lv_at hl 5 rfl) ?_
        refine va_get (D := D) (ci := 2) (v := .ref (a 1)) (C := RX2) (T := TX2) (N := 14) hx hb hts hiF hown hK hP 0 rfl rfl 0 (by decide) (hts (.fieldLink RX2 7 "TunerBenchModel" "sorts" "[I") (by decide +kernel)) (fun _ h9 => h9) rfl dX2_pass_89 ?_
        refine lv_iload hx hb dX2_pass_92 (lv_at hl 2 rfl) ?_
        refine lv_aload_n hx hb dX2_pass_94 rfl (lv_at hl 5 rfl) ?_
        refine va_get (D := D) (ci := 2) (v := .ref (a 1)) (C := RX2) (T := TX2) (N := 14) hx hb hts hiF hown hK hP 0 rfl rfl 0 (by decide) (hts (.fieldLink RX2 7 "TunerBenchModel" "sorts" "[I") (by decide +kernel)) (fun _ h9 => h9) rfl dX2_pass_95 ?_
        refine lv_iload hx hb dX2_pass_98 (lv_at hl 2 rfl) ?_
        refine lv_iconst (v := 1) hx hb dX2_pass_100 (by decide) ?_
        refine lv_iadd hx hb dX2_pass_101 ?_
        rw [at_s w k]
        refine va_iald (D := D) hx hb hK hP 1 0 rfl rfl (at_in hw (vp_in_nI (show k + 1 < 33 by omega) (by decide))) dX2_pass_102 ?_
        rw [at_cn hw (vp_in_nI (show k + 1 < 33 by omega) (by decide)), mso_at v1 (vp_lt (vp_in_nI (show k + 1 < 33 by omega) (by decide)))]
        refine va_iast (D := D) hx hb hK hP hD hS 1 0 rfl rfl (at_in hw (vp_in_nI (show k < 33 by omega) (by decide))) dX2_pass_103 (fun H locs hP hD hS => ?_)
        have hP : va_P D vwCl (mw a cI cZ (upd (mso v1) (cn (33 * w + (nI k))) (srtF (v1 (cn w) (cn (nI (k + 1)))))) (mqu v1) (mis G) (mwh G) (mho G) (mmo G) (mks G) (mkq G) (mdi G) (mri G) dn lt ch gn) H := hP
        have hD : va_D A (mw a cI cZ (upd (mso v1) (cn (33 * w + (nI k))) (srtF (v1 (cn w) (cn (nI (k + 1)))))) (mqu v1) (mis G) (mwh G) (mho G) (mmo G) (mks G) (mkq G) (mdi G) (mri G) dn lt ch gn) := hD
        refine lv_aload_n hx hb dX2_pass_104 rfl (lv_at hl 5 rfl) ?_
        refine va_get (D := D) (ci := 2) (v := .ref (a 2)) (C := RX2) (T := TX2) (N := 14) hx hb hts hiF hown hK hP 0 rfl rfl 1 (by decide) (hts (.fieldLink RX2 13 "TunerBenchModel" "quarters" "[I") (by decide +kernel)) (fun _ h9 => h9) rfl dX2_pass_105 ?_
        refine lv_iload hx hb dX2_pass_108 (lv_at hl 2 rfl) ?_
        refine lv_aload_n hx hb dX2_pass_110 rfl (lv_at hl 5 rfl) ?_
        refine va_get (D := D) (ci := 2) (v := .ref (a 2)) (C := RX2) (T := TX2) (N := 14) hx hb hts hiF hown hK hP 0 rfl rfl 1 (by decide) (hts (.fieldLink RX2 13 "TunerBenchModel" "quarters" "[I") (by decide +kernel)) (fun _ h9 => h9) rfl dX2_pass_111 ?_
        refine lv_iload hx hb dX2_pass_114 (lv_at hl 2 rfl) ?_
        refine lv_iconst (v := 1) hx hb dX2_pass_116 (by decide) ?_
        refine lv_iadd hx hb dX2_pass_117 ?_
        rw [at_s w k]
        refine va_iald (D := D) hx hb hK hP 2 0 rfl rfl (at_in hw (vp_in_nI (show k + 1 < 33 by omega) (by decide))) dX2_pass_118 ?_
        rw [at_cn hw (vp_in_nI (show k + 1 < 33 by omega) (by decide)), mqu_at v1 (vp_lt (vp_in_nI (show k + 1 < 33 by omega) (by decide)))]
        refine va_iast (D := D) hx hb hK hP hD hS 2 0 rfl rfl (at_in hw (vp_in_nI (show k < 33 by omega) (by decide))) dX2_pass_119 (fun H locs hP hD hS => ?_)
        have hP : va_P D vwCl (mw a cI cZ (upd (mso v1) (cn (33 * w + (nI k))) (srtF (v1 (cn w) (cn (nI (k + 1)))))) (upd (mqu v1) (cn (33 * w + (nI k))) (qrtF (v1 (cn w) (cn (nI (k + 1)))))) (mis G) (mwh G) (mho G) (mmo G) (mks G) (mkq G) (mdi G) (mri G) dn lt ch gn) H := hP
        have hD : va_D A (mw a cI cZ (upd (mso v1) (cn (33 * w + (nI k))) (srtF (v1 (cn w) (cn (nI (k + 1)))))) (upd (mqu v1) (cn (33 * w + (nI k))) (qrtF (v1 (cn w) (cn (nI (k + 1)))))) (mis G) (mwh G) (mho G) (mmo G) (mks G) (mkq G) (mdi G) (mri G) dn lt ch gn) := hD
        refine lv_aload_n hx hb dX2_pass_120 rfl (lv_at hl 5 rfl) ?_
        refine va_get (D := D) (ci := 2) (v := .ref (a 1)) (C := RX2) (T := TX2) (N := 14) hx hb hts hiF hown hK hP 0 rfl rfl 0 (by decide) (hts (.fieldLink RX2 7 "TunerBenchModel" "sorts" "[I") (by decide +kernel)) (fun _ h9 => h9) rfl dX2_pass_121 ?_
        refine lv_iload hx hb dX2_pass_124 (lv_at hl 2 rfl) ?_
        refine lv_iconst (v := 1) hx hb dX2_pass_126 (by decide) ?_
        refine lv_iadd hx hb dX2_pass_127 ?_
        rw [at_s w k]
        refine lv_iload hx hb dX2_pass_128 (lv_at hl 1 rfl) ?_
        refine va_iast (D := D) hx hb hK hP hD hS 1 0 rfl rfl (at_in hw (vp_in_nI (show k + 1 < 33 by omega) (by decide))) dX2_pass_130 (fun H locs hP hD hS => ?_)
        have hP : va_P D vwCl (mw a cI cZ (upd (upd (mso v1) (cn (33 * w + (nI k))) (srtF (v1 (cn w) (cn (nI (k + 1)))))) (cn (33 * w + (nI (k + 1)))) (srtF (v1 (cn w) (cn (nI k))))) (upd (mqu v1) (cn (33 * w + (nI k))) (qrtF (v1 (cn w) (cn (nI (k + 1)))))) (mis G) (mwh G) (mho G) (mmo G) (mks G) (mkq G) (mdi G) (mri G) dn lt ch gn) H := hP
        have hD : va_D A (mw a cI cZ (upd (upd (mso v1) (cn (33 * w + (nI k))) (srtF (v1 (cn w) (cn (nI (k + 1)))))) (cn (33 * w + (nI (k + 1)))) (srtF (v1 (cn w) (cn (nI k))))) (upd (mqu v1) (cn (33 * w + (nI k))) (qrtF (v1 (cn w) (cn (nI (k + 1)))))) (mis G) (mwh G) (mho G) (mmo G) (mks G) (mkq G) (mdi G) (mri G) dn lt ch gn) := hD
        refine lv_aload_n hx hb dX2_pass_131 rfl (lv_at hl 5 rfl) ?_
        refine va_get (D := D) (ci := 2) (v := .ref (a 2)) (C := RX2) (T := TX2) (N := 14) hx hb hts hiF hown hK hP 0 rfl rfl 1 (by decide) (hts (.fieldLink RX2 13 "TunerBenchModel" "quarters" "[I") (by decide +kernel)) (fun _ h9 => h9) rfl dX2_pass_132 ?_
        refine lv_iload hx hb dX2_pass_135 (lv_at hl 2 rfl) ?_
        refine lv_iconst (v := 1) hx hb dX2_pass_137 (by decide) ?_
        refine lv_iadd hx hb dX2_pass_138 ?_
        rw [at_s w k]
        refine lv_iload hx hb dX2_pass_139 (lv_at hl 0 rfl) ?_
        refine va_iast (D := D) hx hb hK hP hD hS 2 0 rfl rfl (at_in hw (vp_in_nI (show k + 1 < 33 by omega) (by decide))) dX2_pass_141 (fun H locs hP hD hS => ?_)
        have hP : va_P D vwCl (mw a cI cZ (upd (upd (mso v1) (cn (33 * w + (nI k))) (srtF (v1 (cn w) (cn (nI (k + 1)))))) (cn (33 * w + (nI (k + 1)))) (srtF (v1 (cn w) (cn (nI k))))) (upd (upd (mqu v1) (cn (33 * w + (nI k))) (qrtF (v1 (cn w) (cn (nI (k + 1)))))) (cn (33 * w + (nI (k + 1)))) (qrtF (v1 (cn w) (cn (nI k))))) (mis G) (mwh G) (mho G) (mmo G) (mks G) (mkq G) (mdi G) (mri G) dn lt ch gn) H := hP
        have hD : va_D A (mw a cI cZ (upd (upd (mso v1) (cn (33 * w + (nI k))) (srtF (v1 (cn w) (cn (nI (k + 1)))))) (cn (33 * w + (nI (k + 1)))) (srtF (v1 (cn w) (cn (nI k))))) (upd (upd (mqu v1) (cn (33 * w + (nI k))) (qrtF (v1 (cn w) (cn (nI (k + 1)))))) (cn (33 * w + (nI (k + 1)))) (qrtF (v1 (cn w) (cn (nI k))))) (mis G) (mwh G) (mho G) (mmo G) (mks G) (mkq G) (mdi G) (mri G) dn lt ch gn) := hD
        refine lv_iinc (v := nI (c1 + 1)) (lv' := [(5, .int (nI (c1 + 1))), (9, .int (qrtF (v1 (cn w) (cn (nI k))))), (8, .int (srtF (v1 (cn w) (cn (nI k))))), (7, .int (33 * w + (nI k))), (6, .int (nI k)), (0, .ref (a 0)), (1, .int w), (2, .int h), (3, .int x), (4, .int y)]) hx hb dX2_pass_142 hl (k := 4) rfl (nI_1 c1) (by decide) rfl (fun ls hl => ?_)
        refine lv_iinc (v := nI (k + 1)) (lv' := [(6, .int (nI (k + 1))), (5, .int (nI (c1 + 1))), (9, .int (qrtF (v1 (cn w) (cn (nI k))))), (8, .int (srtF (v1 (cn w) (cn (nI k))))), (7, .int (33 * w + (nI k))), (0, .ref (a 0)), (1, .int w), (2, .int h), (3, .int x), (4, .int y)]) hx hb dX2_pass_145 hl (k := 4) rfl (nI_1 k) (by decide) rfl (fun ls hl => ?_)
        refine lv_goto (tgt := 37) hx hb dX2_pass_148 (by decide) ?_
        have e_fs : upd (upd (mso v1) (cn (33 * w + (nI k))) (srtF (v1 (cn w) (cn (nI (k + 1)))))) (cn (33 * w + (nI (k + 1)))) (srtF (v1 (cn w) (cn (nI k)))) = mso (swp v1 (cn w) k) := by
          simp only [swp]
          rw [mso_up _ _ (show k + 1 < 33 by omega), mso_up _ _ (show k < 33 by omega)]
          have q1 : cn (33 * w + nI k) = 33 * cn w + cn (nI k) := at_cn hw (vp_in_nI (show k < 33 by omega) (by decide))
          have q2 : cn (33 * w + nI (k + 1)) = 33 * cn w + cn (nI (k + 1)) := at_cn hw (vp_in_nI (show k + 1 < 33 by omega) (by decide))
          simp only [nI_cn (show k < 2 ^ 31 by omega), nI_cn (show k + 1 < 2 ^ 31 by omega)] at q1 q2 ⊢
          rw [q1, q2]
        have e_fq : upd (upd (mqu v1) (cn (33 * w + (nI k))) (qrtF (v1 (cn w) (cn (nI (k + 1)))))) (cn (33 * w + (nI (k + 1)))) (qrtF (v1 (cn w) (cn (nI k)))) = mqu (swp v1 (cn w) k) := by
          simp only [swp]
          rw [mqu_up _ _ (show k + 1 < 33 by omega), mqu_up _ _ (show k < 33 by omega)]
          have q1 : cn (33 * w + nI k) = 33 * cn w + cn (nI k) := at_cn hw (vp_in_nI (show k < 33 by omega) (by decide))
          have q2 : cn (33 * w + nI (k + 1)) = 33 * cn w + cn (nI (k + 1)) := at_cn hw (vp_in_nI (show k + 1 < 33 by omega) (by decide))
          simp only [nI_cn (show k < 2 ^ 31 by omega), nI_cn (show k + 1 < 2 ^ 31 by omega)] at q1 q2 ⊢
          rw [q1, q2]
        rw [e_fs, e_fq] at hP hD
        refine ih (k + 1) (c1 + 1) (swp v1 (cn w) k) (okS ok1 trivial) (by omega) ?_ H locs hP hD hS ls (lv_sub hl [0, 1, 5, 6, 7, 8, 9] rfl)
        rw [← hres]; simp [psF, c_3]
      · have c_3 := b2i_n c_3
        have c_3 : stnF h (v1 (cn w) k) (v1 (cn w) (k + 1)) = true := by simpa [sdF, nI_cn (show k < 2 ^ 31 by omega), nI_cn (show k + 1 < 2 ^ 31 by omega)] using c_3
        refine lv_goto (tgt := 145) hx hb dX2_pass_59 (by decide) ?_
        refine lv_iinc (v := nI (k + 1)) (lv' := [(6, .int (nI (k + 1))), (5, .int (nI c1)), (0, .ref (a 0)), (1, .int w), (2, .int h), (3, .int x), (4, .int y)]) hx hb dX2_pass_145 hl (k := 0) rfl (nI_1 k) (by decide) rfl (fun ls hl => ?_)
        refine lv_goto (tgt := 37) hx hb dX2_pass_148 (by decide) ?_
        refine ih (k + 1) c1 v1 ok1 (by omega) ?_ H locs hP hD hS ls (lv_sub hl [0, 1, 2, 3, 4, 5, 6] rfl)
        rw [← hres]; simp [psF, c_3]
  refine lv_iload_n hx hb dX2_pass_0 rfl (lv_at hl 1 rfl) ?_
  refine lv_iload_n hx hb dX2_pass_1 rfl (lv_at hl 2 rfl) ?_
  refine xc_T (As := [.int w, .int h]) (rest := []) ⟨hx, hb, hml, hown, hts⟩ (c_X2_isAsked l w h) (va_cwS 2 hts gX2_pass_X2_isAsked rfl rfl rfl (by decide +kernel) ⟨Nat.le_of_ble_eq_true rfl, Nat.le_of_ble_eq_true rfl⟩) rfl hl.1 rfl (Nat.le_of_ble_eq_true rfl) dX2_pass_2 ⟨Nat.zero_le _, Nat.zero_le _⟩ ?_
  refine lv_if_eq (tgt := 29) hx hb dX2_pass_5 (by decide) (fun c_4 => ?_) (fun c_4 => ?_)
  · have c_4 := b2i_e c_4
    refine lv_iconst (v := -1) hx hb dX2_pass_29 (by decide) ?_
    have e1 : v = nPass v w h x y := by simp [nPass, pB, c_4]
    have e2 : ch = hPass v ch w h x y := by simp [hPass, pB, c_4]
    rw [show (mb a cI cZ v G dn lt ch gn) = (mb a cI cZ (nPass v w h x y) G dn lt (hPass v ch w h x y) gn) from by rw [← e1, ← e2]] at hP hD
    exact xw_i (S := Unit) () hx hb hr hlk dX2_pass_30 hP hK hD hS (by simp [aPass, pB, c_4])
  · have c_4 := b2i_n c_4
    refine lv_iload_n hx hb dX2_pass_8 rfl (lv_at hl 3 rfl) ?_
    refine xc_T (As := [.int x]) (rest := []) ⟨hx, hb, hml, hown, hts⟩ (c_X2_isString l x) (va_cwS 1 hts gX2_pass_X2_isString rfl rfl rfl (by decide +kernel) ⟨Nat.le_of_ble_eq_true rfl, Nat.le_of_ble_eq_true rfl⟩) rfl hl.1 rfl (Nat.le_of_ble_eq_true rfl) dX2_pass_9 ⟨Nat.zero_le _, Nat.zero_le _⟩ ?_
    refine lv_if_eq (tgt := 29) hx hb dX2_pass_12 (by decide) (fun c_5 => ?_) (fun c_5 => ?_)
    · have c_5 := b2i_e c_5
      refine lv_iconst (v := -1) hx hb dX2_pass_29 (by decide) ?_
      have e1 : v = nPass v w h x y := by simp [nPass, pB, c_4, c_5]
      have e2 : ch = hPass v ch w h x y := by simp [hPass, pB, c_4, c_5]
      rw [show (mb a cI cZ v G dn lt ch gn) = (mb a cI cZ (nPass v w h x y) G dn lt (hPass v ch w h x y) gn) from by rw [← e1, ← e2]] at hP hD
      exact xw_i (S := Unit) () hx hb hr hlk dX2_pass_30 hP hK hD hS (by simp [aPass, pB, c_4, c_5])
    · have c_5 := b2i_n c_5
      refine lv_iload hx hb dX2_pass_15 (lv_at hl 4 rfl) ?_
      refine xc_T (As := [.int y]) (rest := []) ⟨hx, hb, hml, hown, hts⟩ (c_X2_isString l y) (va_cwS 1 hts gX2_pass_X2_isString rfl rfl rfl (by decide +kernel) ⟨Nat.le_of_ble_eq_true rfl, Nat.le_of_ble_eq_true rfl⟩) rfl hl.1 rfl (Nat.le_of_ble_eq_true rfl) dX2_pass_17 ⟨Nat.zero_le _, Nat.zero_le _⟩ ?_
      refine lv_if_eq (tgt := 29) hx hb dX2_pass_20 (by decide) (fun c_6 => ?_) (fun c_6 => ?_)
      · have c_6 := b2i_e c_6
        refine lv_iconst (v := -1) hx hb dX2_pass_29 (by decide) ?_
        have e1 : v = nPass v w h x y := by simp [nPass, pB, c_4, c_5, c_6]
        have e2 : ch = hPass v ch w h x y := by simp [hPass, pB, c_4, c_5, c_6]
        rw [show (mb a cI cZ v G dn lt ch gn) = (mb a cI cZ (nPass v w h x y) G dn lt (hPass v ch w h x y) gn) from by rw [← e1, ← e2]] at hP hD
        exact xw_i (S := Unit) () hx hb hr hlk dX2_pass_30 hP hK hD hS (by simp [aPass, pB, c_4, c_5, c_6])
      · have c_6 := b2i_n c_6
        refine lv_iload_n hx hb dX2_pass_23 rfl (lv_at hl 3 rfl) ?_
        refine lv_iload hx hb dX2_pass_24 (lv_at hl 4 rfl) ?_
        refine lv_icmp_le (tgt := 31) hx hb dX2_pass_26 (by decide) (fun c_7 => ?_) (fun c_7 => ?_)
        · refine lv_iconst (v := 0) hx hb dX2_pass_31 (by decide) ?_
          refine lv_istore (lv' := [(5, .int 0), (0, .ref (a 0)), (1, .int w), (2, .int h), (3, .int x), (4, .int y)]) hx hb dX2_pass_32 hl (by decide) rfl (fun ls hl => ?_)
          refine lv_iload_n hx hb dX2_pass_34 rfl (lv_at hl 4 rfl) ?_
          refine lv_istore (lv' := [(6, .int x), (5, .int 0), (0, .ref (a 0)), (1, .int w), (2, .int h), (3, .int x), (4, .int y)]) hx hb dX2_pass_35 hl (by decide) rfl (fun ls hl => ?_)
          obtain ⟨i0, hi0, ei0⟩ := vp_in_of (isS_in c_5) (by decide)
          obtain ⟨j0, hj0, ej0⟩ := vp_in_of (isS_in c_6) (by decide)
          have hci : cn x = i0 := by rw [ei0]; exact nI_cn (by omega)
          have hcj : cn y = j0 := by rw [ej0]; exact nI_cn (by omega)
          have hij : i0 ≤ j0 := by have q9 := c_7; rw [ei0, ej0] at q9; exact (nI_leI (by omega) (by omega)).mp q9
          refine loop (isQ_w c_4) (isQ_h c_4) (by simp [pB, c_4, c_5, c_6, c_7]) (by rw [hcj]; exact ej0) (by omega) (j0 - i0) i0 0 v okv (by omega) ?_ _ _ hP hD hS ls ?_
          · simp only [rPass, hci, hcj]
          · rw [← ei0]; exact lv_sub hl [0, 1, 2, 3, 4, 5, 6] rfl
        · refine lv_iconst (v := -1) hx hb dX2_pass_29 (by decide) ?_
          have e1 : v = nPass v w h x y := by simp [nPass, pB, c_4, c_5, c_6, c_7]
          have e2 : ch = hPass v ch w h x y := by simp [hPass, pB, c_4, c_5, c_6, c_7]
          rw [show (mb a cI cZ v G dn lt ch gn) = (mb a cI cZ (nPass v w h x y) G dn lt (hPass v ch w h x y) gn) from by rw [← e1, ← e2]] at hP hD
          exact xw_i (S := Unit) () hx hb hr hlk dX2_pass_30 hP hK hD hS (by simp [aPass, pB, c_4, c_5, c_6, c_7])
set_option maxHeartbeats 4000000 in
set_option maxRecDepth 100000 in
theorem c_X2_strike (l : Launch) (D : va_G) (a : Nat → Nat) (cI cZ : ClassId) (v : Nat → Nat → Int32) (G : Nat → Option GT) (dn lt ch gn : Int32) (sz : Nat) (x : Int32) : Met l yX2_strike wsX2_strike ({ frames := 2, cells := 0, slots := 0, locals := 42 }) (xW D vwCl (mb a cI cZ v G dn lt ch gn) (mT cI cZ) xB0 sz [.ref (a 0), .int x]) (xQ (S := Unit) D vwCl (fun r _ => r = b2i (isSb x)) (fun _ => mb a cI cZ (nStri v x) G dn lt ch gn) (fun _ => mT cI cZ) (va_A (mb a cI cZ v G dn lt ch gn) sz)) 0 0 (va_A (mb a cI cZ v G dn lt ch gn) sz) := by
  refine xw_in (Qf := xQ (S := Unit) D vwCl (fun r _ => r = b2i (isSb x)) (fun _ => mb a cI cZ (nStri v x) G dn lt ch gn) (fun _ => mT cI cZ)) (cc := cX2_strike) (maxL := 3) (ret := (some .boolean)) (by decide) rfl (Nat.le_of_ble_eq_true rfl) ?_
  intro p e s m below meth c ls A hx hb hr hml hts hown hlk hnm hA hP hK hD hS hB hl
  have hown : s.vm.findClass RX2 = some m.cls := hown
  have hl : lv_has ls 3 [(0, .ref (a 0)), (1, .int x)] := hl
  have hiF : ∀ w ∈ wsX20, w ∈ wsX2_strike := by decide +kernel
  refine lv_iload_n hx hb dX2_strike_0 rfl (lv_at hl 1 rfl) ?_
  refine xc_T (As := [.int x]) (rest := []) ⟨hx, hb, hml, hown, hts⟩ (c_X2_isString l x) (va_cwS 1 hts gX2_strike_X2_isString rfl rfl rfl (by decide +kernel) ⟨Nat.le_of_ble_eq_true rfl, Nat.le_of_ble_eq_true rfl⟩) rfl hl.1 rfl (Nat.le_of_ble_eq_true rfl) dX2_strike_1 ⟨Nat.zero_le _, Nat.zero_le _⟩ ?_
  refine lv_if_ne (tgt := 9) hx hb dX2_strike_4 (by decide) (fun c_1 => ?_) (fun c_1 => ?_)
  · have c_1 := b2i_n c_1
    refine lv_iconst (v := 0) hx hb dX2_strike_9 (by decide) ?_
    refine lv_istore_n (lv' := [(2, .int 0), (0, .ref (a 0)), (1, .int x)]) hx hb dX2_strike_10 rfl hl (by decide) rfl (fun ls hl => ?_)
    refine lv_iload_n hx hb dX2_strike_11 rfl (lv_at hl 0 rfl) ?_
    refine lv_iconst (v := 2) hx hb dX2_strike_12 (by decide) ?_
    refine lv_icmp_ge (tgt := 64) hx hb dX2_strike_13 (by decide) (fun c_2 => absurd c_2 (by decide)) (fun c_2 => ?_)
    refine lv_aload_n hx hb dX2_strike_16 rfl (lv_at hl 1 rfl) ?_
    refine va_get (D := D) (ci := 2) (v := .ref (a 1)) (C := RX2) (T := TX2) (N := 14) hx hb hts hiF hown hK hP 0 rfl rfl 0 (by decide) (hts (.fieldLink RX2 7 "TunerBenchModel" "sorts" "[I") (by decide +kernel)) (fun _ h9 => h9) rfl dX2_strike_17 ?_
    refine lv_iload_n hx hb dX2_strike_20 rfl (lv_at hl 0 rfl) ?_
    refine lv_bipush (v := 32) hx hb dX2_strike_21 (by decide) ?_
    refine xc_T (As := [.int 0, .int 32]) (rest := [.ref (a 1)]) ⟨hx, hb, hml, hown, hts⟩ (c_X2_at l 0 32) (va_cwS 2 hts gX2_strike_X2_at rfl rfl rfl (by decide +kernel) ⟨Nat.le_of_ble_eq_true rfl, Nat.le_of_ble_eq_true rfl⟩) rfl hl.1 rfl (Nat.le_of_ble_eq_true rfl) dX2_strike_23 ⟨Nat.zero_le _, Nat.zero_le _⟩ ?_
    refine lv_aload_n hx hb dX2_strike_26 rfl (lv_at hl 1 rfl) ?_
    refine va_get (D := D) (ci := 2) (v := .ref (a 1)) (C := RX2) (T := TX2) (N := 14) hx hb hts hiF hown hK hP 0 rfl rfl 0 (by decide) (hts (.fieldLink RX2 7 "TunerBenchModel" "sorts" "[I") (by decide +kernel)) (fun _ h9 => h9) rfl dX2_strike_27 ?_
    refine lv_iload_n hx hb dX2_strike_30 rfl (lv_at hl 0 rfl) ?_
    refine lv_iload_n hx hb dX2_strike_31 rfl (lv_at hl 2 rfl) ?_
    refine xc_T (As := [.int 0, .int x]) (rest := [.ref (a 1), .int (33 * 0 + 32), .ref (a 1)]) ⟨hx, hb, hml, hown, hts⟩ (c_X2_at l 0 x) (va_cwS 2 hts gX2_strike_X2_at rfl rfl rfl (by decide +kernel) ⟨Nat.le_of_ble_eq_true rfl, Nat.le_of_ble_eq_true rfl⟩) rfl hl.1 rfl (Nat.le_of_ble_eq_true rfl) dX2_strike_32 ⟨Nat.zero_le _, Nat.zero_le _⟩ ?_
    refine va_iald (D := D) hx hb hK hP 1 0 rfl rfl (at_in (show vp_in (0) 2 by unfold vp_in; decide) (isF_in (isS_F c_1))) dX2_strike_35 ?_
    rw [at_cn (show vp_in (0) 2 by unfold vp_in; decide) (isF_in (isS_F c_1)), mso_at v (vp_lt (isF_in (isS_F c_1)))]
    refine va_iast (D := D) hx hb hK hP hD hS 1 0 rfl rfl (at_in (show vp_in (0) 2 by unfold vp_in; decide) (show vp_in (32) 33 by unfold vp_in; decide)) dX2_strike_36 (fun H locs hP hD hS => ?_)
    have hP : va_P D vwCl (mw a cI cZ (upd (mso v) (cn (33 * 0 + 32)) (srtF (v (cn 0) (cn x)))) (mqu v) (mis G) (mwh G) (mho G) (mmo G) (mks G) (mkq G) (mdi G) (mri G) dn lt ch gn) H := hP
    have hD : va_D A (mw a cI cZ (upd (mso v) (cn (33 * 0 + 32)) (srtF (v (cn 0) (cn x)))) (mqu v) (mis G) (mwh G) (mho G) (mmo G) (mks G) (mkq G) (mdi G) (mri G) dn lt ch gn) := hD
    refine lv_aload_n hx hb dX2_strike_37 rfl (lv_at hl 1 rfl) ?_
    refine va_get (D := D) (ci := 2) (v := .ref (a 2)) (C := RX2) (T := TX2) (N := 14) hx hb hts hiF hown hK hP 0 rfl rfl 1 (by decide) (hts (.fieldLink RX2 13 "TunerBenchModel" "quarters" "[I") (by decide +kernel)) (fun _ h9 => h9) rfl dX2_strike_38 ?_
    refine lv_iload_n hx hb dX2_strike_41 rfl (lv_at hl 0 rfl) ?_
    refine lv_bipush (v := 32) hx hb dX2_strike_42 (by decide) ?_
    refine xc_T (As := [.int 0, .int 32]) (rest := [.ref (a 2)]) ⟨hx, hb, hml, hown, hts⟩ (c_X2_at l 0 32) (va_cwS 2 hts gX2_strike_X2_at rfl rfl rfl (by decide +kernel) ⟨Nat.le_of_ble_eq_true rfl, Nat.le_of_ble_eq_true rfl⟩) rfl hl.1 rfl (Nat.le_of_ble_eq_true rfl) dX2_strike_44 ⟨Nat.zero_le _, Nat.zero_le _⟩ ?_
    refine lv_aload_n hx hb dX2_strike_47 rfl (lv_at hl 1 rfl) ?_
    refine va_get (D := D) (ci := 2) (v := .ref (a 2)) (C := RX2) (T := TX2) (N := 14) hx hb hts hiF hown hK hP 0 rfl rfl 1 (by decide) (hts (.fieldLink RX2 13 "TunerBenchModel" "quarters" "[I") (by decide +kernel)) (fun _ h9 => h9) rfl dX2_strike_48 ?_
    refine lv_iload_n hx hb dX2_strike_51 rfl (lv_at hl 0 rfl) ?_
    refine lv_iload_n hx hb dX2_strike_52 rfl (lv_at hl 2 rfl) ?_
    refine xc_T (As := [.int 0, .int x]) (rest := [.ref (a 2), .int (33 * 0 + 32), .ref (a 2)]) ⟨hx, hb, hml, hown, hts⟩ (c_X2_at l 0 x) (va_cwS 2 hts gX2_strike_X2_at rfl rfl rfl (by decide +kernel) ⟨Nat.le_of_ble_eq_true rfl, Nat.le_of_ble_eq_true rfl⟩) rfl hl.1 rfl (Nat.le_of_ble_eq_true rfl) dX2_strike_53 ⟨Nat.zero_le _, Nat.zero_le _⟩ ?_
    refine va_iald (D := D) hx hb hK hP 2 0 rfl rfl (at_in (show vp_in (0) 2 by unfold vp_in; decide) (isF_in (isS_F c_1))) dX2_strike_56 ?_
    rw [at_cn (show vp_in (0) 2 by unfold vp_in; decide) (isF_in (isS_F c_1)), mqu_at v (vp_lt (isF_in (isS_F c_1)))]
    refine va_iast (D := D) hx hb hK hP hD hS 2 0 rfl rfl (at_in (show vp_in (0) 2 by unfold vp_in; decide) (show vp_in (32) 33 by unfold vp_in; decide)) dX2_strike_57 (fun H locs hP hD hS => ?_)
    have hP : va_P D vwCl (mw a cI cZ (upd (mso v) (cn (33 * 0 + 32)) (srtF (v (cn 0) (cn x)))) (upd (mqu v) (cn (33 * 0 + 32)) (qrtF (v (cn 0) (cn x)))) (mis G) (mwh G) (mho G) (mmo G) (mks G) (mkq G) (mdi G) (mri G) dn lt ch gn) H := hP
    have hD : va_D A (mw a cI cZ (upd (mso v) (cn (33 * 0 + 32)) (srtF (v (cn 0) (cn x)))) (upd (mqu v) (cn (33 * 0 + 32)) (qrtF (v (cn 0) (cn x)))) (mis G) (mwh G) (mho G) (mmo G) (mks G) (mkq G) (mdi G) (mri G) dn lt ch gn) := hD
    refine lv_iinc (v := 0 + 1) (lv' := [(2, .int (0 + 1)), (0, .ref (a 0)), (1, .int x)]) hx hb dX2_strike_58 hl (k := 0) rfl (rfl) (by decide) rfl (fun ls hl => ?_)
    refine lv_goto (tgt := 11) hx hb dX2_strike_61 (by decide) ?_
    have e_fs : upd (mso v) (cn (33 * 0 + 32)) (srtF (v (cn 0) (cn x))) = mso (up2 v (cn 0) (cn 32) (v (cn 0) (cn x))) := by rw [mso_up v _ (vp_lt (show vp_in (32) 33 by unfold vp_in; decide)), ← at_cn (show vp_in (0) 2 by unfold vp_in; decide) (show vp_in (32) 33 by unfold vp_in; decide)]
    have e_fq : upd (mqu v) (cn (33 * 0 + 32)) (qrtF (v (cn 0) (cn x))) = mqu (up2 v (cn 0) (cn 32) (v (cn 0) (cn x))) := by rw [mqu_up v _ (vp_lt (show vp_in (32) 33 by unfold vp_in; decide)), ← at_cn (show vp_in (0) 2 by unfold vp_in; decide) (show vp_in (32) 33 by unfold vp_in; decide)]
    rw [e_fs, e_fq] at hP hD
    have hP : va_P D vwCl (mb a cI cZ (up2 v (cn 0) (cn 32) (v (cn 0) (cn x))) G dn lt ch gn) H := hP
    have hD : va_D A (mb a cI cZ (up2 v (cn 0) (cn 32) (v (cn 0) (cn x))) G dn lt ch gn) := hD
    refine lv_iload_n hx hb dX2_strike_11 rfl (lv_at hl 0 rfl) ?_
    refine lv_iconst (v := 2) hx hb dX2_strike_12 (by decide) ?_
    refine lv_icmp_ge (tgt := 64) hx hb dX2_strike_13 (by decide) (fun c_3 => absurd c_3 (by decide)) (fun c_3 => ?_)
    refine lv_aload_n hx hb dX2_strike_16 rfl (lv_at hl 1 rfl) ?_
    refine va_get (D := D) (ci := 2) (v := .ref (a 1)) (C := RX2) (T := TX2) (N := 14) hx hb hts hiF hown hK hP 0 rfl rfl 0 (by decide) (hts (.fieldLink RX2 7 "TunerBenchModel" "sorts" "[I") (by decide +kernel)) (fun _ h9 => h9) rfl dX2_strike_17 ?_
    refine lv_iload_n hx hb dX2_strike_20 rfl (lv_at hl 0 rfl) ?_
    refine lv_bipush (v := 32) hx hb dX2_strike_21 (by decide) ?_
    refine xc_T (As := [.int (0 + 1), .int 32]) (rest := [.ref (a 1)]) ⟨hx, hb, hml, hown, hts⟩ (c_X2_at l (0 + 1) 32) (va_cwS 2 hts gX2_strike_X2_at rfl rfl rfl (by decide +kernel) ⟨Nat.le_of_ble_eq_true rfl, Nat.le_of_ble_eq_true rfl⟩) rfl hl.1 rfl (Nat.le_of_ble_eq_true rfl) dX2_strike_23 ⟨Nat.zero_le _, Nat.zero_le _⟩ ?_
    refine lv_aload_n hx hb dX2_strike_26 rfl (lv_at hl 1 rfl) ?_
    refine va_get (D := D) (ci := 2) (v := .ref (a 1)) (C := RX2) (T := TX2) (N := 14) hx hb hts hiF hown hK hP 0 rfl rfl 0 (by decide) (hts (.fieldLink RX2 7 "TunerBenchModel" "sorts" "[I") (by decide +kernel)) (fun _ h9 => h9) rfl dX2_strike_27 ?_
    refine lv_iload_n hx hb dX2_strike_30 rfl (lv_at hl 0 rfl) ?_
    refine lv_iload_n hx hb dX2_strike_31 rfl (lv_at hl 2 rfl) ?_
    refine xc_T (As := [.int (0 + 1), .int x]) (rest := [.ref (a 1), .int (33 * (0 + 1) + 32), .ref (a 1)]) ⟨hx, hb, hml, hown, hts⟩ (c_X2_at l (0 + 1) x) (va_cwS 2 hts gX2_strike_X2_at rfl rfl rfl (by decide +kernel) ⟨Nat.le_of_ble_eq_true rfl, Nat.le_of_ble_eq_true rfl⟩) rfl hl.1 rfl (Nat.le_of_ble_eq_true rfl) dX2_strike_32 ⟨Nat.zero_le _, Nat.zero_le _⟩ ?_
    refine va_iald (D := D) hx hb hK hP 1 0 rfl rfl (at_in (show vp_in (0 + 1) 2 by unfold vp_in; decide) (isF_in (isS_F c_1))) dX2_strike_35 ?_
    rw [at_cn (show vp_in (0 + 1) 2 by unfold vp_in; decide) (isF_in (isS_F c_1)), mso_at (up2 v (cn 0) (cn 32) (v (cn 0) (cn x))) (vp_lt (isF_in (isS_F c_1)))]
    refine va_iast (D := D) hx hb hK hP hD hS 1 0 rfl rfl (at_in (show vp_in (0 + 1) 2 by unfold vp_in; decide) (show vp_in (32) 33 by unfold vp_in; decide)) dX2_strike_36 (fun H locs hP hD hS => ?_)
    have hP : va_P D vwCl (mw a cI cZ (upd (mso (up2 v (cn 0) (cn 32) (v (cn 0) (cn x)))) (cn (33 * (0 + 1) + 32)) (srtF ((up2 v (cn 0) (cn 32) (v (cn 0) (cn x))) (cn (0 + 1)) (cn x)))) (mqu (up2 v (cn 0) (cn 32) (v (cn 0) (cn x)))) (mis G) (mwh G) (mho G) (mmo G) (mks G) (mkq G) (mdi G) (mri G) dn lt ch gn) H := hP
    have hD : va_D A (mw a cI cZ (upd (mso (up2 v (cn 0) (cn 32) (v (cn 0) (cn x)))) (cn (33 * (0 + 1) + 32)) (srtF ((up2 v (cn 0) (cn 32) (v (cn 0) (cn x))) (cn (0 + 1)) (cn x)))) (mqu (up2 v (cn 0) (cn 32) (v (cn 0) (cn x)))) (mis G) (mwh G) (mho G) (mmo G) (mks G) (mkq G) (mdi G) (mri G) dn lt ch gn) := hD
    refine lv_aload_n hx hb dX2_strike_37 rfl (lv_at hl 1 rfl) ?_
    refine va_get (D := D) (ci := 2) (v := .ref (a 2)) (C := RX2) (T := TX2) (N := 14) hx hb hts hiF hown hK hP 0 rfl rfl 1 (by decide) (hts (.fieldLink RX2 13 "TunerBenchModel" "quarters" "[I") (by decide +kernel)) (fun _ h9 => h9) rfl dX2_strike_38 ?_
    refine lv_iload_n hx hb dX2_strike_41 rfl (lv_at hl 0 rfl) ?_
    refine lv_bipush (v := 32) hx hb dX2_strike_42 (by decide) ?_
    refine xc_T (As := [.int (0 + 1), .int 32]) (rest := [.ref (a 2)]) ⟨hx, hb, hml, hown, hts⟩ (c_X2_at l (0 + 1) 32) (va_cwS 2 hts gX2_strike_X2_at rfl rfl rfl (by decide +kernel) ⟨Nat.le_of_ble_eq_true rfl, Nat.le_of_ble_eq_true rfl⟩) rfl hl.1 rfl (Nat.le_of_ble_eq_true rfl) dX2_strike_44 ⟨Nat.zero_le _, Nat.zero_le _⟩ ?_
    refine lv_aload_n hx hb dX2_strike_47 rfl (lv_at hl 1 rfl) ?_
    refine va_get (D := D) (ci := 2) (v := .ref (a 2)) (C := RX2) (T := TX2) (N := 14) hx hb hts hiF hown hK hP 0 rfl rfl 1 (by decide) (hts (.fieldLink RX2 13 "TunerBenchModel" "quarters" "[I") (by decide +kernel)) (fun _ h9 => h9) rfl dX2_strike_48 ?_
    refine lv_iload_n hx hb dX2_strike_51 rfl (lv_at hl 0 rfl) ?_
    refine lv_iload_n hx hb dX2_strike_52 rfl (lv_at hl 2 rfl) ?_
    refine xc_T (As := [.int (0 + 1), .int x]) (rest := [.ref (a 2), .int (33 * (0 + 1) + 32), .ref (a 2)]) ⟨hx, hb, hml, hown, hts⟩ (c_X2_at l (0 + 1) x) (va_cwS 2 hts gX2_strike_X2_at rfl rfl rfl (by decide +kernel) ⟨Nat.le_of_ble_eq_true rfl, Nat.le_of_ble_eq_true rfl⟩) rfl hl.1 rfl (Nat.le_of_ble_eq_true rfl) dX2_strike_53 ⟨Nat.zero_le _, Nat.zero_le _⟩ ?_
    refine va_iald (D := D) hx hb hK hP 2 0 rfl rfl (at_in (show vp_in (0 + 1) 2 by unfold vp_in; decide) (isF_in (isS_F c_1))) dX2_strike_56 ?_
    rw [at_cn (show vp_in (0 + 1) 2 by unfold vp_in; decide) (isF_in (isS_F c_1)), mqu_at (up2 v (cn 0) (cn 32) (v (cn 0) (cn x))) (vp_lt (isF_in (isS_F c_1)))]
    refine va_iast (D := D) hx hb hK hP hD hS 2 0 rfl rfl (at_in (show vp_in (0 + 1) 2 by unfold vp_in; decide) (show vp_in (32) 33 by unfold vp_in; decide)) dX2_strike_57 (fun H locs hP hD hS => ?_)
    have hP : va_P D vwCl (mw a cI cZ (upd (mso (up2 v (cn 0) (cn 32) (v (cn 0) (cn x)))) (cn (33 * (0 + 1) + 32)) (srtF ((up2 v (cn 0) (cn 32) (v (cn 0) (cn x))) (cn (0 + 1)) (cn x)))) (upd (mqu (up2 v (cn 0) (cn 32) (v (cn 0) (cn x)))) (cn (33 * (0 + 1) + 32)) (qrtF ((up2 v (cn 0) (cn 32) (v (cn 0) (cn x))) (cn (0 + 1)) (cn x)))) (mis G) (mwh G) (mho G) (mmo G) (mks G) (mkq G) (mdi G) (mri G) dn lt ch gn) H := hP
    have hD : va_D A (mw a cI cZ (upd (mso (up2 v (cn 0) (cn 32) (v (cn 0) (cn x)))) (cn (33 * (0 + 1) + 32)) (srtF ((up2 v (cn 0) (cn 32) (v (cn 0) (cn x))) (cn (0 + 1)) (cn x)))) (upd (mqu (up2 v (cn 0) (cn 32) (v (cn 0) (cn x)))) (cn (33 * (0 + 1) + 32)) (qrtF ((up2 v (cn 0) (cn 32) (v (cn 0) (cn x))) (cn (0 + 1)) (cn x)))) (mis G) (mwh G) (mho G) (mmo G) (mks G) (mkq G) (mdi G) (mri G) dn lt ch gn) := hD
    refine lv_iinc (v := (0 + 1) + 1) (lv' := [(2, .int ((0 + 1) + 1)), (0, .ref (a 0)), (1, .int x)]) hx hb dX2_strike_58 hl (k := 0) rfl (rfl) (by decide) rfl (fun ls hl => ?_)
    refine lv_goto (tgt := 11) hx hb dX2_strike_61 (by decide) ?_
    have e_fs : upd (mso (up2 v (cn 0) (cn 32) (v (cn 0) (cn x)))) (cn (33 * (0 + 1) + 32)) (srtF ((up2 v (cn 0) (cn 32) (v (cn 0) (cn x))) (cn (0 + 1)) (cn x))) = mso (up2 (up2 v (cn 0) (cn 32) (v (cn 0) (cn x))) (cn (0 + 1)) (cn 32) ((up2 v (cn 0) (cn 32) (v (cn 0) (cn x))) (cn (0 + 1)) (cn x))) := by rw [mso_up (up2 v (cn 0) (cn 32) (v (cn 0) (cn x))) _ (vp_lt (show vp_in (32) 33 by unfold vp_in; decide)), ← at_cn (show vp_in (0 + 1) 2 by unfold vp_in; decide) (show vp_in (32) 33 by unfold vp_in; decide)]
    have e_fq : upd (mqu (up2 v (cn 0) (cn 32) (v (cn 0) (cn x)))) (cn (33 * (0 + 1) + 32)) (qrtF ((up2 v (cn 0) (cn 32) (v (cn 0) (cn x))) (cn (0 + 1)) (cn x))) = mqu (up2 (up2 v (cn 0) (cn 32) (v (cn 0) (cn x))) (cn (0 + 1)) (cn 32) ((up2 v (cn 0) (cn 32) (v (cn 0) (cn x))) (cn (0 + 1)) (cn x))) := by rw [mqu_up (up2 v (cn 0) (cn 32) (v (cn 0) (cn x))) _ (vp_lt (show vp_in (32) 33 by unfold vp_in; decide)), ← at_cn (show vp_in (0 + 1) 2 by unfold vp_in; decide) (show vp_in (32) 33 by unfold vp_in; decide)]
    rw [e_fs, e_fq] at hP hD
    have hP : va_P D vwCl (mb a cI cZ (up2 (up2 v (cn 0) (cn 32) (v (cn 0) (cn x))) (cn (0 + 1)) (cn 32) ((up2 v (cn 0) (cn 32) (v (cn 0) (cn x))) (cn (0 + 1)) (cn x))) G dn lt ch gn) H := hP
    have hD : va_D A (mb a cI cZ (up2 (up2 v (cn 0) (cn 32) (v (cn 0) (cn x))) (cn (0 + 1)) (cn 32) ((up2 v (cn 0) (cn 32) (v (cn 0) (cn x))) (cn (0 + 1)) (cn x))) G dn lt ch gn) := hD
    refine lv_iload_n hx hb dX2_strike_11 rfl (lv_at hl 0 rfl) ?_
    refine lv_iconst (v := 2) hx hb dX2_strike_12 (by decide) ?_
    refine lv_icmp_ge (tgt := 64) hx hb dX2_strike_13 (by decide) (fun c_4 => ?_) (fun c_4 => absurd (by decide) c_4)
    refine lv_iconst (v := 1) hx hb dX2_strike_64 (by decide) ?_
    have e_v : up2 (up2 v (cn 0) (cn 32) (v (cn 0) (cn x))) (cn (0 + 1)) (cn 32) ((up2 v (cn 0) (cn 32) (v (cn 0) (cn x))) (cn (0 + 1)) (cn x)) = nStri v x := by
      simp only [nStri, c_1, if_true, show cn 0 = 0 by decide, show cn 1 = 1 by decide, show cn 32 = 32 by decide, show cn (0 + 1) = 1 by decide]
      rw [up2_oth v _ _ (show (1 : Nat) ≠ 0 by decide)]
    rw [e_v] at hP hD
    exact xw_z (S := Unit) () hx hb hr hlk dX2_strike_65 (by decide) hP hK hD hS (by simp [b2i, c_1])
  · have c_1 := b2i_e c_1
    refine lv_iconst (v := 0) hx hb dX2_strike_7 (by decide) ?_
    have e_v : v = nStri v x := by simp [nStri, c_1]
    rw [e_v] at hP hD
    exact xw_z (S := Unit) () hx hb hr hlk dX2_strike_8 (by decide) hP hK hD hS (by simp [b2i, c_1])
