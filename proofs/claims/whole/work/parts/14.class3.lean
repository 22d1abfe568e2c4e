/-! the class: rings, guardsSet, count -/
set_option maxHeartbeats 4000000 in
set_option maxRecDepth 100000 in
theorem c_X1_rings (l : Launch) (D : va_G) (a : Nat → Nat) (cV cI cG : ClassId) (v : Nat → Nat → Int32) (gg : Nat → Option Nat) (dn lt ch : Int32) (L : List Nat) (f : Nat → va_E) (G : Nat → Option GT) (hGR : GR G gg L f) (g : Int32) : Met l yX1_rings wsX1_rings ({ frames := 1, cells := 0, slots := 0, locals := 20 }) (xR D vwCl (cb a cV cI cG v gg dn lt ch ++ va_pl L f) (cT cV cI cG) nT [.ref (a 0), .int g]) (QcRead (aRin G g)) 0 0 (fun _ => False) := by
  refine xr_in (cc := cX1_rings) (maxL := 3) (ret := (some .int)) (by decide) rfl (Nat.le_of_ble_eq_true rfl) ?_
  intro p e s m below meth c ls hx hb hr hml hts hown hlk hP hK hB hl
  have hown : s.vm.findClass RX1 = some m.cls := hown
  have hl : lv_has ls 3 [(0, .ref (a 0)), (1, .int g)] := hl
  have hiF : ∀ w ∈ wsX10, w ∈ wsX1_rings := by decide +kernel
  have hiG : ∀ w ∈ wsX00, w ∈ wsX1_rings := by decide +kernel
  refine lv_iload_n hx hb dX1_rings_0 rfl (lv_at hl 1 rfl) ?_
  refine xc_T (As := [.int g]) (rest := []) ⟨hx, hb, hml, hown, hts⟩ (c_X1_isGuard l g) (va_cwS 1 hts gX1_rings_X1_isGuard rfl rfl rfl (by decide +kernel) ⟨Nat.le_of_ble_eq_true rfl, Nat.le_of_ble_eq_true rfl⟩) rfl hl.1 rfl (Nat.le_of_ble_eq_true rfl) dX1_rings_1 ⟨Nat.zero_le _, Nat.zero_le _⟩ ?_
  refine lv_if_ne (tgt := 9) hx hb dX1_rings_4 (by decide) (fun c_1 => ?_) (fun c_1 => ?_)
  · have c_1 := b2i_n c_1
    refine lv_aload_n hx hb dX1_rings_9 rfl (lv_at hl 0 rfl) ?_
    refine va_get (D := D) (ci := 1) (v := .ref (a 4)) (C := RX1) (T := TX1) (N := 5) hx hb hts hiF hown hK hP 0 rfl rfl 1 (by decide) (hts (.fieldLink RX1 16 "TunerBench" "guards" "[LTunerBench$Guard;") (by decide +kernel)) (fun _ h9 => h9) rfl dX1_rings_10 ?_
    refine lv_iload_n hx hb dX1_rings_13 rfl (lv_at hl 1 rfl) ?_
    refine va_aldq (D := D) hx hb hK hP 4 2 rfl rfl (isG_in c_1) dX1_rings_14 ?_
    rcases hGR.1 (cn g) (vp_lt (isG_in c_1)) with ⟨hn1, hn2⟩ | ⟨t, x, ht1, ht2, ht3, ht4⟩
    · rw [hn2]
      refine W.eq (g2 := F0 m 15 ls [.null]) rfl ?_
      refine lv_astore_nN (lv' := [(2, .null), (0, .ref (a 0)), (1, .int g)]) hx hb dX1_rings_15 rfl hl (by decide) rfl (fun ls hl => ?_)
      refine lv_aload_nN hx hb dX1_rings_16 rfl (lv_at hl 0 rfl) ?_
      refine lv_ifnonnullN hx hb dX1_rings_17 ?_
      refine lv_iconst (v := -1) hx hb dX1_rings_20 (by decide) ?_
      refine lv_goto (tgt := 28) hx hb dX1_rings_21 (by decide) ?_
      exact xr_i hx hb hr hlk dX1_rings_28 (by simp [aRin, c_1, hn1])
    · rw [ht2]
      refine W.eq (g2 := F0 m 15 ls [.ref x]) rfl ?_
      obtain ⟨tw, th, tc, tm, td, tn⟩ := t
      obtain ⟨K_0, hk_0⟩ := va_pl_get (X := cb a cV cI cG v gg dn lt ch) (f := f) ht3
      have hk_1 := hk_0; rw [ht4] at hk_1
      refine lv_astore_n (lv' := [(2, .ref x), (0, .ref (a 0)), (1, .int g)]) hx hb dX1_rings_15 rfl hl (by decide) rfl (fun ls hl => ?_)
      refine lv_aload_n hx hb dX1_rings_16 rfl (lv_at hl 0 rfl) ?_
      refine lv_ifnonnull (tgt := 24) hx hb dX1_rings_17 (by decide) ?_
      refine lv_aload_n hx hb dX1_rings_24 rfl (lv_at hl 0 rfl) ?_
      refine va_getN (D := D) (ci := 0) (v := .int tn) (C := RX0) (T := TX0) (N := 6) (host := "TunerBench") hx hb hts hiG hown hK hP K_0 hk_1 rfl 5 (by decide) (va_Nw.use rfl hB.2.2.2.2.2.2) (fun _ h9 => h9) rfl dX1_rings_25 ?_
      exact xr_i hx hb hr hlk dX1_rings_28 (by simp [aRin, c_1, ht1])
  · have c_1 := b2i_e c_1
    refine lv_iconst (v := -1) hx hb dX1_rings_7 (by decide) ?_
    exact xr_i hx hb hr hlk dX1_rings_8 (by simp [aRin, c_1])
set_option maxHeartbeats 4000000 in
set_option maxRecDepth 100000 in
theorem c_X1_guardsSet (l : Launch) (D : va_G) (a : Nat → Nat) (cV cI cG : ClassId) (v : Nat → Nat → Int32) (gg : Nat → Option Nat) (dn lt ch : Int32) (G : Nat → Option GT) (hgs : ∀ k : Nat, k < 8 → (gg k).isSome = (G k).isSome) : Met l yX1_guardsSet wsX1_guardsSet ({ frames := 0, cells := 0, slots := 0, locals := 0 }) (xR D vwCl (cb a cV cI cG v gg dn lt ch) (cT cV cI cG) xB0 [.ref (a 0)]) (QcRead (nI (cntG G 8))) 0 0 (fun _ => False) := by
  refine xr_in (cc := cX1_guardsSet) (maxL := 3) (ret := (some .int)) (by decide) rfl (Nat.le_of_ble_eq_true rfl) ?_
  intro p e s m below meth c ls hx hb hr hml hts hown hlk hP hK hB hl
  have hown : s.vm.findClass RX1 = some m.cls := hown
  have hl : lv_has ls 3 [(0, .ref (a 0))] := hl
  have hiF : ∀ w ∈ wsX10, w ∈ wsX1_guardsSet := by decide +kernel
  have loop : ∀ (n k : Nat), k + n = 8 → ∀ ls : Array Slot, lv_has ls 3 [(2, .int (nI k)), (1, .int (nI (cntG G k))), (0, .ref (a 0))] → W p l e ({ frames := 0, cells := 0, slots := 0, locals := 0 }) s m ([.ref (a 0)] : List Value).toArray below meth c s.heap [] 0 0 (MQ below (QcRead (nI (cntG G 8))) ([.ref (a 0)] : List Value).toArray s 0 0 (fun _ => False)) (F0 m 4 ls []) := by
    intro n
    induction n with
    | zero =>
      intro k hk ls hl
      obtain rfl : k = 8 := by omega
      refine lv_iload_n hx hb dX1_guardsSet_4 rfl (lv_at hl 0 rfl) ?_
      refine lv_bipush (v := 8) hx hb dX1_guardsSet_5 (by decide) ?_
      refine lv_icmp_ge (tgt := 28) hx hb dX1_guardsSet_7 (by decide) (fun c_1 => ?_) (fun c_1 => absurd (by decide) c_1)
      refine lv_iload_n hx hb dX1_guardsSet_28 rfl (lv_at hl 1 rfl) ?_
      exact xr_i hx hb hr hlk dX1_guardsSet_29 rfl
    | succ n ih =>
      intro k hk ls hl
      refine lv_iload_n hx hb dX1_guardsSet_4 rfl (lv_at hl 0 rfl) ?_
      refine lv_bipush (v := 8) hx hb dX1_guardsSet_5 (by decide) ?_
      refine lv_icmp_ge (tgt := 28) hx hb dX1_guardsSet_7 (by decide) (fun c_2 => absurd c_2 (nI_ge (show k < 8 by omega) (by decide))) (fun c_2 => ?_)
      refine lv_aload_n hx hb dX1_guardsSet_10 rfl (lv_at hl 2 rfl) ?_
      refine va_get (D := D) (ci := 1) (v := .ref (a 4)) (C := RX1) (T := TX1) (N := 5) hx hb hts hiF hown hK hP 0 rfl rfl 1 (by decide) (hts (.fieldLink RX1 16 "TunerBench" "guards" "[LTunerBench$Guard;") (by decide +kernel)) (fun _ h9 => h9) rfl dX1_guardsSet_11 ?_
      refine lv_iload_n hx hb dX1_guardsSet_14 rfl (lv_at hl 0 rfl) ?_
      refine va_aldq (D := D) hx hb hK hP 4 2 rfl rfl (vp_in_nI (show k < 8 by omega) (by decide)) dX1_guardsSet_15 ?_
      rw [nI_clamp (show k < 2 ^ 31 by omega)]
      have hgk := hgs k (by omega)
      rcases hgg : gg k with _ | x
      · rw [hgg] at hgk
        refine W.eq (g2 := F0 m 16 ls [.null]) rfl ?_
        refine lv_ifnullN (tgt := 22) hx hb dX1_guardsSet_16 (by decide) ?_
        refine lv_iinc (v := nI (k + 1)) (lv' := [(2, .int (nI (k + 1))), (1, .int (nI (cntG G k))), (0, .ref (a 0))]) hx hb dX1_guardsSet_22 hl (k := 0) rfl (nI_1 k) (by decide) rfl (fun ls hl => ?_)
        refine lv_goto (tgt := 4) hx hb dX1_guardsSet_25 (by decide) ?_
        have e_s : nI (cntG G k) = nI (cntG G (k + 1)) := by simp [cntG, ← hgk]
        rw [e_s] at hl
        exact ih (k + 1) (by omega) ls (lv_sub hl [0, 1, 2] rfl)
      · rw [hgg] at hgk
        refine W.eq (g2 := F0 m 16 ls [.ref x]) rfl ?_
        refine lv_ifnull hx hb dX1_guardsSet_16 ?_
        refine lv_iinc (v := nI (cntG G k + 1)) (lv' := [(1, .int (nI (cntG G k + 1))), (2, .int (nI k)), (0, .ref (a 0))]) hx hb dX1_guardsSet_19 hl (k := 1) rfl (nI_1 (cntG G k)) (by decide) rfl (fun ls hl => ?_)
        refine lv_iinc (v := nI (k + 1)) (lv' := [(2, .int (nI (k + 1))), (1, .int (nI (cntG G k + 1))), (0, .ref (a 0))]) hx hb dX1_guardsSet_22 hl (k := 1) rfl (nI_1 k) (by decide) rfl (fun ls hl => ?_)
        refine lv_goto (tgt := 4) hx hb dX1_guardsSet_25 (by decide) ?_
        have e_s : nI (cntG G k + 1) = nI (cntG G (k + 1)) := by simp [cntG, ← hgk]
        rw [e_s] at hl
        exact ih (k + 1) (by omega) ls (lv_sub hl [0, 1, 2] rfl)
  refine lv_iconst (v := 0) hx hb dX1_guardsSet_0 (by decide) ?_
  refine lv_istore_n (lv' := [(1, .int 0), (0, .ref (a 0))]) hx hb dX1_guardsSet_1 rfl hl (by decide) rfl (fun ls hl => ?_)
  refine lv_iconst (v := 0) hx hb dX1_guardsSet_2 (by decide) ?_
  refine lv_istore_n (lv' := [(2, .int 0), (1, .int 0), (0, .ref (a 0))]) hx hb dX1_guardsSet_3 rfl hl (by decide) rfl (fun ls hl => ?_)
  exact loop 8 0 (by omega) ls (lv_sub hl [0, 1, 2] rfl)
set_option maxHeartbeats 4000000 in
set_option maxRecDepth 100000 in
theorem c_X1_count (l : Launch) (D : va_G) (a : Nat → Nat) (cV cI cG : ClassId) (v : Nat → Nat → Int32) (gg : Nat → Option Nat) (dn lt ch : Int32) (G : Nat → Option GT) (hgs : ∀ k : Nat, k < 8 → (gg k).isSome = (G k).isSome) (q : Int32) : Met l yX1_count wsX1_count ({ frames := 1, cells := 0, slots := 0, locals := 22 }) (xR D vwCl (cb a cV cI cG v gg dn lt ch) (cT cV cI cG) xB0 [.ref (a 0), .int q]) (QcRead (aCnt dn lt (nI (cntG G 8)) ch q)) 0 0 (fun _ => False) := by
  refine xr_in (cc := cX1_count) (maxL := 2) (ret := (some .int)) (by decide) rfl (Nat.le_of_ble_eq_true rfl) ?_
  intro p e s m below meth c ls hx hb hr hml hts hown hlk hP hK hB hl
  have hown : s.vm.findClass RX1 = some m.cls := hown
  have hl : lv_has ls 2 [(0, .ref (a 0)), (1, .int q)] := hl
  have hiF : ∀ w ∈ wsX10, w ∈ wsX1_count := by decide +kernel
  refine lv_iload_n hx hb dX1_count_0 rfl (lv_at hl 1 rfl) ?_
  by_cases q_1 : q = 0
  · refine lv_tableIn (off := 31) (tgt := 32) hx hb dX1_count_1 (by rw [q_1]; decide) (by rw [q_1]; decide) (by rw [q_1]; rfl) (by decide) ?_
    refine lv_aload_n hx hb dX1_count_32 rfl (lv_at hl 0 rfl) ?_
    refine va_get (D := D) (ci := 1) (v := .int dn) (C := RX1) (T := TX1) (N := 5) hx hb hts hiF hown hK hP 0 rfl rfl 2 (by decide) (hts (.fieldLink RX1 20 "TunerBench" "denials" "I") (by decide +kernel)) (fun _ h9 => h9) rfl dX1_count_33 ?_
    exact xr_i hx hb hr hlk dX1_count_36 (by simp [aCnt, q_1])
  by_cases q_2 : q = 1
  · refine lv_tableIn (off := 36) (tgt := 37) hx hb dX1_count_1 (by rw [q_2]; decide) (by rw [q_2]; decide) (by rw [q_2]; rfl) (by decide) ?_
    refine lv_aload_n hx hb dX1_count_37 rfl (lv_at hl 0 rfl) ?_
    refine va_get (D := D) (ci := 1) (v := .int lt) (C := RX1) (T := TX1) (N := 5) hx hb hts hiF hown hK hP 0 rfl rfl 3 (by decide) (hts (.fieldLink RX1 24 "TunerBench" "latestTruth" "I") (by decide +kernel)) (fun _ h9 => h9) rfl dX1_count_38 ?_
    exact xr_i hx hb hr hlk dX1_count_41 (by simp [aCnt, q_2])
  by_cases q_3 : q = 2
  · refine lv_tableIn (off := 41) (tgt := 42) hx hb dX1_count_1 (by rw [q_3]; decide) (by rw [q_3]; decide) (by rw [q_3]; rfl) (by decide) ?_
    refine lv_aload_n hx hb dX1_count_42 rfl (lv_at hl 0 rfl) ?_
    refine xc_R (As := []) (rest := []) ⟨hx, hb, hml, hown, hts⟩ (c_X1_guardsSet l D a cV cI cG v gg dn lt ch G hgs) (cwV 0 hts gX1_count_X1_guardsSet rfl rfl rfl (by decide +kernel) ⟨Nat.le_of_ble_eq_true rfl, Nat.le_of_ble_eq_true rfl⟩) xMv0 trivial hP hK (va_recv hK hP (ci := 1) (q0 := 0) rfl rfl) rfl hl.1 rfl (Nat.le_of_ble_eq_true rfl) dX1_count_43 ⟨Nat.zero_le _, Nat.zero_le _⟩ ?_
    exact xr_i hx hb hr hlk dX1_count_46 (by simp [aCnt, q_3])
  by_cases q_4 : q = 3
  · refine lv_tableIn (off := 46) (tgt := 47) hx hb dX1_count_1 (by rw [q_4]; decide) (by rw [q_4]; decide) (by rw [q_4]; rfl) (by decide) ?_
    refine lv_aload_n hx hb dX1_count_47 rfl (lv_at hl 0 rfl) ?_
    refine va_get (D := D) (ci := 1) (v := .int ch) (C := RX1) (T := TX1) (N := 5) hx hb hts hiF hown hK hP 0 rfl rfl 4 (by decide) (hts (.fieldLink RX1 27 "TunerBench" "changes" "I") (by decide +kernel)) (fun _ h9 => h9) rfl dX1_count_48 ?_
    exact xr_i hx hb hr hlk dX1_count_51 (by simp [aCnt, q_4])
  refine lv_tableOut (tgt := 52) hx hb dX1_count_1 (by simp only [i32_eq] at q_1 q_2 q_3 q_4; simp at q_1 q_2 q_3 q_4 ⊢; omega) (by decide) ?_
  refine lv_iconst (v := -1) hx hb dX1_count_52 (by decide) ?_
  exact xr_i hx hb hr hlk dX1_count_53 (by simp [aCnt, q_1, q_2, q_3, q_4])
