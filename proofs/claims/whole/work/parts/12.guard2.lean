/-! the class: guards look -/
set_option maxHeartbeats 4000000 in
set_option maxRecDepth 100000 in
theorem c_X1_ringsNow (l : Launch) (D : va_G) (a : Nat → Nat) (cV cI cG : ClassId) (v : Nat → Nat → Int32) (gg : Nat → Option Nat) (dn lt ch : Int32) (L : List Nat) (f : Nat → va_E) (sz : Nat) (b : Nat) (tw th tc tm : Int32) (td : Bool) (tn : Int32) (hbL : b ∈ L) (hfb : f b = gE (tw, th, tc, tm, td, tn)) (htw : vp_in tw 2) : Met l yX1_ringsNow wsX1_ringsNow ({ frames := 2, cells := 0, slots := 0, locals := 44 }) (xW D vwCl (cb a cV cI cG v gg dn lt ch ++ va_pl L f) (cT cV cI cG) nT sz [.ref (a 0), .ref b]) (xQ (S := Unit) D vwCl (fun r _ => r = b2i (lrF v (tw, th, tc, tm, td, tn))) (fun _ => cb a cV cI cG v gg dn lt ch ++ va_pl L (va_up f b (gE (lnx v (tw, th, tc, tm, td, tn))))) (fun _ => cT cV cI cG) (va_A (cb a cV cI cG v gg dn lt ch ++ va_pl L f) sz)) 0 0 (va_A (cb a cV cI cG v gg dn lt ch ++ va_pl L f) sz) := by
  refine xw_in (Qf := xQ (S := Unit) D vwCl (fun r _ => r = b2i (lrF v (tw, th, tc, tm, td, tn))) (fun _ => cb a cV cI cG v gg dn lt ch ++ va_pl L (va_up f b (gE (lnx v (tw, th, tc, tm, td, tn))))) (fun _ => cT cV cI cG)) (cc := cX1_ringsNow) (maxL := 4) (ret := (some .boolean)) (by decide) rfl (Nat.le_of_ble_eq_true rfl) ?_
  intro p e s m below meth c ls A hx hb hr hml hts hown hlk hnm hA hP hK hD hS hB hl
  have hown : s.vm.findClass RX1 = some m.cls := hown
  have hl : lv_has ls 4 [(0, .ref (a 0)), (1, .ref b)] := hl
  have hiF : ∀ w ∈ wsX10, w ∈ wsX1_ringsNow := by decide +kernel
  have hiG : ∀ w ∈ wsX00, w ∈ wsX1_ringsNow := by decide +kernel
  obtain ⟨K_0, hk_0⟩ := va_pl_get (X := cb a cV cI cG v gg dn lt ch) (f := f) hbL
  have hk_1 := hk_0; rw [hfb] at hk_1
  refine lv_aload_n hx hb dX1_ringsNow_0 rfl (lv_at hl 1 rfl) ?_
  refine va_getN (D := D) (ci := 0) (v := .int th) (C := RX0) (T := TX0) (N := 6) (host := "TunerBench") hx hb hts hiG hown hK hP K_0 hk_1 rfl 1 (by decide) (va_Nw.use rfl hB.2.2.1) (fun _ h9 => h9) rfl dX1_ringsNow_1 ?_
  refine lv_aload_n hx hb dX1_ringsNow_4 rfl (lv_at hl 0 rfl) ?_
  refine va_get (D := D) (ci := 1) (v := .ref (a 1)) (C := RX1) (T := TX1) (N := 5) hx hb hts hiF hown hK hP 0 rfl rfl 0 (by decide) (hts (.fieldLink RX1 11 "TunerBench" "values" "[[I") (by decide +kernel)) (fun _ h9 => h9) rfl dX1_ringsNow_5 ?_
  refine lv_aload_n hx hb dX1_ringsNow_8 rfl (lv_at hl 1 rfl) ?_
  refine va_getN (D := D) (ci := 0) (v := .int tw) (C := RX0) (T := TX0) (N := 6) (host := "TunerBench") hx hb hts hiG hown hK hP K_0 hk_1 rfl 0 (by decide) (va_Nw.use rfl hB.2.1) (fun _ h9 => h9) rfl dX1_ringsNow_9 ?_
  refine xa_ald (D := D) hx hb hK hP 1 0 rfl rfl htw dX1_ringsNow_12 ?_
  refine lv_bipush (v := 32) hx hb dX1_ringsNow_13 (by decide) ?_
  refine va_iald (D := D) hx hb hK hP (2 + cn tw) 1 (cp_row (vp_lt htw)) rfl (show vp_in (32) 33 by unfold vp_in; decide) dX1_ringsNow_15 ?_
  refine lv_aload_n hx hb dX1_ringsNow_16 rfl (lv_at hl 1 rfl) ?_
  refine va_getN (D := D) (ci := 0) (v := .int tc) (C := RX0) (T := TX0) (N := 6) (host := "TunerBench") hx hb hts hiG hown hK hP K_0 hk_1 rfl 2 (by decide) (va_Nw.use rfl hB.2.2.2.1) (fun _ h9 => h9) rfl dX1_ringsNow_17 ?_
  refine xc_T (As := [.int th, .int (v (cn tw) (cn 32)), .int tc]) (rest := []) ⟨hx, hb, hml, hown, hts⟩ (c_X1_valueStands l th (v (cn tw) (cn 32)) tc) (va_cwS 3 hts gX1_ringsNow_X1_valueStands rfl rfl rfl (by decide +kernel) ⟨Nat.le_of_ble_eq_true rfl, Nat.le_of_ble_eq_true rfl⟩) rfl hl.1 rfl (Nat.le_of_ble_eq_true rfl) dX1_ringsNow_20 ⟨Nat.zero_le _, Nat.zero_le _⟩ ?_
  refine lv_istore_n (lv' := [(2, .int (b2i (stnF th (v (cn tw) (cn 32)) tc))), (0, .ref (a 0)), (1, .ref b)]) hx hb dX1_ringsNow_23 rfl hl (by decide) rfl (fun ls hl => ?_)
  refine lv_aload_n hx hb dX1_ringsNow_24 rfl (lv_at hl 2 rfl) ?_
  refine va_getN (D := D) (ci := 0) (v := .int tm) (C := RX0) (T := TX0) (N := 6) (host := "TunerBench") hx hb hts hiG hown hK hP K_0 hk_1 rfl 3 (by decide) (va_Nw.use rfl hB.2.2.2.2.1) (fun _ h9 => h9) rfl dX1_ringsNow_25 ?_
  refine lv_iload_n hx hb dX1_ringsNow_28 rfl (lv_at hl 0 rfl) ?_
  refine lv_aload_n hx hb dX1_ringsNow_29 rfl (lv_at hl 2 rfl) ?_
  refine va_getN (D := D) (ci := 0) (v := .int (b2i td)) (C := RX0) (T := TX0) (N := 6) (host := "TunerBench") hx hb hts hiG hown hK hP K_0 hk_1 rfl 4 (by decide) (va_Nw.use rfl hB.2.2.2.2.2.1) (fun _ h9 => h9) rfl dX1_ringsNow_30 ?_
  refine xc_T (As := [.int tm, .int (b2i (stnF th (v (cn tw) (cn 32)) tc)), .int (b2i td)]) (rest := []) ⟨hx, hb, hml, hown, hts⟩ (c_X1_isRung l tm (stnF th (v (cn tw) (cn 32)) tc) td) (va_cwS 3 hts gX1_ringsNow_X1_isRung rfl rfl rfl (by decide +kernel) ⟨Nat.le_of_ble_eq_true rfl, Nat.le_of_ble_eq_true rfl⟩) rfl hl.1 rfl (Nat.le_of_ble_eq_true rfl) dX1_ringsNow_33 ⟨Nat.zero_le _, Nat.zero_le _⟩ ?_
  refine lv_istore_n (lv' := [(3, .int (b2i (rungF tm (stnF th (v (cn tw) (cn 32)) tc) td))), (2, .int (b2i (stnF th (v (cn tw) (cn 32)) tc))), (0, .ref (a 0)), (1, .ref b)]) hx hb dX1_ringsNow_36 rfl hl (by decide) rfl (fun ls hl => ?_)
  refine lv_aload_n hx hb dX1_ringsNow_37 rfl (lv_at hl 3 rfl) ?_
  refine lv_iload_n hx hb dX1_ringsNow_38 rfl (lv_at hl 1 rfl) ?_
  have hD0 := hD
  refine va_putN (D := D) (ci := 0) (v := .int (b2i (stnF th (v (cn tw) (cn 32)) tc))) (ty := .boolean) (C := RX0) (T := TX0) (N := 6) (host := "TunerBench") hx hb hts hiG tyX0 tyX0_ok nmX0 hown hK hP hD hS K_0 hk_1 rfl 4 (by decide) (va_Nw.use rfl hB.2.2.2.2.2.1) (fun _ h9 => h9) rfl (by decide +kernel) (b2i_nar _) (b2i_fit _) (Nat.le_of_ble_eq_true rfl) dX1_ringsNow_39 (fun H locs hP hD hS => ?_)
  rw [va_pl_set hD0 hbL hk_0] at hP hD
  have hP : va_P D vwCl (cb a cV cI cG v gg dn lt ch ++ va_pl L (va_up f b (gE (tw, th, tc, tm, (stnF th (v (cn tw) (cn 32)) tc), tn)))) H := hP
  have hD : va_D A (cb a cV cI cG v gg dn lt ch ++ va_pl L (va_up f b (gE (tw, th, tc, tm, (stnF th (v (cn tw) (cn 32)) tc), tn)))) := hD
  obtain ⟨K_1, K_1_0⟩ := va_pl_get (X := cb a cV cI cG v gg dn lt ch) (f := va_up f b (gE (tw, th, tc, tm, (stnF th (v (cn tw) (cn 32)) tc), tn))) hbL
  have K_1_1 := K_1_0; rw [va_up_self] at K_1_1
  refine lv_iload_n hx hb dX1_ringsNow_42 rfl (lv_at hl 0 rfl) ?_
  refine lv_if_eq (tgt := 56) hx hb dX1_ringsNow_43 (by decide) (fun c_2 => ?_) (fun c_2 => ?_)
  · have c_2 := b2i_e c_2
    refine lv_iload_n hx hb dX1_ringsNow_56 rfl (lv_at hl 0 rfl) ?_
    have e_t : ((tw, th, tc, tm, (stnF th (v (cn tw) (cn 32)) tc), tn) : GT) = lnx v (tw, th, tc, tm, td, tn) := by simp [lnx, lrF, lst, c_2]
    rw [e_t] at hP hD
    exact xw_z (S := Unit) () hx hb hr hlk dX1_ringsNow_57 (b2i_nar _) hP hK hD hS rfl
  · have c_2 := b2i_n c_2
    refine lv_aload_n hx hb dX1_ringsNow_46 rfl (lv_at hl 3 rfl) ?_
    refine lv_dup hx hb dX1_ringsNow_47 rfl ?_
    refine va_getN (D := D) (ci := 0) (v := .int tn) (C := RX0) (T := TX0) (N := 6) (host := "TunerBench") hx hb hts hiG hown hK hP K_1 K_1_1 rfl 5 (by decide) (va_Nw.use rfl hB.2.2.2.2.2.2) (fun _ h9 => h9) rfl dX1_ringsNow_48 ?_
    refine lv_iconst (v := 1) hx hb dX1_ringsNow_51 (by decide) ?_
    refine lv_iadd hx hb dX1_ringsNow_52 ?_
    have hD0 := hD
    refine va_putN (D := D) (ci := 0) (v := .int (tn + 1)) (ty := .int) (C := RX0) (T := TX0) (N := 6) (host := "TunerBench") hx hb hts hiG tyX0 tyX0_ok nmX0 hown hK hP hD hS K_1 K_1_1 rfl 5 (by decide) (va_Nw.use rfl hB.2.2.2.2.2.2) (fun _ h9 => h9) rfl (by decide +kernel) rfl rfl (Nat.le_of_ble_eq_true rfl) dX1_ringsNow_53 (fun H locs hP hD hS => ?_)
    rw [va_pl_set hD0 hbL K_1_0] at hP hD
    rw [bx_uu] at hP hD
    have hP : va_P D vwCl (cb a cV cI cG v gg dn lt ch ++ va_pl L (va_up f b (gE (tw, th, tc, tm, (stnF th (v (cn tw) (cn 32)) tc), tn + 1)))) H := hP
    have hD : va_D A (cb a cV cI cG v gg dn lt ch ++ va_pl L (va_up f b (gE (tw, th, tc, tm, (stnF th (v (cn tw) (cn 32)) tc), tn + 1)))) := hD
    obtain ⟨K_3, K_3_0⟩ := va_pl_get (X := cb a cV cI cG v gg dn lt ch) (f := va_up f b (gE (tw, th, tc, tm, (stnF th (v (cn tw) (cn 32)) tc), tn + 1))) hbL
    have K_3_1 := K_3_0; rw [va_up_self] at K_3_1
    refine lv_iload_n hx hb dX1_ringsNow_56 rfl (lv_at hl 0 rfl) ?_
    have e_t : ((tw, th, tc, tm, (stnF th (v (cn tw) (cn 32)) tc), tn + 1) : GT) = lnx v (tw, th, tc, tm, td, tn) := by simp [lnx, lrF, lst, c_2]
    rw [e_t] at hP hD
    exact xw_z (S := Unit) () hx hb hr hlk dX1_ringsNow_57 (b2i_nar _) hP hK hD hS rfl
theorem lkG_0 (v : Nat → Nat → Int32) (G : Nat → Option GT) : lkG v G 0 = G := by funext g; simp [lkG]
theorem lkG_s (v : Nat → Nat → Int32) (G : Nat → Option GT) (k g : Nat) (h : g ≠ k) : lkG v G (k + 1) g = lkG v G k g := by
  by_cases q : g < k
  · simp [lkG, q, show g < k + 1 by omega]
  · simp [lkG, q, show ¬ g < k + 1 by omega]
theorem lkG_k (v : Nat → Nat → Int32) (G : Nat → Option GT) (k : Nat) : lkG v G (k + 1) k = (G k).map (lnx v) := by simp [lkG]
theorem GR_none {v : Nat → Nat → Int32} {G : Nat → Option GT} {gg : Nat → Option Nat} {L : List Nat} {f : Nat → va_E} {k : Nat} (hG : GR (lkG v G k) gg L f) (h : G k = none) (hk : k < 8) : GR (lkG v G (k + 1)) gg L f := by
  refine ⟨fun g hg => ?_, hG.2⟩
  by_cases e : g = k
  · subst e
    rcases hG.1 g hg with ⟨h1, h2⟩ | ⟨t, x, h1, -⟩
    · exact Or.inl ⟨by rw [lkG_k, h]; rfl, h2⟩
    · have : lkG v G g g = G g := by simp [lkG]
      rw [this, h] at h1
      cases h1
  · rw [lkG_s v G k g e]
    exact hG.1 g hg
theorem GR_step {v : Nat → Nat → Int32} {G : Nat → Option GT} {gg : Nat → Option Nat} {L : List Nat} {f : Nat → va_E} {k x : Nat} {t : GT} (hG : GR (lkG v G k) gg L f) (h : G k = some t) (h2 : gg k = some x) (h3 : x ∈ L) (hk : k < 8) : GR (lkG v G (k + 1)) gg L (va_up f x (gE (lnx v t))) := by
  refine ⟨fun g hg => ?_, hG.2⟩
  by_cases e : g = k
  · subst e
    exact Or.inr ⟨lnx v t, x, by rw [lkG_k, h]; rfl, h2, h3, va_up_self _ _ _⟩
  · rw [lkG_s v G k g e]
    rcases hG.1 g hg with q | ⟨t', x', q1, q2, q3, q4⟩
    · exact Or.inl q
    · refine Or.inr ⟨t', x', q1, q2, q3, ?_⟩
      have : x' ≠ x := fun q => e (hG.2 g k x hg hk (by rw [← q]; exact q2) h2)
      rw [va_up_ne _ _ this]
      exact q4
set_option maxHeartbeats 4000000 in
set_option maxRecDepth 100000 in
theorem c_X1_look (l : Launch) (D : va_G) (a : Nat → Nat) (cV cI cG : ClassId) (v : Nat → Nat → Int32) (gg : Nat → Option Nat) (dn lt ch : Int32) (L : List Nat) (f : Nat → va_E) (sz : Nat) (G : Nat → Option GT) (hGR : GR G gg L f) (hGw : ∀ (g : Nat) (t : GT), g < 8 → G g = some t → vp_in t.1 2) : Met l yX1_look wsX1_look ({ frames := 3, cells := 0, slots := 0, locals := 67 }) (xW D vwCl (cb a cV cI cG v gg dn lt ch ++ va_pl L f) (cT cV cI cG) nT sz [.ref (a 0)]) (xQ (S := (Nat → va_E)) D vwCl (fun r f9 => r = lkS v G 8 ∧ GR (lkG v G 8) gg L f9) (fun f9 => cb a cV cI cG v gg dn lt ch ++ va_pl L f9) (fun _ => cT cV cI cG) (va_A (cb a cV cI cG v gg dn lt ch ++ va_pl L f) sz)) 0 0 (va_A (cb a cV cI cG v gg dn lt ch ++ va_pl L f) sz) := by
  refine xw_in (Qf := xQ (S := (Nat → va_E)) D vwCl (fun r f9 => r = lkS v G 8 ∧ GR (lkG v G 8) gg L f9) (fun f9 => cb a cV cI cG v gg dn lt ch ++ va_pl L f9) (fun _ => cT cV cI cG)) (cc := cX1_look) (maxL := 4) (ret := (some .int)) (by decide) rfl (Nat.le_of_ble_eq_true rfl) ?_
  intro p e s m below meth c ls A hx hb hr hml hts hown hlk hnm hA hP hK hD hS hB hl
  have hown : s.vm.findClass RX1 = some m.cls := hown
  have hl : lv_has ls 4 [(0, .ref (a 0))] := hl
  have hiF : ∀ w ∈ wsX10, w ∈ wsX1_look := by decide +kernel
  have loop : ∀ (n k : Nat) (f1 : Nat → va_E), k + n = 8 → GR (lkG v G k) gg L f1 → ∀ (H : Heap) (locs : List Loc), va_P D vwCl (cb a cV cI cG v gg dn lt ch ++ va_pl L f1) H → va_D A (cb a cV cI cG v gg dn lt ch ++ va_pl L f1) → va_S A s.heap H locs → ∀ ls : Array Slot, lv_has ls 4 [(2, .int (nI k)), (1, .int (lkS v G k)), (0, .ref (a 0))] → W p l e ({ frames := 3, cells := 0, slots := 0, locals := 67 }) s m ([.ref (a 0)] : List Value).toArray below meth c H locs 0 0 (MQ below (xQ (S := Nat → va_E) D vwCl (fun r f9 => r = lkS v G 8 ∧ GR (lkG v G 8) gg L f9) (fun f9 => cb a cV cI cG v gg dn lt ch ++ va_pl L f9) (fun _ => cT cV cI cG) A) ([.ref (a 0)] : List Value).toArray s 0 0 A) (F0 m 4 ls []) := by
    intro n
    induction n with
    | zero =>
      intro k f1 hk hG H locs hP hD hS ls hl
      obtain rfl : k = 8 := by omega
      refine lv_iload_n hx hb dX1_look_4 rfl (lv_at hl 0 rfl) ?_
      refine lv_bipush (v := 8) hx hb dX1_look_5 (by decide) ?_
      refine lv_icmp_ge (tgt := 41) hx hb dX1_look_7 (by decide) (fun c_1 => ?_) (fun c_1 => absurd (by decide) c_1)
      refine lv_iload_n hx hb dX1_look_41 rfl (lv_at hl 1 rfl) ?_
      exact xw_i (S := Nat → va_E) f1 hx hb hr hlk dX1_look_42 hP hK hD hS ⟨rfl, hG⟩
    | succ n ih =>
      intro k f1 hk hG H locs hP hD hS ls hl
      refine lv_iload_n hx hb dX1_look_4 rfl (lv_at hl 0 rfl) ?_
      refine lv_bipush (v := 8) hx hb dX1_look_5 (by decide) ?_
      refine lv_icmp_ge (tgt := 41) hx hb dX1_look_7 (by decide) (fun c_2 => absurd c_2 (nI_ge (show k < 8 by omega) (by decide))) (fun c_2 => ?_)
      refine lv_aload_n hx hb dX1_look_10 rfl (lv_at hl 2 rfl) ?_
      refine va_get (D := D) (ci := 1) (v := .ref (a 4)) (C := RX1) (T := TX1) (N := 5) hx hb hts hiF hown hK hP 0 rfl rfl 1 (by decide) (hts (.fieldLink RX1 16 "TunerBench" "guards" "[LTunerBench$Guard;") (by decide +kernel)) (fun _ h9 => h9) rfl dX1_look_11 ?_
      refine lv_iload_n hx hb dX1_look_14 rfl (lv_at hl 0 rfl) ?_
      refine va_aldq (D := D) hx hb hK hP 4 2 rfl rfl (vp_in_nI (show k < 8 by omega) (by decide)) dX1_look_15 ?_
      rw [nI_clamp (show k < 2 ^ 31 by omega)]
      have hGk : lkG v G k k = G k := by simp [lkG]
      rcases hG.1 k (by omega) with ⟨hn1, hn2⟩ | ⟨t, x, ht1, ht2, ht3, ht4⟩
      · rw [hn2]
        rw [hGk] at hn1
        refine W.eq (g2 := F0 m 16 ls [.null]) rfl ?_
        refine lv_astore_nN (lv' := [(3, .null), (2, .int (nI k)), (1, .int (lkS v G k)), (0, .ref (a 0))]) hx hb dX1_look_16 rfl hl (by decide) rfl (fun ls hl => ?_)
        refine lv_aload_nN hx hb dX1_look_17 rfl (lv_at hl 0 rfl) ?_
        refine lv_ifnullN (tgt := 35) hx hb dX1_look_18 (by decide) ?_
        refine lv_iinc (v := nI (k + 1)) (lv' := [(2, .int (nI (k + 1))), (3, .null), (1, .int (lkS v G k)), (0, .ref (a 0))]) hx hb dX1_look_35 hl (k := 1) rfl (nI_1 k) (by decide) rfl (fun ls hl => ?_)
        refine lv_goto (tgt := 4) hx hb dX1_look_38 (by decide) ?_
        have e_s : lkS v G k = lkS v G (k + 1) := by simp [lkS, lkA, hn1]
        rw [e_s] at hl
        refine ih (k + 1) f1 (by omega) ?_ H locs hP hD hS ls (lv_sub hl [0, 2, 3] rfl)
        exact GR_none hG hn1 (by omega)
      · rw [ht2]
        rw [hGk] at ht1
        refine W.eq (g2 := F0 m 16 ls [.ref x]) rfl ?_
        obtain ⟨tw, th, tc, tm, td, tn⟩ := t
        have htw : vp_in tw 2 := hGw k _ (by omega) ht1
        refine lv_astore_n (lv' := [(3, .ref x), (2, .int (nI k)), (1, .int (lkS v G k)), (0, .ref (a 0))]) hx hb dX1_look_16 rfl hl (by decide) rfl (fun ls hl => ?_)
        refine lv_aload_n hx hb dX1_look_17 rfl (lv_at hl 0 rfl) ?_
        refine lv_ifnull hx hb dX1_look_18 ?_
        refine lv_aload_n hx hb dX1_look_21 rfl (lv_at hl 3 rfl) ?_
        refine lv_aload_n hx hb dX1_look_22 rfl (lv_at hl 0 rfl) ?_
        have hPn := hP; rw [← List.append_nil (cb a cV cI cG v gg dn lt ch ++ va_pl L f1)] at hPn
        have hDn := hD; rw [← List.append_nil (cb a cV cI cG v gg dn lt ch ++ va_pl L f1)] at hDn
        refine xc_W (S0 := Unit) (rw := []) (As := [.ref x]) (rest := []) ⟨hx, hb, hml, hown, hts⟩ (c_X1_ringsNow l D a cV cI cG v gg dn lt ch L f1 H.size x tw th tc tm td tn ht3 ht4 htw) (cwV 1 hts gX1_look_X1_ringsNow rfl rfl rfl (by decide +kernel) ⟨Nat.le_of_ble_eq_true rfl, Nat.le_of_ble_eq_true rfl⟩) xMvN hB hPn hK hDn hS hA (va_recv hK hP (ci := 1) (q0 := 0) rfl rfl) rfl hl.1 rfl (Nat.le_of_ble_eq_true rfl) dX1_look_23 ⟨Nat.zero_le _, Nat.zero_le _⟩ (fun r9 _ H locs hr9 hP hD _ hS => ?_)
        rw [List.append_nil] at hP hD
        rw [hr9]
        have hP : va_P D vwCl (cb a cV cI cG v gg dn lt ch ++ va_pl L (va_up f1 x (gE (lnx v (tw, th, tc, tm, td, tn))))) H := hP
        have hD : va_D A (cb a cV cI cG v gg dn lt ch ++ va_pl L (va_up f1 x (gE (lnx v (tw, th, tc, tm, td, tn))))) := hD
        refine lv_if_eq (tgt := 35) hx hb dX1_look_26 (by decide) (fun c_3 => ?_) (fun c_3 => ?_)
        · have c_3 := b2i_e c_3
          refine lv_iinc (v := nI (k + 1)) (lv' := [(2, .int (nI (k + 1))), (3, .ref x), (1, .int (lkS v G k)), (0, .ref (a 0))]) hx hb dX1_look_35 hl (k := 1) rfl (nI_1 k) (by decide) rfl (fun ls hl => ?_)
          refine lv_goto (tgt := 4) hx hb dX1_look_38 (by decide) ?_
          have e_s : lkS v G k = lkS v G (k + 1) := by simp [lkS, lkA, ht1, c_3]
          rw [e_s] at hl
          refine ih (k + 1) _ (by omega) ?_ H locs hP hD hS ls (lv_sub hl [0, 2, 3] rfl)
          exact GR_step hG ht1 ht2 ht3 (by omega)
        · have c_3 := b2i_n c_3
          refine lv_iload_n hx hb dX1_look_29 rfl (lv_at hl 2 rfl) ?_
          refine lv_iconst (v := 1) hx hb dX1_look_30 (by decide) ?_
          refine lv_iload_n hx hb dX1_look_31 rfl (lv_at hl 1 rfl) ?_
          refine lv_ishl hx hb dX1_look_32 ?_
          refine lv_iadd hx hb dX1_look_33 ?_
          refine lv_istore_n (lv' := [(1, .int ((lkS v G k) + (1 <<< ((nI k) &&& 31)))), (3, .ref x), (2, .int (nI k)), (0, .ref (a 0))]) hx hb dX1_look_34 rfl hl (by decide) rfl (fun ls hl => ?_)
          refine lv_iinc (v := nI (k + 1)) (lv' := [(2, .int (nI (k + 1))), (1, .int ((lkS v G k) + (1 <<< ((nI k) &&& 31)))), (3, .ref x), (0, .ref (a 0))]) hx hb dX1_look_35 hl (k := 2) rfl (nI_1 k) (by decide) rfl (fun ls hl => ?_)
          refine lv_goto (tgt := 4) hx hb dX1_look_38 (by decide) ?_
          have e_s : (lkS v G k) + (1 <<< ((nI k) &&& 31)) = lkS v G (k + 1) := by simp [lkS, lkA, ht1, c_3]
          rw [e_s] at hl
          refine ih (k + 1) _ (by omega) ?_ H locs hP hD hS ls (lv_sub hl [0, 1, 3] rfl)
          exact GR_step hG ht1 ht2 ht3 (by omega)
  refine lv_iconst (v := 0) hx hb dX1_look_0 (by decide) ?_
  refine lv_istore_n (lv' := [(1, .int 0), (0, .ref (a 0))]) hx hb dX1_look_1 rfl hl (by decide) rfl (fun ls hl => ?_)
  refine lv_iconst (v := 0) hx hb dX1_look_2 (by decide) ?_
  refine lv_istore_n (lv' := [(2, .int 0), (1, .int 0), (0, .ref (a 0))]) hx hb dX1_look_3 rfl hl (by decide) rfl (fun ls hl => ?_)
  refine loop 8 0 f (by omega) ?_ _ _ hP hD hS ls (lv_sub hl [0, 1, 2] rfl)
  rw [lkG_0]; exact hGR
