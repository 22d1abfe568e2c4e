/-! the model: look -/
set_option maxHeartbeats 4000000 in
set_option maxRecDepth 100000 in
theorem c_X2_look (l : Launch) (D : va_G) (a : Nat → Nat) (cI cZ : ClassId) (v : Nat → Nat → Int32) (G : Nat → Option GT) (dn lt ch gn : Int32) (sz : Nat) (hGo : ∀ (g : Nat) (t : GT), g < 8 → G g = some t → vp_in t.1 2 ∧ isHb t.2.1 = true ∧ okV t.2.2.1) (okv : ∀ i j : Nat, okV (v i j)) : Met l yX2_look wsX2_look ({ frames := 2, cells := 0, slots := 0, locals := 47 }) (xW D vwCl (mb a cI cZ v G dn lt ch gn) (mT cI cZ) xB0 sz [.ref (a 0)]) (xQ (S := Unit) D vwCl (fun r _ => r = lkS v G 8) (fun _ => mb a cI cZ v (lkG v G 8) dn lt ch gn) (fun _ => mT cI cZ) (va_A (mb a cI cZ v G dn lt ch gn) sz)) 0 0 (va_A (mb a cI cZ v G dn lt ch gn) sz) := by
  refine xw_in (Qf := xQ (S := Unit) D vwCl (fun r _ => r = lkS v G 8) (fun _ => mb a cI cZ v (lkG v G 8) dn lt ch gn) (fun _ => mT cI cZ)) (cc := cX2_look) (maxL := 6) (ret := (some .int)) (by decide) rfl (Nat.le_of_ble_eq_true rfl) ?_
  intro p e s m below meth c ls A hx hb hr hml hts hown hlk hnm hA hP hK hD hS hB hl
  have hown : s.vm.findClass RX2 = some m.cls := hown
  have hl : lv_has ls 6 [(0, .ref (a 0))] := hl
  have hiF : ∀ w ∈ wsX20, w ∈ wsX2_look := by decide +kernel
  have loop : ∀ (n k : Nat), k + n = 8 → ∀ (H : Heap) (locs : List Loc), va_P D vwCl (mb a cI cZ v (lkG v G k) dn lt ch gn) H → va_D A (mb a cI cZ v (lkG v G k) dn lt ch gn) → va_S A s.heap H locs → ∀ ls : Array Slot, lv_has ls 6 [(2, .int (nI k)), (1, .int (lkS v G k)), (0, .ref (a 0))] → W p l e ({ frames := 2, cells := 0, slots := 0, locals := 47 }) s m ([.ref (a 0)] : List Value).toArray below meth c H locs 0 0 (MQ below ((xQ (S := Unit) D vwCl (fun r _ => r = lkS v G 8) (fun _ => mb a cI cZ v (lkG v G 8) dn lt ch gn) (fun _ => mT cI cZ)) A) ([.ref (a 0)] : List Value).toArray s 0 0 A) (F0 m 4 ls []) := by
    intro n
    induction n with
    | zero =>
      intro k hk H locs hP hD hS ls hl
      obtain rfl : k = 8 := by omega
      refine lv_iload_n hx hb dX2_look_4 rfl (lv_at hl 0 rfl) ?_
      refine lv_bipush (v := 8) hx hb dX2_look_5 (by decide) ?_
      refine lv_icmp_ge (tgt := 162) hx hb dX2_look_7 (by decide) (fun c_1 => ?_) (fun c_1 => absurd (by decide) c_1)
      refine lv_iload_n hx hb dX2_look_162 rfl (lv_at hl 1 rfl) ?_
      exact xw_i (S := Unit) () hx hb hr hlk dX2_look_163 hP hK hD hS rfl
    | succ n ih =>
      intro k hk H locs hP hD hS ls hl
      have hkk : lkG v G k k = G k := by simp [lkG]
      have hck : cn (nI k) = k := nI_clamp (show k < 2 ^ 31 by omega)
      rcases hGk : G k with _ | t
      · refine lv_iload_n hx hb dX2_look_4 rfl (lv_at hl 0 rfl) ?_
        refine lv_bipush (v := 8) hx hb dX2_look_5 (by decide) ?_
        refine lv_icmp_ge (tgt := 162) hx hb dX2_look_7 (by decide) (fun c_2 => absurd c_2 (nI_ge (show k < 8 by omega) (by decide))) (fun c_2 => ?_)
        refine lv_aload_n hx hb dX2_look_10 rfl (lv_at hl 2 rfl) ?_
        refine va_get (D := D) (ci := 2) (v := .ref (a 3)) (C := RX2) (T := TX2) (N := 14) hx hb hts hiF hown hK hP 0 rfl rfl 6 (by decide) (hts (.fieldLink RX2 20 "TunerBenchModel" "isSet" "[Z") (by decide +kernel)) (fun _ h9 => h9) rfl dX2_look_11 ?_
        refine lv_iload_n hx hb dX2_look_14 rfl (lv_at hl 0 rfl) ?_
        refine va_zald (D := D) hx hb hK hP 3 1 rfl rfl (vp_in_nI (show k < 8 by omega) (by decide)) dX2_look_15 ?_
        rw [show mis (lkG v G k) (cn (nI k)) = 0 from by rw [hck]; simp [mis, hkk, hGk]; rfl]
        refine lv_if_ne (tgt := 22) hx hb dX2_look_16 (by decide) (fun c_3 => absurd (by decide) c_3) (fun c_3 => ?_)
        refine lv_goto (tgt := 156) hx hb dX2_look_19 (by decide) ?_
        refine lv_iinc (v := nI (k + 1)) (lv' := [(2, .int (nI (k + 1))), (1, .int (lkS v G k)), (0, .ref (a 0))]) hx hb dX2_look_156 hl (k := 0) rfl (nI_1 k) (by decide) rfl (fun ls hl => ?_)
        refine lv_goto (tgt := 4) hx hb dX2_look_159 (by decide) ?_
        have e_s : lkS v G k = lkS v G (k + 1) := by simp [lkS, lkA, hGk]
        rw [e_s] at hl
        rw [← lkG_no (v := v) hGk] at hP hD
        exact ih (k + 1) (by omega) H locs hP hD hS ls (lv_sub hl [0, 1, 2] rfl)
      · obtain ⟨tw, th, tc, tm, td, tn⟩ := t
        obtain ⟨htw, hth, htc⟩ := hGo k _ (by omega) hGk
        have htw : vp_in tw 2 := htw
        have hth : isHb th = true := hth
        have htc : okV tc := htc
        refine lv_iload_n hx hb dX2_look_4 rfl (lv_at hl 0 rfl) ?_
        refine lv_bipush (v := 8) hx hb dX2_look_5 (by decide) ?_
        refine lv_icmp_ge (tgt := 162) hx hb dX2_look_7 (by decide) (fun c_4 => absurd c_4 (nI_ge (show k < 8 by omega) (by decide))) (fun c_4 => ?_)
        refine lv_aload_n hx hb dX2_look_10 rfl (lv_at hl 2 rfl) ?_
        refine va_get (D := D) (ci := 2) (v := .ref (a 3)) (C := RX2) (T := TX2) (N := 14) hx hb hts hiF hown hK hP 0 rfl rfl 6 (by decide) (hts (.fieldLink RX2 20 "TunerBenchModel" "isSet" "[Z") (by decide +kernel)) (fun _ h9 => h9) rfl dX2_look_11 ?_
        refine lv_iload_n hx hb dX2_look_14 rfl (lv_at hl 0 rfl) ?_
        refine va_zald (D := D) hx hb hK hP 3 1 rfl rfl (vp_in_nI (show k < 8 by omega) (by decide)) dX2_look_15 ?_
        rw [show mis (lkG v G k) (cn (nI k)) = 1 from by rw [hck]; simp [mis, hkk, hGk]; rfl]
        refine lv_if_ne (tgt := 22) hx hb dX2_look_16 (by decide) (fun c_5 => ?_) (fun c_5 => absurd c_5 (by decide))
        refine lv_aload_n hx hb dX2_look_22 rfl (lv_at hl 2 rfl) ?_
        refine va_get (D := D) (ci := 2) (v := .ref (a 4)) (C := RX2) (T := TX2) (N := 14) hx hb hts hiF hown hK hP 0 rfl rfl 7 (by decide) (hts (.fieldLink RX2 24 "TunerBenchModel" "what" "[I") (by decide +kernel)) (fun _ h9 => h9) rfl dX2_look_23 ?_
        refine lv_iload_n hx hb dX2_look_26 rfl (lv_at hl 0 rfl) ?_
        refine va_iald (D := D) hx hb hK hP 4 0 rfl rfl (vp_in_nI (show k < 8 by omega) (by decide)) dX2_look_27 ?_
        rw [show (mwh (lkG v G k)) (cn (nI k)) = tw from by rw [hck]; exact gsel_at (hkk.trans hGk)]
        refine lv_bipush (v := 32) hx hb dX2_look_28 (by decide) ?_
        refine xc_T (As := [.int tw, .int 32]) (rest := []) ⟨hx, hb, hml, hown, hts⟩ (c_X2_at l tw 32) (va_cwS 2 hts gX2_look_X2_at rfl rfl rfl (by decide +kernel) ⟨Nat.le_of_ble_eq_true rfl, Nat.le_of_ble_eq_true rfl⟩) rfl hl.1 rfl (Nat.le_of_ble_eq_true rfl) dX2_look_30 ⟨Nat.zero_le _, Nat.zero_le _⟩ ?_
        refine lv_istore_n (lv' := [(3, .int (33 * tw + 32)), (2, .int (nI k)), (1, .int (lkS v G k)), (0, .ref (a 0))]) hx hb dX2_look_33 rfl hl (by decide) rfl (fun ls hl => ?_)
        refine lv_aload_n hx hb dX2_look_34 rfl (lv_at hl 3 rfl) ?_
        refine va_get (D := D) (ci := 2) (v := .ref (a 5)) (C := RX2) (T := TX2) (N := 14) hx hb hts hiF hown hK hP 0 rfl rfl 8 (by decide) (hts (.fieldLink RX2 27 "TunerBenchModel" "how" "[I") (by decide +kernel)) (fun _ h9 => h9) rfl dX2_look_35 ?_
        refine lv_iload_n hx hb dX2_look_38 rfl (lv_at hl 1 rfl) ?_
        refine va_iald (D := D) hx hb hK hP 5 0 rfl rfl (vp_in_nI (show k < 8 by omega) (by decide)) dX2_look_39 ?_
        rw [show (mho (lkG v G k)) (cn (nI k)) = th from by rw [hck]; exact gsel_at (hkk.trans hGk)]
        refine lv_aload_n hx hb dX2_look_40 rfl (lv_at hl 3 rfl) ?_
        refine va_get (D := D) (ci := 2) (v := .ref (a 1)) (C := RX2) (T := TX2) (N := 14) hx hb hts hiF hown hK hP 0 rfl rfl 0 (by decide) (hts (.fieldLink RX2 7 "TunerBenchModel" "sorts" "[I") (by decide +kernel)) (fun _ h9 => h9) rfl dX2_look_41 ?_
        refine lv_iload_n hx hb dX2_look_44 rfl (lv_at hl 0 rfl) ?_
        refine va_iald (D := D) hx hb hK hP 1 0 rfl rfl (at_in htw (show vp_in (32) 33 by unfold vp_in; decide)) dX2_look_45 ?_
        rw [at_cn htw (show vp_in (32) 33 by unfold vp_in; decide), mso_at v (vp_lt (show vp_in (32) 33 by unfold vp_in; decide))]
        refine lv_aload_n hx hb dX2_look_46 rfl (lv_at hl 3 rfl) ?_
        refine va_get (D := D) (ci := 2) (v := .ref (a 2)) (C := RX2) (T := TX2) (N := 14) hx hb hts hiF hown hK hP 0 rfl rfl 1 (by decide) (hts (.fieldLink RX2 13 "TunerBenchModel" "quarters" "[I") (by decide +kernel)) (fun _ h9 => h9) rfl dX2_look_47 ?_
        refine lv_iload_n hx hb dX2_look_50 rfl (lv_at hl 0 rfl) ?_
        refine va_iald (D := D) hx hb hK hP 2 0 rfl rfl (at_in htw (show vp_in (32) 33 by unfold vp_in; decide)) dX2_look_51 ?_
        rw [at_cn htw (show vp_in (32) 33 by unfold vp_in; decide), mqu_at v (vp_lt (show vp_in (32) 33 by unfold vp_in; decide))]
        refine lv_aload_n hx hb dX2_look_52 rfl (lv_at hl 3 rfl) ?_
        refine va_get (D := D) (ci := 2) (v := .ref (a 7)) (C := RX2) (T := TX2) (N := 14) hx hb hts hiF hown hK hP 0 rfl rfl 10 (by decide) (hts (.fieldLink RX2 33 "TunerBenchModel" "keptSort" "[I") (by decide +kernel)) (fun _ h9 => h9) rfl dX2_look_53 ?_
        refine lv_iload_n hx hb dX2_look_56 rfl (lv_at hl 1 rfl) ?_
        refine va_iald (D := D) hx hb hK hP 7 0 rfl rfl (vp_in_nI (show k < 8 by omega) (by decide)) dX2_look_57 ?_
        rw [show (mks (lkG v G k)) (cn (nI k)) = srtF tc from by rw [hck]; exact gsel_at (hkk.trans hGk)]
        refine lv_aload_n hx hb dX2_look_58 rfl (lv_at hl 3 rfl) ?_
        refine va_get (D := D) (ci := 2) (v := .ref (a 8)) (C := RX2) (T := TX2) (N := 14) hx hb hts hiF hown hK hP 0 rfl rfl 11 (by decide) (hts (.fieldLink RX2 36 "TunerBenchModel" "keptQuarters" "[I") (by decide +kernel)) (fun _ h9 => h9) rfl dX2_look_59 ?_
        refine lv_iload_n hx hb dX2_look_62 rfl (lv_at hl 1 rfl) ?_
        refine va_iald (D := D) hx hb hK hP 8 0 rfl rfl (vp_in_nI (show k < 8 by omega) (by decide)) dX2_look_63 ?_
        rw [show (mkq (lkG v G k)) (cn (nI k)) = qrtF tc from by rw [hck]; exact gsel_at (hkk.trans hGk)]
        refine xc_T (As := [.int th, .int (srtF (v (cn tw) (cn 32))), .int (qrtF (v (cn tw) (cn 32))), .int (srtF tc), .int (qrtF tc)]) (rest := []) ⟨hx, hb, hml, hown, hts⟩ (c_X2_goes l th (srtF (v (cn tw) (cn 32))) (qrtF (v (cn tw) (cn 32))) (srtF tc) (qrtF tc)) (va_cwS 5 hts gX2_look_X2_goes rfl rfl rfl (by decide +kernel) ⟨Nat.le_of_ble_eq_true rfl, Nat.le_of_ble_eq_true rfl⟩) rfl hl.1 rfl (Nat.le_of_ble_eq_true rfl) dX2_look_64 ⟨Nat.zero_le _, Nat.zero_le _⟩ ?_
        rw [go_stn th _ _ hth (okv _ _) htc]
        refine lv_istore (lv' := [(4, .int (b2i (stnF th (v (cn tw) (cn 32)) tc))), (3, .int (33 * tw + 32)), (2, .int (nI k)), (1, .int (lkS v G k)), (0, .ref (a 0))]) hx hb dX2_look_67 hl (by decide) rfl (fun ls hl => ?_)
        refine lv_aload_n hx hb dX2_look_69 rfl (lv_at hl 4 rfl) ?_
        refine va_get (D := D) (ci := 2) (v := .ref (a 6)) (C := RX2) (T := TX2) (N := 14) hx hb hts hiF hown hK hP 0 rfl rfl 9 (by decide) (hts (.fieldLink RX2 30 "TunerBenchModel" "mode" "[I") (by decide +kernel)) (fun _ h9 => h9) rfl dX2_look_70 ?_
        refine lv_iload_n hx hb dX2_look_73 rfl (lv_at hl 2 rfl) ?_
        refine va_iald (D := D) hx hb hK hP 6 0 rfl rfl (vp_in_nI (show k < 8 by omega) (by decide)) dX2_look_74 ?_
        rw [show (mmo (lkG v G k)) (cn (nI k)) = tm from by rw [hck]; exact gsel_at (hkk.trans hGk)]
        refine lv_if_ne (tgt := 83) hx hb dX2_look_75 (by decide) (fun c_6 => ?_) (fun c_6 => ?_)
        · refine lv_aload_n hx hb dX2_look_83 rfl (lv_at hl 4 rfl) ?_
          refine va_get (D := D) (ci := 2) (v := .ref (a 6)) (C := RX2) (T := TX2) (N := 14) hx hb hts hiF hown hK hP 0 rfl rfl 9 (by decide) (hts (.fieldLink RX2 30 "TunerBenchModel" "mode" "[I") (by decide +kernel)) (fun _ h9 => h9) rfl dX2_look_84 ?_
          refine lv_iload_n hx hb dX2_look_87 rfl (lv_at hl 2 rfl) ?_
          refine va_iald (D := D) hx hb hK hP 6 0 rfl rfl (vp_in_nI (show k < 8 by omega) (by decide)) dX2_look_88 ?_
          rw [show (mmo (lkG v G k)) (cn (nI k)) = tm from by rw [hck]; exact gsel_at (hkk.trans hGk)]
          refine lv_iconst (v := 1) hx hb dX2_look_89 (by decide) ?_
          refine lv_icmp_ne (tgt := 106) hx hb dX2_look_90 (by decide) (fun c_7 => ?_) (fun c_7 => ?_)
          · refine lv_iload hx hb dX2_look_106 (lv_at hl 0 rfl) ?_
            refine lv_aload_n hx hb dX2_look_108 rfl (lv_at hl 4 rfl) ?_
            refine va_get (D := D) (ci := 2) (v := .ref (a 9)) (C := RX2) (T := TX2) (N := 14) hx hb hts hiF hown hK hP 0 rfl rfl 12 (by decide) (hts (.fieldLink RX2 39 "TunerBenchModel" "did" "[Z") (by decide +kernel)) (fun _ h9 => h9) rfl dX2_look_109 ?_
            refine lv_iload_n hx hb dX2_look_112 rfl (lv_at hl 2 rfl) ?_
            refine va_zald (D := D) hx hb hK hP 9 1 rfl rfl (vp_in_nI (show k < 8 by omega) (by decide)) dX2_look_113 ?_
            rw [show (mdi (lkG v G k)) (cn (nI k)) = b2i td from by rw [hck]; exact gsel_at (hkk.trans hGk)]
            refine lv_icmp_eq (tgt := 121) hx hb dX2_look_114 (by decide) (fun c_8 => ?_) (fun c_8 => ?_)
            · have c_8 := b2i_eq c_8
              refine lv_iconst (v := 0) hx hb dX2_look_121 (by decide) ?_
              refine lv_istore (lv' := [(5, .int 0), (4, .int (b2i (stnF th (v (cn tw) (cn 32)) tc))), (3, .int (33 * tw + 32)), (2, .int (nI k)), (1, .int (lkS v G k)), (0, .ref (a 0))]) hx hb dX2_look_122 hl (by decide) rfl (fun ls hl => ?_)
              refine lv_aload_n hx hb dX2_look_124 rfl (lv_at hl 5 rfl) ?_
              refine va_get (D := D) (ci := 2) (v := .ref (a 9)) (C := RX2) (T := TX2) (N := 14) hx hb hts hiF hown hK hP 0 rfl rfl 12 (by decide) (hts (.fieldLink RX2 39 "TunerBenchModel" "did" "[Z") (by decide +kernel)) (fun _ h9 => h9) rfl dX2_look_125 ?_
              refine lv_iload_n hx hb dX2_look_128 rfl (lv_at hl 3 rfl) ?_
              refine lv_iload hx hb dX2_look_129 (lv_at hl 1 rfl) ?_
              refine va_zast (D := D) hx hb hK hP hD hS 9 1 rfl rfl (vp_in_nI (show k < 8 by omega) (by decide)) dX2_look_131 (fun H locs hP hD hS => ?_)
              rw [show vp_nar .boolean (b2i (stnF th (v (cn tw) (cn 32)) tc)) = (b2i (stnF th (v (cn tw) (cn 32)) tc)) from b2i_vp _] at hP hD
              have hP : va_P D vwCl (mw a cI cZ (mso v) (mqu v) (mis (lkG v G k)) (mwh (lkG v G k)) (mho (lkG v G k)) (mmo (lkG v G k)) (mks (lkG v G k)) (mkq (lkG v G k)) (upd (mdi (lkG v G k)) (cn (nI k)) (b2i (stnF th (v (cn tw) (cn 32)) tc))) (mri (lkG v G k)) dn lt ch gn) H := hP
              have hD : va_D A (mw a cI cZ (mso v) (mqu v) (mis (lkG v G k)) (mwh (lkG v G k)) (mho (lkG v G k)) (mmo (lkG v G k)) (mks (lkG v G k)) (mkq (lkG v G k)) (upd (mdi (lkG v G k)) (cn (nI k)) (b2i (stnF th (v (cn tw) (cn 32)) tc))) (mri (lkG v G k)) dn lt ch gn) := hD
              refine lv_iload hx hb dX2_look_132 (lv_at hl 0 rfl) ?_
              refine lv_if_ne (tgt := 140) hx hb dX2_look_134 (by decide) (fun c_9 => absurd (by decide) c_9) (fun c_9 => ?_)
              refine lv_goto (tgt := 156) hx hb dX2_look_137 (by decide) ?_
              refine lv_iinc (v := nI (k + 1)) (lv' := [(2, .int (nI (k + 1))), (5, .int 0), (4, .int (b2i (stnF th (v (cn tw) (cn 32)) tc))), (3, .int (33 * tw + 32)), (1, .int (lkS v G k)), (0, .ref (a 0))]) hx hb dX2_look_156 hl (k := 3) rfl (nI_1 k) (by decide) rfl (fun ls hl => ?_)
              refine lv_goto (tgt := 4) hx hb dX2_look_159 (by decide) ?_
              have e_s : lkS v G k = lkS v G (k + 1) := by simp [lkS, lkA, hGk, lrF, lst, rungF, c_6, c_7, c_8]
              rw [e_s] at hl
              have e_l : lnx v (tw, th, tc, tm, td, tn) = (tw, th, tc, tm, stnF th (v (cn tw) (cn 32)) tc, tn) := by simp [lnx, lrF, lst, rungF, c_6, c_7, c_8]
              have hP : va_P D vwCl (mb a cI cZ v (lkG v G (k + 1)) dn lt ch gn) H := by
                have hq := hkk.trans hGk
                rw [lkG_up hGk, e_l, mb, mis_same hq, mwh, mho, mmo, mks, mkq, mdi, mri, gsel_same (t' := (tw, th, tc, tm, stnF th (v (cn tw) (cn 32)) tc, tn)) (f := fun t => t.1) hq rfl, gsel_same (t' := (tw, th, tc, tm, stnF th (v (cn tw) (cn 32)) tc, tn)) (f := fun t => t.2.1) hq rfl, gsel_same (t' := (tw, th, tc, tm, stnF th (v (cn tw) (cn 32)) tc, tn)) (f := fun t => t.2.2.2.1) hq rfl, gsel_same (t' := (tw, th, tc, tm, stnF th (v (cn tw) (cn 32)) tc, tn)) (f := fun t => srtF t.2.2.1) hq rfl, gsel_same (t' := (tw, th, tc, tm, stnF th (v (cn tw) (cn 32)) tc, tn)) (f := fun t => qrtF t.2.2.1) hq rfl, gsel_up _ (fun t => b2i t.2.2.2.2.1), gsel_same (t' := (tw, th, tc, tm, stnF th (v (cn tw) (cn 32)) tc, tn)) (f := fun t => t.2.2.2.2.2) hq rfl]
                rw [hck] at hP
                exact hP
              have hD : va_D A (mb a cI cZ v (lkG v G (k + 1)) dn lt ch gn) := xd_ad hD rfl
              exact ih (k + 1) (by omega) H locs hP hD hS ls (lv_sub hl [0, 4, 5] rfl)
            · have c_8 := b2i_ne c_8
              refine lv_iconst (v := 1) hx hb dX2_look_117 (by decide) ?_
              refine lv_goto (tgt := 122) hx hb dX2_look_118 (by decide) ?_
              refine lv_istore (lv' := [(5, .int 1), (4, .int (b2i (stnF th (v (cn tw) (cn 32)) tc))), (3, .int (33 * tw + 32)), (2, .int (nI k)), (1, .int (lkS v G k)), (0, .ref (a 0))]) hx hb dX2_look_122 hl (by decide) rfl (fun ls hl => ?_)
              refine lv_aload_n hx hb dX2_look_124 rfl (lv_at hl 5 rfl) ?_
              refine va_get (D := D) (ci := 2) (v := .ref (a 9)) (C := RX2) (T := TX2) (N := 14) hx hb hts hiF hown hK hP 0 rfl rfl 12 (by decide) (hts (.fieldLink RX2 39 "TunerBenchModel" "did" "[Z") (by decide +kernel)) (fun _ h9 => h9) rfl dX2_look_125 ?_
              refine lv_iload_n hx hb dX2_look_128 rfl (lv_at hl 3 rfl) ?_
              refine lv_iload hx hb dX2_look_129 (lv_at hl 1 rfl) ?_
              refine va_zast (D := D) hx hb hK hP hD hS 9 1 rfl rfl (vp_in_nI (show k < 8 by omega) (by decide)) dX2_look_131 (fun H locs hP hD hS => ?_)
              rw [show vp_nar .boolean (b2i (stnF th (v (cn tw) (cn 32)) tc)) = (b2i (stnF th (v (cn tw) (cn 32)) tc)) from b2i_vp _] at hP hD
              have hP : va_P D vwCl (mw a cI cZ (mso v) (mqu v) (mis (lkG v G k)) (mwh (lkG v G k)) (mho (lkG v G k)) (mmo (lkG v G k)) (mks (lkG v G k)) (mkq (lkG v G k)) (upd (mdi (lkG v G k)) (cn (nI k)) (b2i (stnF th (v (cn tw) (cn 32)) tc))) (mri (lkG v G k)) dn lt ch gn) H := hP
              have hD : va_D A (mw a cI cZ (mso v) (mqu v) (mis (lkG v G k)) (mwh (lkG v G k)) (mho (lkG v G k)) (mmo (lkG v G k)) (mks (lkG v G k)) (mkq (lkG v G k)) (upd (mdi (lkG v G k)) (cn (nI k)) (b2i (stnF th (v (cn tw) (cn 32)) tc))) (mri (lkG v G k)) dn lt ch gn) := hD
              refine lv_iload hx hb dX2_look_132 (lv_at hl 0 rfl) ?_
              refine lv_if_ne (tgt := 140) hx hb dX2_look_134 (by decide) (fun c_10 => ?_) (fun c_10 => absurd c_10 (by decide))
              refine lv_aload_n hx hb dX2_look_140 rfl (lv_at hl 5 rfl) ?_
              refine va_get (D := D) (ci := 2) (v := .ref (a 10)) (C := RX2) (T := TX2) (N := 14) hx hb hts hiF hown hK hP 0 rfl rfl 13 (by decide) (hts (.fieldLink RX2 42 "TunerBenchModel" "rings" "[I") (by decide +kernel)) (fun _ h9 => h9) rfl dX2_look_141 ?_
              refine lv_iload_n hx hb dX2_look_144 rfl (lv_at hl 3 rfl) ?_
              refine lv_dup2_11 hx hb dX2_look_145 rfl rfl ?_
              refine va_iald (D := D) hx hb hK hP 10 0 rfl rfl (vp_in_nI (show k < 8 by omega) (by decide)) dX2_look_146 ?_
              rw [show (mri (lkG v G k)) (cn (nI k)) = tn from by rw [hck]; exact gsel_at (hkk.trans hGk)]
              refine lv_iconst (v := 1) hx hb dX2_look_147 (by decide) ?_
              refine lv_iadd hx hb dX2_look_148 ?_
              refine va_iast (D := D) hx hb hK hP hD hS 10 0 rfl rfl (vp_in_nI (show k < 8 by omega) (by decide)) dX2_look_149 (fun H locs hP hD hS => ?_)
              have hP : va_P D vwCl (mw a cI cZ (mso v) (mqu v) (mis (lkG v G k)) (mwh (lkG v G k)) (mho (lkG v G k)) (mmo (lkG v G k)) (mks (lkG v G k)) (mkq (lkG v G k)) (upd (mdi (lkG v G k)) (cn (nI k)) (b2i (stnF th (v (cn tw) (cn 32)) tc))) (upd (mri (lkG v G k)) (cn (nI k)) (tn + 1)) dn lt ch gn) H := hP
              have hD : va_D A (mw a cI cZ (mso v) (mqu v) (mis (lkG v G k)) (mwh (lkG v G k)) (mho (lkG v G k)) (mmo (lkG v G k)) (mks (lkG v G k)) (mkq (lkG v G k)) (upd (mdi (lkG v G k)) (cn (nI k)) (b2i (stnF th (v (cn tw) (cn 32)) tc))) (upd (mri (lkG v G k)) (cn (nI k)) (tn + 1)) dn lt ch gn) := hD
              refine lv_iload_n hx hb dX2_look_150 rfl (lv_at hl 4 rfl) ?_
              refine lv_iconst (v := 1) hx hb dX2_look_151 (by decide) ?_
              refine lv_iload_n hx hb dX2_look_152 rfl (lv_at hl 3 rfl) ?_
              refine lv_ishl hx hb dX2_look_153 ?_
              refine lv_iadd hx hb dX2_look_154 ?_
              refine lv_istore_n (lv' := [(1, .int ((lkS v G k) + (1 <<< ((nI k) &&& 31)))), (5, .int 1), (4, .int (b2i (stnF th (v (cn tw) (cn 32)) tc))), (3, .int (33 * tw + 32)), (2, .int (nI k)), (0, .ref (a 0))]) hx hb dX2_look_155 rfl hl (by decide) rfl (fun ls hl => ?_)
              refine lv_iinc (v := nI (k + 1)) (lv' := [(2, .int (nI (k + 1))), (1, .int ((lkS v G k) + (1 <<< ((nI k) &&& 31)))), (5, .int 1), (4, .int (b2i (stnF th (v (cn tw) (cn 32)) tc))), (3, .int (33 * tw + 32)), (0, .ref (a 0))]) hx hb dX2_look_156 hl (k := 4) rfl (nI_1 k) (by decide) rfl (fun ls hl => ?_)
              refine lv_goto (tgt := 4) hx hb dX2_look_159 (by decide) ?_
              have e_s : (lkS v G k) + (1 <<< ((nI k) &&& 31)) = lkS v G (k + 1) := by simp [lkS, lkA, hGk, lrF, lst, rungF, c_6, c_7, c_8]
              rw [e_s] at hl
              have e_l : lnx v (tw, th, tc, tm, td, tn) = (tw, th, tc, tm, stnF th (v (cn tw) (cn 32)) tc, tn + 1) := by simp [lnx, lrF, lst, rungF, c_6, c_7, c_8]
              have hP : va_P D vwCl (mb a cI cZ v (lkG v G (k + 1)) dn lt ch gn) H := by
                have hq := hkk.trans hGk
                rw [lkG_up hGk, e_l, mb, mis_same hq, mwh, mho, mmo, mks, mkq, mdi, mri, gsel_same (t' := (tw, th, tc, tm, stnF th (v (cn tw) (cn 32)) tc, tn + 1)) (f := fun t => t.1) hq rfl, gsel_same (t' := (tw, th, tc, tm, stnF th (v (cn tw) (cn 32)) tc, tn + 1)) (f := fun t => t.2.1) hq rfl, gsel_same (t' := (tw, th, tc, tm, stnF th (v (cn tw) (cn 32)) tc, tn + 1)) (f := fun t => t.2.2.2.1) hq rfl, gsel_same (t' := (tw, th, tc, tm, stnF th (v (cn tw) (cn 32)) tc, tn + 1)) (f := fun t => srtF t.2.2.1) hq rfl, gsel_same (t' := (tw, th, tc, tm, stnF th (v (cn tw) (cn 32)) tc, tn + 1)) (f := fun t => qrtF t.2.2.1) hq rfl, gsel_up _ (fun t => b2i t.2.2.2.2.1), gsel_up _ (fun t => t.2.2.2.2.2)]
                rw [hck] at hP
                exact hP
              have hD : va_D A (mb a cI cZ v (lkG v G (k + 1)) dn lt ch gn) := xd_ad hD rfl
              exact ih (k + 1) (by omega) H locs hP hD hS ls (lv_sub hl [0, 1, 5] rfl)
          · refine lv_iload hx hb dX2_look_93 (lv_at hl 0 rfl) ?_
            refine lv_if_ne (tgt := 102) hx hb dX2_look_95 (by decide) (fun c_11 => ?_) (fun c_11 => ?_)
            · have c_11 := b2i_n c_11
              refine lv_iconst (v := 0) hx hb dX2_look_102 (by decide) ?_
              refine lv_goto (tgt := 122) hx hb dX2_look_103 (by decide) ?_
              refine lv_istore (lv' := [(5, .int 0), (4, .int (b2i (stnF th (v (cn tw) (cn 32)) tc))), (3, .int (33 * tw + 32)), (2, .int (nI k)), (1, .int (lkS v G k)), (0, .ref (a 0))]) hx hb dX2_look_122 hl (by decide) rfl (fun ls hl => ?_)
              refine lv_aload_n hx hb dX2_look_124 rfl (lv_at hl 5 rfl) ?_
              refine va_get (D := D) (ci := 2) (v := .ref (a 9)) (C := RX2) (T := TX2) (N := 14) hx hb hts hiF hown hK hP 0 rfl rfl 12 (by decide) (hts (.fieldLink RX2 39 "TunerBenchModel" "did" "[Z") (by decide +kernel)) (fun _ h9 => h9) rfl dX2_look_125 ?_
              refine lv_iload_n hx hb dX2_look_128 rfl (lv_at hl 3 rfl) ?_
              refine lv_iload hx hb dX2_look_129 (lv_at hl 1 rfl) ?_
              refine va_zast (D := D) hx hb hK hP hD hS 9 1 rfl rfl (vp_in_nI (show k < 8 by omega) (by decide)) dX2_look_131 (fun H locs hP hD hS => ?_)
              rw [show vp_nar .boolean (b2i (stnF th (v (cn tw) (cn 32)) tc)) = (b2i (stnF th (v (cn tw) (cn 32)) tc)) from b2i_vp _] at hP hD
              have hP : va_P D vwCl (mw a cI cZ (mso v) (mqu v) (mis (lkG v G k)) (mwh (lkG v G k)) (mho (lkG v G k)) (mmo (lkG v G k)) (mks (lkG v G k)) (mkq (lkG v G k)) (upd (mdi (lkG v G k)) (cn (nI k)) (b2i (stnF th (v (cn tw) (cn 32)) tc))) (mri (lkG v G k)) dn lt ch gn) H := hP
              have hD : va_D A (mw a cI cZ (mso v) (mqu v) (mis (lkG v G k)) (mwh (lkG v G k)) (mho (lkG v G k)) (mmo (lkG v G k)) (mks (lkG v G k)) (mkq (lkG v G k)) (upd (mdi (lkG v G k)) (cn (nI k)) (b2i (stnF th (v (cn tw) (cn 32)) tc))) (mri (lkG v G k)) dn lt ch gn) := hD
              refine lv_iload hx hb dX2_look_132 (lv_at hl 0 rfl) ?_
              refine lv_if_ne (tgt := 140) hx hb dX2_look_134 (by decide) (fun c_12 => absurd (by decide) c_12) (fun c_12 => ?_)
              refine lv_goto (tgt := 156) hx hb dX2_look_137 (by decide) ?_
              refine lv_iinc (v := nI (k + 1)) (lv' := [(2, .int (nI (k + 1))), (5, .int 0), (4, .int (b2i (stnF th (v (cn tw) (cn 32)) tc))), (3, .int (33 * tw + 32)), (1, .int (lkS v G k)), (0, .ref (a 0))]) hx hb dX2_look_156 hl (k := 3) rfl (nI_1 k) (by decide) rfl (fun ls hl => ?_)
              refine lv_goto (tgt := 4) hx hb dX2_look_159 (by decide) ?_
              have e_s : lkS v G k = lkS v G (k + 1) := by simp [lkS, lkA, hGk, lrF, lst, rungF, c_6, c_7, c_11]
              rw [e_s] at hl
              have e_l : lnx v (tw, th, tc, tm, td, tn) = (tw, th, tc, tm, stnF th (v (cn tw) (cn 32)) tc, tn) := by simp [lnx, lrF, lst, rungF, c_6, c_7, c_11]
              have hP : va_P D vwCl (mb a cI cZ v (lkG v G (k + 1)) dn lt ch gn) H := by
                have hq := hkk.trans hGk
                rw [lkG_up hGk, e_l, mb, mis_same hq, mwh, mho, mmo, mks, mkq, mdi, mri, gsel_same (t' := (tw, th, tc, tm, stnF th (v (cn tw) (cn 32)) tc, tn)) (f := fun t => t.1) hq rfl, gsel_same (t' := (tw, th, tc, tm, stnF th (v (cn tw) (cn 32)) tc, tn)) (f := fun t => t.2.1) hq rfl, gsel_same (t' := (tw, th, tc, tm, stnF th (v (cn tw) (cn 32)) tc, tn)) (f := fun t => t.2.2.2.1) hq rfl, gsel_same (t' := (tw, th, tc, tm, stnF th (v (cn tw) (cn 32)) tc, tn)) (f := fun t => srtF t.2.2.1) hq rfl, gsel_same (t' := (tw, th, tc, tm, stnF th (v (cn tw) (cn 32)) tc, tn)) (f := fun t => qrtF t.2.2.1) hq rfl, gsel_up _ (fun t => b2i t.2.2.2.2.1), gsel_same (t' := (tw, th, tc, tm, stnF th (v (cn tw) (cn 32)) tc, tn)) (f := fun t => t.2.2.2.2.2) hq rfl]
                rw [hck] at hP
                exact hP
              have hD : va_D A (mb a cI cZ v (lkG v G (k + 1)) dn lt ch gn) := xd_ad hD rfl
              exact ih (k + 1) (by omega) H locs hP hD hS ls (lv_sub hl [0, 4, 5] rfl)
            · have c_11 := b2i_e c_11
              refine lv_iconst (v := 1) hx hb dX2_look_98 (by decide) ?_
              refine lv_goto (tgt := 122) hx hb dX2_look_99 (by decide) ?_
              refine lv_istore (lv' := [(5, .int 1), (4, .int (b2i (stnF th (v (cn tw) (cn 32)) tc))), (3, .int (33 * tw + 32)), (2, .int (nI k)), (1, .int (lkS v G k)), (0, .ref (a 0))]) hx hb dX2_look_122 hl (by decide) rfl (fun ls hl => ?_)
              refine lv_aload_n hx hb dX2_look_124 rfl (lv_at hl 5 rfl) ?_
              refine va_get (D := D) (ci := 2) (v := .ref (a 9)) (C := RX2) (T := TX2) (N := 14) hx hb hts hiF hown hK hP 0 rfl rfl 12 (by decide) (hts (.fieldLink RX2 39 "TunerBenchModel" "did" "[Z") (by decide +kernel)) (fun _ h9 => h9) rfl dX2_look_125 ?_
              refine lv_iload_n hx hb dX2_look_128 rfl (lv_at hl 3 rfl) ?_
              refine lv_iload hx hb dX2_look_129 (lv_at hl 1 rfl) ?_
              refine va_zast (D := D) hx hb hK hP hD hS 9 1 rfl rfl (vp_in_nI (show k < 8 by omega) (by decide)) dX2_look_131 (fun H locs hP hD hS => ?_)
              rw [show vp_nar .boolean (b2i (stnF th (v (cn tw) (cn 32)) tc)) = (b2i (stnF th (v (cn tw) (cn 32)) tc)) from b2i_vp _] at hP hD
              have hP : va_P D vwCl (mw a cI cZ (mso v) (mqu v) (mis (lkG v G k)) (mwh (lkG v G k)) (mho (lkG v G k)) (mmo (lkG v G k)) (mks (lkG v G k)) (mkq (lkG v G k)) (upd (mdi (lkG v G k)) (cn (nI k)) (b2i (stnF th (v (cn tw) (cn 32)) tc))) (mri (lkG v G k)) dn lt ch gn) H := hP
              have hD : va_D A (mw a cI cZ (mso v) (mqu v) (mis (lkG v G k)) (mwh (lkG v G k)) (mho (lkG v G k)) (mmo (lkG v G k)) (mks (lkG v G k)) (mkq (lkG v G k)) (upd (mdi (lkG v G k)) (cn (nI k)) (b2i (stnF th (v (cn tw) (cn 32)) tc))) (mri (lkG v G k)) dn lt ch gn) := hD
              refine lv_iload hx hb dX2_look_132 (lv_at hl 0 rfl) ?_
              refine lv_if_ne (tgt := 140) hx hb dX2_look_134 (by decide) (fun c_13 => ?_) (fun c_13 => absurd c_13 (by decide))
              refine lv_aload_n hx hb dX2_look_140 rfl (lv_at hl 5 rfl) ?_
              refine va_get (D := D) (ci := 2) (v := .ref (a 10)) (C := RX2) (T := TX2) (N := 14) hx hb hts hiF hown hK hP 0 rfl rfl 13 (by decide) (hts (.fieldLink RX2 42 "TunerBenchModel" "rings" "[I") (by decide +kernel)) (fun _ h9 => h9) rfl dX2_look_141 ?_
              refine lv_iload_n hx hb dX2_look_144 rfl (lv_at hl 3 rfl) ?_
              refine lv_dup2_11 hx hb dX2_look_145 rfl rfl ?_
              refine va_iald (D := D) hx hb hK hP 10 0 rfl rfl (vp_in_nI (show k < 8 by omega) (by decide)) dX2_look_146 ?_
              rw [show (mri (lkG v G k)) (cn (nI k)) = tn from by rw [hck]; exact gsel_at (hkk.trans hGk)]
              refine lv_iconst (v := 1) hx hb dX2_look_147 (by decide) ?_
              refine lv_iadd hx hb dX2_look_148 ?_
              refine va_iast (D := D) hx hb hK hP hD hS 10 0 rfl rfl (vp_in_nI (show k < 8 by omega) (by decide)) dX2_look_149 (fun H locs hP hD hS => ?_)
              have hP : va_P D vwCl (mw a cI cZ (mso v) (mqu v) (mis (lkG v G k)) (mwh (lkG v G k)) (mho (lkG v G k)) (mmo (lkG v G k)) (mks (lkG v G k)) (mkq (lkG v G k)) (upd (mdi (lkG v G k)) (cn (nI k)) (b2i (stnF th (v (cn tw) (cn 32)) tc))) (upd (mri (lkG v G k)) (cn (nI k)) (tn + 1)) dn lt ch gn) H := hP
              have hD : va_D A (mw a cI cZ (mso v) (mqu v) (mis (lkG v G k)) (mwh (lkG v G k)) (mho (lkG v G k)) (mmo (lkG v G k)) (mks (lkG v G k)) (mkq (lkG v G k)) (upd (mdi (lkG v G k)) (cn (nI k)) (b2i (stnF th (v (cn tw) (cn 32)) tc))) (upd (mri (lkG v G k)) (cn (nI k)) (tn + 1)) dn lt ch gn) := hD
              refine lv_iload_n hx hb dX2_look_150 rfl (lv_at hl 4 rfl) ?_
              refine lv_iconst (v := 1) hx hb dX2_look_151 (by decide) ?_
              refine lv_iload_n hx hb dX2_look_152 rfl (lv_at hl 3 rfl) ?_
              refine lv_ishl hx hb dX2_look_153 ?_
              refine lv_iadd hx hb dX2_look_154 ?_
              refine lv_istore_n (lv' := [(1, .int ((lkS v G k) + (1 <<< ((nI k) &&& 31)))), (5, .int 1), (4, .int (b2i (stnF th (v (cn tw) (cn 32)) tc))), (3, .int (33 * tw + 32)), (2, .int (nI k)), (0, .ref (a 0))]) hx hb dX2_look_155 rfl hl (by decide) rfl (fun ls hl => ?_)
              refine lv_iinc (v := nI (k + 1)) (lv' := [(2, .int (nI (k + 1))), (1, .int ((lkS v G k) + (1 <<< ((nI k) &&& 31)))), (5, .int 1), (4, .int (b2i (stnF th (v (cn tw) (cn 32)) tc))), (3, .int (33 * tw + 32)), (0, .ref (a 0))]) hx hb dX2_look_156 hl (k := 4) rfl (nI_1 k) (by decide) rfl (fun ls hl => ?_)
              refine lv_goto (tgt := 4) hx hb dX2_look_159 (by decide) ?_
              have e_s : (lkS v G k) + (1 <<< ((nI k) &&& 31)) = lkS v G (k + 1) := by simp [lkS, lkA, hGk, lrF, lst, rungF, c_6, c_7, c_11]
              rw [e_s] at hl
              have e_l : lnx v (tw, th, tc, tm, td, tn) = (tw, th, tc, tm, stnF th (v (cn tw) (cn 32)) tc, tn + 1) := by simp [lnx, lrF, lst, rungF, c_6, c_7, c_11]
              have hP : va_P D vwCl (mb a cI cZ v (lkG v G (k + 1)) dn lt ch gn) H := by
                have hq := hkk.trans hGk
                rw [lkG_up hGk, e_l, mb, mis_same hq, mwh, mho, mmo, mks, mkq, mdi, mri, gsel_same (t' := (tw, th, tc, tm, stnF th (v (cn tw) (cn 32)) tc, tn + 1)) (f := fun t => t.1) hq rfl, gsel_same (t' := (tw, th, tc, tm, stnF th (v (cn tw) (cn 32)) tc, tn + 1)) (f := fun t => t.2.1) hq rfl, gsel_same (t' := (tw, th, tc, tm, stnF th (v (cn tw) (cn 32)) tc, tn + 1)) (f := fun t => t.2.2.2.1) hq rfl, gsel_same (t' := (tw, th, tc, tm, stnF th (v (cn tw) (cn 32)) tc, tn + 1)) (f := fun t => srtF t.2.2.1) hq rfl, gsel_same (t' := (tw, th, tc, tm, stnF th (v (cn tw) (cn 32)) tc, tn + 1)) (f := fun t => qrtF t.2.2.1) hq rfl, gsel_up _ (fun t => b2i t.2.2.2.2.1), gsel_up _ (fun t => t.2.2.2.2.2)]
                rw [hck] at hP
                exact hP
              have hD : va_D A (mb a cI cZ v (lkG v G (k + 1)) dn lt ch gn) := xd_ad hD rfl
              exact ih (k + 1) (by omega) H locs hP hD hS ls (lv_sub hl [0, 1, 5] rfl)
        · refine lv_iload hx hb dX2_look_78 (lv_at hl 0 rfl) ?_
          refine lv_goto (tgt := 122) hx hb dX2_look_80 (by decide) ?_
          refine lv_istore (lv' := [(5, .int (b2i (stnF th (v (cn tw) (cn 32)) tc))), (4, .int (b2i (stnF th (v (cn tw) (cn 32)) tc))), (3, .int (33 * tw + 32)), (2, .int (nI k)), (1, .int (lkS v G k)), (0, .ref (a 0))]) hx hb dX2_look_122 hl (by decide) rfl (fun ls hl => ?_)
          refine lv_aload_n hx hb dX2_look_124 rfl (lv_at hl 5 rfl) ?_
          refine va_get (D := D) (ci := 2) (v := .ref (a 9)) (C := RX2) (T := TX2) (N := 14) hx hb hts hiF hown hK hP 0 rfl rfl 12 (by decide) (hts (.fieldLink RX2 39 "TunerBenchModel" "did" "[Z") (by decide +kernel)) (fun _ h9 => h9) rfl dX2_look_125 ?_
          refine lv_iload_n hx hb dX2_look_128 rfl (lv_at hl 3 rfl) ?_
          refine lv_iload hx hb dX2_look_129 (lv_at hl 1 rfl) ?_
          refine va_zast (D := D) hx hb hK hP hD hS 9 1 rfl rfl (vp_in_nI (show k < 8 by omega) (by decide)) dX2_look_131 (fun H locs hP hD hS => ?_)
          rw [show vp_nar .boolean (b2i (stnF th (v (cn tw) (cn 32)) tc)) = (b2i (stnF th (v (cn tw) (cn 32)) tc)) from b2i_vp _] at hP hD
          have hP : va_P D vwCl (mw a cI cZ (mso v) (mqu v) (mis (lkG v G k)) (mwh (lkG v G k)) (mho (lkG v G k)) (mmo (lkG v G k)) (mks (lkG v G k)) (mkq (lkG v G k)) (upd (mdi (lkG v G k)) (cn (nI k)) (b2i (stnF th (v (cn tw) (cn 32)) tc))) (mri (lkG v G k)) dn lt ch gn) H := hP
          have hD : va_D A (mw a cI cZ (mso v) (mqu v) (mis (lkG v G k)) (mwh (lkG v G k)) (mho (lkG v G k)) (mmo (lkG v G k)) (mks (lkG v G k)) (mkq (lkG v G k)) (upd (mdi (lkG v G k)) (cn (nI k)) (b2i (stnF th (v (cn tw) (cn 32)) tc))) (mri (lkG v G k)) dn lt ch gn) := hD
          refine lv_iload hx hb dX2_look_132 (lv_at hl 0 rfl) ?_
          refine lv_if_ne (tgt := 140) hx hb dX2_look_134 (by decide) (fun c_14 => ?_) (fun c_14 => ?_)
          · have c_14 := b2i_n c_14
            refine lv_aload_n hx hb dX2_look_140 rfl (lv_at hl 5 rfl) ?_
            refine va_get (D := D) (ci := 2) (v := .ref (a 10)) (C := RX2) (T := TX2) (N := 14) hx hb hts hiF hown hK hP 0 rfl rfl 13 (by decide) (hts (.fieldLink RX2 42 "TunerBenchModel" "rings" "[I") (by decide +kernel)) (fun _ h9 => h9) rfl dX2_look_141 ?_
            refine lv_iload_n hx hb dX2_look_144 rfl (lv_at hl 3 rfl) ?_
            refine lv_dup2_11 hx hb dX2_look_145 rfl rfl ?_
            refine va_iald (D := D) hx hb hK hP 10 0 rfl rfl (vp_in_nI (show k < 8 by omega) (by decide)) dX2_look_146 ?_
            rw [show (mri (lkG v G k)) (cn (nI k)) = tn from by rw [hck]; exact gsel_at (hkk.trans hGk)]
            refine lv_iconst (v := 1) hx hb dX2_look_147 (by decide) ?_
            refine lv_iadd hx hb dX2_look_148 ?_
            refine va_iast (D := D) hx hb hK hP hD hS 10 0 rfl rfl (vp_in_nI (show k < 8 by omega) (by decide)) dX2_look_149 (fun H locs hP hD hS => ?_)
            have hP : va_P D vwCl (mw a cI cZ (mso v) (mqu v) (mis (lkG v G k)) (mwh (lkG v G k)) (mho (lkG v G k)) (mmo (lkG v G k)) (mks (lkG v G k)) (mkq (lkG v G k)) (upd (mdi (lkG v G k)) (cn (nI k)) (b2i (stnF th (v (cn tw) (cn 32)) tc))) (upd (mri (lkG v G k)) (cn (nI k)) (tn + 1)) dn lt ch gn) H := hP
            have hD : va_D A (mw a cI cZ (mso v) (mqu v) (mis (lkG v G k)) (mwh (lkG v G k)) (mho (lkG v G k)) (mmo (lkG v G k)) (mks (lkG v G k)) (mkq (lkG v G k)) (upd (mdi (lkG v G k)) (cn (nI k)) (b2i (stnF th (v (cn tw) (cn 32)) tc))) (upd (mri (lkG v G k)) (cn (nI k)) (tn + 1)) dn lt ch gn) := hD
            refine lv_iload_n hx hb dX2_look_150 rfl (lv_at hl 4 rfl) ?_
            refine lv_iconst (v := 1) hx hb dX2_look_151 (by decide) ?_
            refine lv_iload_n hx hb dX2_look_152 rfl (lv_at hl 3 rfl) ?_
            refine lv_ishl hx hb dX2_look_153 ?_
            refine lv_iadd hx hb dX2_look_154 ?_
            refine lv_istore_n (lv' := [(1, .int ((lkS v G k) + (1 <<< ((nI k) &&& 31)))), (5, .int (b2i (stnF th (v (cn tw) (cn 32)) tc))), (4, .int (b2i (stnF th (v (cn tw) (cn 32)) tc))), (3, .int (33 * tw + 32)), (2, .int (nI k)), (0, .ref (a 0))]) hx hb dX2_look_155 rfl hl (by decide) rfl (fun ls hl => ?_)
            refine lv_iinc (v := nI (k + 1)) (lv' := [(2, .int (nI (k + 1))), (1, .int ((lkS v G k) + (1 <<< ((nI k) &&& 31)))), (5, .int (b2i (stnF th (v (cn tw) (cn 32)) tc))), (4, .int (b2i (stnF th (v (cn tw) (cn 32)) tc))), (3, .int (33 * tw + 32)), (0, .ref (a 0))]) hx hb dX2_look_156 hl (k := 4) rfl (nI_1 k) (by decide) rfl (fun ls hl => ?_)
            refine lv_goto (tgt := 4) hx hb dX2_look_159 (by decide) ?_
            have e_s : (lkS v G k) + (1 <<< ((nI k) &&& 31)) = lkS v G (k + 1) := by simp [lkS, lkA, hGk, lrF, lst, rungF, c_6, c_14]
            rw [e_s] at hl
            have e_l : lnx v (tw, th, tc, tm, td, tn) = (tw, th, tc, tm, stnF th (v (cn tw) (cn 32)) tc, tn + 1) := by simp [lnx, lrF, lst, rungF, c_6, c_14]
            have hP : va_P D vwCl (mb a cI cZ v (lkG v G (k + 1)) dn lt ch gn) H := by
              have hq := hkk.trans hGk
              rw [lkG_up hGk, e_l, mb, mis_same hq, mwh, mho, mmo, mks, mkq, mdi, mri, gsel_same (t' := (tw, th, tc, tm, stnF th (v (cn tw) (cn 32)) tc, tn + 1)) (f := fun t => t.1) hq rfl, gsel_same (t' := (tw, th, tc, tm, stnF th (v (cn tw) (cn 32)) tc, tn + 1)) (f := fun t => t.2.1) hq rfl, gsel_same (t' := (tw, th, tc, tm, stnF th (v (cn tw) (cn 32)) tc, tn + 1)) (f := fun t => t.2.2.2.1) hq rfl, gsel_same (t' := (tw, th, tc, tm, stnF th (v (cn tw) (cn 32)) tc, tn + 1)) (f := fun t => srtF t.2.2.1) hq rfl, gsel_same (t' := (tw, th, tc, tm, stnF th (v (cn tw) (cn 32)) tc, tn + 1)) (f := fun t => qrtF t.2.2.1) hq rfl, gsel_up _ (fun t => b2i t.2.2.2.2.1), gsel_up _ (fun t => t.2.2.2.2.2)]
              rw [hck] at hP
              exact hP
            have hD : va_D A (mb a cI cZ v (lkG v G (k + 1)) dn lt ch gn) := xd_ad hD rfl
            exact ih (k + 1) (by omega) H locs hP hD hS ls (lv_sub hl [0, 1, 5] rfl)
          · have c_14 := b2i_e c_14
            refine lv_goto (tgt := 156) hx hb dX2_look_137 (by decide) ?_
            refine lv_iinc (v := nI (k + 1)) (lv' := [(2, .int (nI (k + 1))), (5, .int (b2i (stnF th (v (cn tw) (cn 32)) tc))), (4, .int (b2i (stnF th (v (cn tw) (cn 32)) tc))), (3, .int (33 * tw + 32)), (1, .int (lkS v G k)), (0, .ref (a 0))]) hx hb dX2_look_156 hl (k := 3) rfl (nI_1 k) (by decide) rfl (fun ls hl => ?_)
            refine lv_goto (tgt := 4) hx hb dX2_look_159 (by decide) ?_
            have e_s : lkS v G k = lkS v G (k + 1) := by simp [lkS, lkA, hGk, lrF, lst, rungF, c_6, c_14]
            rw [e_s] at hl
            have e_l : lnx v (tw, th, tc, tm, td, tn) = (tw, th, tc, tm, stnF th (v (cn tw) (cn 32)) tc, tn) := by simp [lnx, lrF, lst, rungF, c_6, c_14]
            have hP : va_P D vwCl (mb a cI cZ v (lkG v G (k + 1)) dn lt ch gn) H := by
              have hq := hkk.trans hGk
              rw [lkG_up hGk, e_l, mb, mis_same hq, mwh, mho, mmo, mks, mkq, mdi, mri, gsel_same (t' := (tw, th, tc, tm, stnF th (v (cn tw) (cn 32)) tc, tn)) (f := fun t => t.1) hq rfl, gsel_same (t' := (tw, th, tc, tm, stnF th (v (cn tw) (cn 32)) tc, tn)) (f := fun t => t.2.1) hq rfl, gsel_same (t' := (tw, th, tc, tm, stnF th (v (cn tw) (cn 32)) tc, tn)) (f := fun t => t.2.2.2.1) hq rfl, gsel_same (t' := (tw, th, tc, tm, stnF th (v (cn tw) (cn 32)) tc, tn)) (f := fun t => srtF t.2.2.1) hq rfl, gsel_same (t' := (tw, th, tc, tm, stnF th (v (cn tw) (cn 32)) tc, tn)) (f := fun t => qrtF t.2.2.1) hq rfl, gsel_up _ (fun t => b2i t.2.2.2.2.1), gsel_same (t' := (tw, th, tc, tm, stnF th (v (cn tw) (cn 32)) tc, tn)) (f := fun t => t.2.2.2.2.2) hq rfl]
              rw [hck] at hP
              exact hP
            have hD : va_D A (mb a cI cZ v (lkG v G (k + 1)) dn lt ch gn) := xd_ad hD rfl
            exact ih (k + 1) (by omega) H locs hP hD hS ls (lv_sub hl [0, 4, 5] rfl)
  refine lv_iconst (v := 0) hx hb dX2_look_0 (by decide) ?_
  refine lv_istore_n (lv' := [(1, .int 0), (0, .ref (a 0))]) hx hb dX2_look_1 rfl hl (by decide) rfl (fun ls hl => ?_)
  refine lv_iconst (v := 0) hx hb dX2_look_2 (by decide) ?_
  refine lv_istore_n (lv' := [(2, .int 0), (1, .int 0), (0, .ref (a 0))]) hx hb dX2_look_3 rfl hl (by decide) rfl (fun ls hl => ?_)
  refine loop 8 0 (by omega) _ _ ?_ ?_ hS ls (lv_sub hl [0, 1, 2] rfl)
  · rw [lkG_0]; exact hP
  · rw [lkG_0]; exact hD
