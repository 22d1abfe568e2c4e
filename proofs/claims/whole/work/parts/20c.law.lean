/-! the law, case by case -/
set_option maxHeartbeats 4000000 in
set_option maxRecDepth 100000 in
theorem law_look {p : Program} {l : Launch} {e : Env} {s : State} {m : MethodId} {below : List Frame} {meth : Method} {c : Code} {b Ln : Nat} {xs : Nat → Int32} (hL : Ln ≤ 3072) (C0 : lw_At p s m meth c b Ln xs) {D : va_G} {a bm : Nat → Nat} {cV cI cG cJ cZ : ClassId} (hK : va_K D vwCl (lT cV cI cG cJ cZ) s) (hN : nT s) {i ce se : Nat} (hi : i + 6 ≤ Ln) (hce : ce + 1 ≤ room_1.cells) (hse : se + 6 ≤ room_1.slots) (nx : lNext p l e s m below meth c D a bm cV cI cG cJ cZ b i (ce + 1) (se + 6)) {v : Nat → Nat → Int32} {G : Nat → Option GT} {gg : Nat → Option Nat} {L : List Nat} {f : Nat → va_E} {dn lt ch : Int32} {H : Heap} {locs : List Loc} {ls : Array Slot} (hI : lInv s D a bm cV cI cG cJ cZ v G gg L f dn lt ch H locs) (hl : lv_has ls 4 [(3, .int (nI i)), (0, .ref b), (1, .ref (a 0)), (2, .ref (bm 0))]) : W p l e room_1 s m #[Value.ref b] below meth c H locs ce se (lw_Z below #[Value.ref b] s) (F0 m 730 ls []) := by
  obtain ⟨hx, hb, hr, hml, hown, hts, hX, hbl, hlocks, hgv⟩ := C0
  have hown : s.vm.findClass RL = some m.cls := hown
  have hts : ∀ w ∈ wsL_law, w.before #[Value.ref b] s = true := fun w h => hts w (wsL_law_in w h)
  have hA : ∀ q : Nat, s.heap.size ≤ q → (fun q : Nat => s.heap.size ≤ q) q := fun _ h => h
  have hbA : ¬ (fun q : Nat => s.heap.size ≤ q) b := Nat.not_le.mpr hbl
  have hro : ce ≤ room_1.cells ∧ se ≤ room_1.slots := ⟨by omega, by omega⟩
  have hro1 : ce + 1 ≤ room_1.cells ∧ se + 6 ≤ room_1.slots := ⟨hce, hse⟩
  obtain ⟨hP, hD, hS, hGR, okv, hGo⟩ := hI
  have hP : va_P D vwCl (cb a cV cI cG v gg dn lt ch ++ (va_pl L f ++ mb bm cJ cZ v G dn lt ch (nI (cntG G 8)))) H := hP
  have hD : va_D (fun q : Nat => s.heap.size ≤ q) (cb a cV cI cG v gg dn lt ch ++ (va_pl L f ++ mb bm cJ cZ v G dn lt ch (nI (cntG G 8)))) := hD
  refine lv_aload_n hx hb dL_law_730 rfl (lv_at hl 2 rfl) ?_
  have hPa := hP; rw [← List.append_assoc] at hPa
  have hDa := hD; rw [← List.append_assoc] at hDa
  refine xc_W (S0 := Nat → va_E) (rw := mb bm cJ cZ v G dn lt ch (nI (cntG G 8))) (As := []) (rest := []) ⟨hx, hb, hml, hown, hts⟩ (c_X1_look l D a cV cI cG v gg dn lt ch L f H.size G hGR (fun g t hg ht => (hGo g t hg ht).1)) (cwV 0 hts gL_law_X1_look rfl rfl rfl (by decide +kernel) ⟨Nat.le_of_ble_eq_true rfl, Nat.le_of_ble_eq_true rfl⟩) xMvN hN hPa (hK.sub (tys' := cT cV cI cG) [0, 1, 2] rfl) hDa hS hA (va_recv hK hP (ci := 1) (q0 := 0) rfl rfl) rfl hl.1 rfl (Nat.le_of_ble_eq_true rfl) dL_law_731 hro (fun r1 f2 H locs hr1 hP hD _ hS => ?_)
  rw [hr1.1]
  have hGR := hr1.2
  refine W.widen (k := ce) (n := se) (Nat.le_refl _) (Nat.le_refl _) ?_
  rw [List.append_assoc] at hP hD
  have hP : va_P D vwCl (cb a cV cI cG v gg dn lt ch ++ (va_pl L f2 ++ mb bm cJ cZ v G dn lt ch (nI (cntG G 8)))) H := hP
  have hD : va_D (fun q : Nat => s.heap.size ≤ q) (cb a cV cI cG v gg dn lt ch ++ (va_pl L f2 ++ mb bm cJ cZ v G dn lt ch (nI (cntG G 8)))) := hD
  refine lv_aload_n hx hb dL_law_734 rfl (lv_at hl 3 rfl) ?_
  have hPm := hP; rw [← List.append_assoc] at hPm
  have hPm := xp_c hPm
  have hDm := hD; rw [← List.append_assoc] at hDm
  have hDm := xd_c hDm
  refine xc_W (S0 := Unit) (rw := cb a cV cI cG v gg dn lt ch ++ va_pl L f2) (As := []) (rest := [.int (lkS v G 8)]) ⟨hx, hb, hml, hown, hts⟩ (c_X2_look l D bm cJ cZ v G dn lt ch (nI (cntG G 8)) H.size hGo okv) (cwV 0 hts gL_law_X2_look rfl rfl rfl (by decide +kernel) ⟨Nat.le_of_ble_eq_true rfl, Nat.le_of_ble_eq_true rfl⟩) xMv0 trivial hPm (hK.sub (tys' := mT cJ cZ) [3, 4] rfl) hDm hS hA (va_recv (hK.sub (tys' := mT cJ cZ) [3, 4] rfl) hPm (ci := 2) (q0 := 0) rfl rfl) rfl hl.1 rfl (Nat.le_of_ble_eq_true rfl) dL_law_735 hro (fun r2 _ H locs hr2 hP hD _ hS => ?_)
  rw [hr2]
  have hP := xp_c hP
  have hD := xd_c hD
  rw [List.append_assoc] at hP hD
  refine lv_icmp_eq (tgt := 812) hx hb dL_law_738 (by decide) (fun c_1 => ?_) (fun c_1 => absurd rfl c_1)
  refine W.widen (k := ce + 1) (n := se + 6) (by omega) (by omega) ?_
  rw [← cnt_lk v G 8 8] at hP hD
  exact nx v (lkG v G 8) gg L f2 dn lt ch H locs ls ⟨hP, hD, hS, hGR, okv, (gok_lk hGo)⟩ (lv_sub hl [0, 1, 2, 3] rfl)
set_option maxHeartbeats 4000000 in
set_option maxRecDepth 100000 in
theorem law_rings {p : Program} {l : Launch} {e : Env} {s : State} {m : MethodId} {below : List Frame} {meth : Method} {c : Code} {b Ln : Nat} {xs : Nat → Int32} (hL : Ln ≤ 3072) (C0 : lw_At p s m meth c b Ln xs) {D : va_G} {a bm : Nat → Nat} {cV cI cG cJ cZ : ClassId} (hK : va_K D vwCl (lT cV cI cG cJ cZ) s) (hN : nT s) {i ce se : Nat} (hi : i + 6 ≤ Ln) (hce : ce + 1 ≤ room_1.cells) (hse : se + 6 ≤ room_1.slots) (nx : lNext p l e s m below meth c D a bm cV cI cG cJ cZ b i (ce + 1) (se + 6)) {v : Nat → Nat → Int32} {G : Nat → Option GT} {gg : Nat → Option Nat} {L : List Nat} {f : Nat → va_E} {dn lt ch : Int32} {H : Heap} {locs : List Loc} {ls : Array Slot} (hI : lInv s D a bm cV cI cG cJ cZ v G gg L f dn lt ch H locs) (hl : lv_has ls 4 [(3, .int (nI i)), (0, .ref b), (1, .ref (a 0)), (2, .ref (bm 0))]) : W p l e room_1 s m #[Value.ref b] below meth c H locs ce se (lw_Z below #[Value.ref b] s) (F0 m 743 ls []) := by
  obtain ⟨hx, hb, hr, hml, hown, hts, hX, hbl, hlocks, hgv⟩ := C0
  have hown : s.vm.findClass RL = some m.cls := hown
  have hts : ∀ w ∈ wsL_law, w.before #[Value.ref b] s = true := fun w h => hts w (wsL_law_in w h)
  have hA : ∀ q : Nat, s.heap.size ≤ q → (fun q : Nat => s.heap.size ≤ q) q := fun _ h => h
  have hbA : ¬ (fun q : Nat => s.heap.size ≤ q) b := Nat.not_le.mpr hbl
  have hro : ce ≤ room_1.cells ∧ se ≤ room_1.slots := ⟨by omega, by omega⟩
  have hro1 : ce + 1 ≤ room_1.cells ∧ se + 6 ≤ room_1.slots := ⟨hce, hse⟩
  obtain ⟨hP, hD, hS, hGR, okv, hGo⟩ := hI
  have hP : va_P D vwCl (cb a cV cI cG v gg dn lt ch ++ (va_pl L f ++ mb bm cJ cZ v G dn lt ch (nI (cntG G 8)))) H := hP
  have hD : va_D (fun q : Nat => s.heap.size ≤ q) (cb a cV cI cG v gg dn lt ch ++ (va_pl L f ++ mb bm cJ cZ v G dn lt ch (nI (cntG G 8)))) := hD
  refine lv_aload_n hx hb dL_law_743 rfl (lv_at hl 2 rfl) ?_
  refine lv_aload_n hx hb dL_law_744 rfl (lv_at hl 1 rfl) ?_
  refine lv_iload_n hx hb dL_law_745 rfl (lv_at hl 0 rfl) ?_
  refine lv_iconst (v := 1) hx hb dL_law_746 (by decide) ?_
  refine lv_iadd hx hb dL_law_747 ?_
  rw [show nI i + 1 = nI (i + 1) from nI_add i 1]
  refine va_sld hx hb hX hbl hbA hS (vp_in_nI (show i + 1 < Ln by omega) (by omega)) dL_law_748 ?_
  rw [nI_clamp (show i + 1 < 2 ^ 31 by omega)]
  have hPa := hP; rw [← List.append_assoc] at hPa
  refine xc_R (wd := cb a cV cI cG v gg dn lt ch ++ va_pl L f) (As := [.int (xs (i + 1))]) (rest := []) ⟨hx, hb, hml, hown, hts⟩ (c_X1_rings l D a cV cI cG v gg dn lt ch L f G hGR (xs (i + 1))) (cwV 1 hts gL_law_X1_rings rfl rfl rfl (by decide +kernel) ⟨Nat.le_of_ble_eq_true rfl, Nat.le_of_ble_eq_true rfl⟩) xMvN hN (xp_l hPa) (hK.sub (tys' := cT cV cI cG) [0, 1, 2] rfl) (va_recv hK hP (ci := 1) (q0 := 0) rfl rfl) rfl hl.1 rfl (Nat.le_of_ble_eq_true rfl) dL_law_749 hro ?_
  refine lv_aload_n hx hb dL_law_752 rfl (lv_at hl 3 rfl) ?_
  refine lv_aload_n hx hb dL_law_753 rfl (lv_at hl 1 rfl) ?_
  refine lv_iload_n hx hb dL_law_754 rfl (lv_at hl 0 rfl) ?_
  refine lv_iconst (v := 1) hx hb dL_law_755 (by decide) ?_
  refine lv_iadd hx hb dL_law_756 ?_
  rw [show nI i + 1 = nI (i + 1) from nI_add i 1]
  refine va_sld hx hb hX hbl hbA hS (vp_in_nI (show i + 1 < Ln by omega) (by omega)) dL_law_757 ?_
  rw [nI_clamp (show i + 1 < 2 ^ 31 by omega)]
  have hPm := hP; rw [← List.append_assoc] at hPm
  have hPm := xp_c hPm
  refine xc_R (wd := mb bm cJ cZ v G dn lt ch (nI (cntG G 8))) (As := [.int (xs (i + 1))]) (rest := [.int (aRin G (xs (i + 1)))]) ⟨hx, hb, hml, hown, hts⟩ (c_X2_rings l D bm cJ cZ v G dn lt ch (nI (cntG G 8)) (xs (i + 1))) (cwV 1 hts gL_law_X2_rings rfl rfl rfl (by decide +kernel) ⟨Nat.le_of_ble_eq_true rfl, Nat.le_of_ble_eq_true rfl⟩) xMv0 trivial (xp_l hPm) (hK.sub (tys' := mT cJ cZ) [3, 4] rfl) (va_recv (hK.sub (tys' := mT cJ cZ) [3, 4] rfl) hPm (ci := 2) (q0 := 0) rfl rfl) rfl hl.1 rfl (Nat.le_of_ble_eq_true rfl) dL_law_758 hro ?_
  refine lv_icmp_eq (tgt := 812) hx hb dL_law_761 (by decide) (fun c_1 => ?_) (fun c_1 => absurd rfl c_1)
  refine W.widen (k := ce + 1) (n := se + 6) (by omega) (by omega) ?_
  exact nx v G gg L f dn lt ch H locs ls ⟨hP, hD, hS, hGR, okv, hGo⟩ (lv_sub hl [0, 1, 2, 3] rfl)
set_option maxHeartbeats 4000000 in
set_option maxRecDepth 100000 in
theorem law_strike {p : Program} {l : Launch} {e : Env} {s : State} {m : MethodId} {below : List Frame} {meth : Method} {c : Code} {b Ln : Nat} {xs : Nat → Int32} (hL : Ln ≤ 3072) (C0 : lw_At p s m meth c b Ln xs) {D : va_G} {a bm : Nat → Nat} {cV cI cG cJ cZ : ClassId} (hK : va_K D vwCl (lT cV cI cG cJ cZ) s) (hN : nT s) {i ce se : Nat} (hi : i + 6 ≤ Ln) (hce : ce + 1 ≤ room_1.cells) (hse : se + 6 ≤ room_1.slots) (nx : lNext p l e s m below meth c D a bm cV cI cG cJ cZ b i (ce + 1) (se + 6)) {v : Nat → Nat → Int32} {G : Nat → Option GT} {gg : Nat → Option Nat} {L : List Nat} {f : Nat → va_E} {dn lt ch : Int32} {H : Heap} {locs : List Loc} {ls : Array Slot} (hI : lInv s D a bm cV cI cG cJ cZ v G gg L f dn lt ch H locs) (hl : lv_has ls 4 [(3, .int (nI i)), (0, .ref b), (1, .ref (a 0)), (2, .ref (bm 0))]) : W p l e room_1 s m #[Value.ref b] below meth c H locs ce se (lw_Z below #[Value.ref b] s) (F0 m 766 ls []) := by
  obtain ⟨hx, hb, hr, hml, hown, hts, hX, hbl, hlocks, hgv⟩ := C0
  have hown : s.vm.findClass RL = some m.cls := hown
  have hts : ∀ w ∈ wsL_law, w.before #[Value.ref b] s = true := fun w h => hts w (wsL_law_in w h)
  have hA : ∀ q : Nat, s.heap.size ≤ q → (fun q : Nat => s.heap.size ≤ q) q := fun _ h => h
  have hbA : ¬ (fun q : Nat => s.heap.size ≤ q) b := Nat.not_le.mpr hbl
  have hro : ce ≤ room_1.cells ∧ se ≤ room_1.slots := ⟨by omega, by omega⟩
  have hro1 : ce + 1 ≤ room_1.cells ∧ se + 6 ≤ room_1.slots := ⟨hce, hse⟩
  obtain ⟨hP, hD, hS, hGR, okv, hGo⟩ := hI
  have hP : va_P D vwCl (cb a cV cI cG v gg dn lt ch ++ (va_pl L f ++ mb bm cJ cZ v G dn lt ch (nI (cntG G 8)))) H := hP
  have hD : va_D (fun q : Nat => s.heap.size ≤ q) (cb a cV cI cG v gg dn lt ch ++ (va_pl L f ++ mb bm cJ cZ v G dn lt ch (nI (cntG G 8)))) := hD
  refine lv_aload_n hx hb dL_law_766 rfl (lv_at hl 2 rfl) ?_
  refine lv_aload_n hx hb dL_law_767 rfl (lv_at hl 1 rfl) ?_
  refine lv_iload_n hx hb dL_law_768 rfl (lv_at hl 0 rfl) ?_
  refine lv_iconst (v := 1) hx hb dL_law_769 (by decide) ?_
  refine lv_iadd hx hb dL_law_770 ?_
  rw [show nI i + 1 = nI (i + 1) from nI_add i 1]
  refine va_sld hx hb hX hbl hbA hS (vp_in_nI (show i + 1 < Ln by omega) (by omega)) dL_law_771 ?_
  rw [nI_clamp (show i + 1 < 2 ^ 31 by omega)]
  refine xc_W (S0 := Unit) (rw := va_pl L f ++ mb bm cJ cZ v G dn lt ch (nI (cntG G 8))) (As := [.int (xs (i + 1))]) (rest := []) ⟨hx, hb, hml, hown, hts⟩ (c_X1_strike l D a cV cI cG v gg dn lt ch H.size (xs (i + 1))) (cwV 1 hts gL_law_X1_strike rfl rfl rfl (by decide +kernel) ⟨Nat.le_of_ble_eq_true rfl, Nat.le_of_ble_eq_true rfl⟩) xMv0 trivial hP (hK.sub (tys' := cT cV cI cG) [0, 1, 2] rfl) hD hS hA (va_recv hK hP (ci := 1) (q0 := 0) rfl rfl) rfl hl.1 rfl (Nat.le_of_ble_eq_true rfl) dL_law_772 hro (fun r1 _ H locs hr1 hP hD _ hS => ?_)
  rw [hr1]
  refine W.widen (k := ce) (n := se) (Nat.le_refl _) (Nat.le_refl _) ?_
  have hP : va_P D vwCl (cb a cV cI cG (nStri v (xs (i + 1))) gg dn lt ch ++ (va_pl L f ++ mb bm cJ cZ v G dn lt ch (nI (cntG G 8)))) H := hP
  have hD : va_D (fun q : Nat => s.heap.size ≤ q) (cb a cV cI cG (nStri v (xs (i + 1))) gg dn lt ch ++ (va_pl L f ++ mb bm cJ cZ v G dn lt ch (nI (cntG G 8)))) := hD
  refine lv_aload_n hx hb dL_law_775 rfl (lv_at hl 3 rfl) ?_
  refine lv_aload_n hx hb dL_law_776 rfl (lv_at hl 1 rfl) ?_
  refine lv_iload_n hx hb dL_law_777 rfl (lv_at hl 0 rfl) ?_
  refine lv_iconst (v := 1) hx hb dL_law_778 (by decide) ?_
  refine lv_iadd hx hb dL_law_779 ?_
  rw [show nI i + 1 = nI (i + 1) from nI_add i 1]
  refine va_sld hx hb hX hbl hbA hS (vp_in_nI (show i + 1 < Ln by omega) (by omega)) dL_law_780 ?_
  rw [nI_clamp (show i + 1 < 2 ^ 31 by omega)]
  have hPm := hP; rw [← List.append_assoc] at hPm
  have hPm := xp_c hPm
  have hDm := hD; rw [← List.append_assoc] at hDm
  have hDm := xd_c hDm
  refine xc_W (S0 := Unit) (rw := cb a cV cI cG (nStri v (xs (i + 1))) gg dn lt ch ++ va_pl L f) (As := [.int (xs (i + 1))]) (rest := [.int (b2i (isSb (xs (i + 1))))]) ⟨hx, hb, hml, hown, hts⟩ (c_X2_strike l D bm cJ cZ v G dn lt ch (nI (cntG G 8)) H.size (xs (i + 1))) (cwV 1 hts gL_law_X2_strike rfl rfl rfl (by decide +kernel) ⟨Nat.le_of_ble_eq_true rfl, Nat.le_of_ble_eq_true rfl⟩) xMv0 trivial hPm (hK.sub (tys' := mT cJ cZ) [3, 4] rfl) hDm hS hA (va_recv (hK.sub (tys' := mT cJ cZ) [3, 4] rfl) hPm (ci := 2) (q0 := 0) rfl rfl) rfl hl.1 rfl (Nat.le_of_ble_eq_true rfl) dL_law_781 hro (fun r2 _ H locs hr2 hP hD _ hS => ?_)
  rw [hr2]
  have hP := xp_c hP
  have hD := xd_c hD
  rw [List.append_assoc] at hP hD
  refine lv_icmp_eq (tgt := 812) hx hb dL_law_784 (by decide) (fun c_1 => ?_) (fun c_1 => absurd rfl c_1)
  refine W.widen (k := ce + 1) (n := se + 6) (by omega) (by omega) ?_
  exact nx (nStri v (xs (i + 1))) G gg L f dn lt ch H locs ls ⟨hP, hD, hS, hGR, (ok_stri okv), hGo⟩ (lv_sub hl [0, 1, 2, 3] rfl)
set_option maxHeartbeats 4000000 in
set_option maxRecDepth 100000 in
theorem law_count {p : Program} {l : Launch} {e : Env} {s : State} {m : MethodId} {below : List Frame} {meth : Method} {c : Code} {b Ln : Nat} {xs : Nat → Int32} (hL : Ln ≤ 3072) (C0 : lw_At p s m meth c b Ln xs) {D : va_G} {a bm : Nat → Nat} {cV cI cG cJ cZ : ClassId} (hK : va_K D vwCl (lT cV cI cG cJ cZ) s) (hN : nT s) {i ce se : Nat} (hi : i + 6 ≤ Ln) (hce : ce + 1 ≤ room_1.cells) (hse : se + 6 ≤ room_1.slots) (nx : lNext p l e s m below meth c D a bm cV cI cG cJ cZ b i (ce + 1) (se + 6)) {v : Nat → Nat → Int32} {G : Nat → Option GT} {gg : Nat → Option Nat} {L : List Nat} {f : Nat → va_E} {dn lt ch : Int32} {H : Heap} {locs : List Loc} {ls : Array Slot} (hI : lInv s D a bm cV cI cG cJ cZ v G gg L f dn lt ch H locs) (hl : lv_has ls 4 [(3, .int (nI i)), (0, .ref b), (1, .ref (a 0)), (2, .ref (bm 0))]) : W p l e room_1 s m #[Value.ref b] below meth c H locs ce se (lw_Z below #[Value.ref b] s) (F0 m 789 ls []) := by
  obtain ⟨hx, hb, hr, hml, hown, hts, hX, hbl, hlocks, hgv⟩ := C0
  have hown : s.vm.findClass RL = some m.cls := hown
  have hts : ∀ w ∈ wsL_law, w.before #[Value.ref b] s = true := fun w h => hts w (wsL_law_in w h)
  have hA : ∀ q : Nat, s.heap.size ≤ q → (fun q : Nat => s.heap.size ≤ q) q := fun _ h => h
  have hbA : ¬ (fun q : Nat => s.heap.size ≤ q) b := Nat.not_le.mpr hbl
  have hro : ce ≤ room_1.cells ∧ se ≤ room_1.slots := ⟨by omega, by omega⟩
  have hro1 : ce + 1 ≤ room_1.cells ∧ se + 6 ≤ room_1.slots := ⟨hce, hse⟩
  obtain ⟨hP, hD, hS, hGR, okv, hGo⟩ := hI
  have hP : va_P D vwCl (cb a cV cI cG v gg dn lt ch ++ (va_pl L f ++ mb bm cJ cZ v G dn lt ch (nI (cntG G 8)))) H := hP
  have hD : va_D (fun q : Nat => s.heap.size ≤ q) (cb a cV cI cG v gg dn lt ch ++ (va_pl L f ++ mb bm cJ cZ v G dn lt ch (nI (cntG G 8)))) := hD
  refine lv_aload_n hx hb dL_law_789 rfl (lv_at hl 2 rfl) ?_
  refine lv_aload_n hx hb dL_law_790 rfl (lv_at hl 1 rfl) ?_
  refine lv_iload_n hx hb dL_law_791 rfl (lv_at hl 0 rfl) ?_
  refine lv_iconst (v := 1) hx hb dL_law_792 (by decide) ?_
  refine lv_iadd hx hb dL_law_793 ?_
  rw [show nI i + 1 = nI (i + 1) from nI_add i 1]
  refine va_sld hx hb hX hbl hbA hS (vp_in_nI (show i + 1 < Ln by omega) (by omega)) dL_law_794 ?_
  rw [nI_clamp (show i + 1 < 2 ^ 31 by omega)]
  refine xc_R (wd := cb a cV cI cG v gg dn lt ch) (As := [.int (xs (i + 1))]) (rest := []) ⟨hx, hb, hml, hown, hts⟩ (c_X1_count l D a cV cI cG v gg dn lt ch G (gs_of hGR) (xs (i + 1))) (cwV 1 hts gL_law_X1_count rfl rfl rfl (by decide +kernel) ⟨Nat.le_of_ble_eq_true rfl, Nat.le_of_ble_eq_true rfl⟩) xMv0 trivial (xp_l hP) (hK.sub (tys' := cT cV cI cG) [0, 1, 2] rfl) (va_recv hK hP (ci := 1) (q0 := 0) rfl rfl) rfl hl.1 rfl (Nat.le_of_ble_eq_true rfl) dL_law_795 hro ?_
  refine lv_aload_n hx hb dL_law_798 rfl (lv_at hl 3 rfl) ?_
  refine lv_aload_n hx hb dL_law_799 rfl (lv_at hl 1 rfl) ?_
  refine lv_iload_n hx hb dL_law_800 rfl (lv_at hl 0 rfl) ?_
  refine lv_iconst (v := 1) hx hb dL_law_801 (by decide) ?_
  refine lv_iadd hx hb dL_law_802 ?_
  rw [show nI i + 1 = nI (i + 1) from nI_add i 1]
  refine va_sld hx hb hX hbl hbA hS (vp_in_nI (show i + 1 < Ln by omega) (by omega)) dL_law_803 ?_
  rw [nI_clamp (show i + 1 < 2 ^ 31 by omega)]
  have hPm := hP; rw [← List.append_assoc] at hPm
  have hPm := xp_c hPm
  refine xc_R (wd := mb bm cJ cZ v G dn lt ch (nI (cntG G 8))) (As := [.int (xs (i + 1))]) (rest := [.int (aCnt dn lt (nI (cntG G 8)) ch (xs (i + 1)))]) ⟨hx, hb, hml, hown, hts⟩ (c_X2_count l D bm cJ cZ v G dn lt ch (nI (cntG G 8)) (xs (i + 1))) (cwV 1 hts gL_law_X2_count rfl rfl rfl (by decide +kernel) ⟨Nat.le_of_ble_eq_true rfl, Nat.le_of_ble_eq_true rfl⟩) xMv0 trivial (xp_l hPm) (hK.sub (tys' := mT cJ cZ) [3, 4] rfl) (va_recv (hK.sub (tys' := mT cJ cZ) [3, 4] rfl) hPm (ci := 2) (q0 := 0) rfl rfl) rfl hl.1 rfl (Nat.le_of_ble_eq_true rfl) dL_law_804 hro ?_
  refine lv_icmp_eq (tgt := 812) hx hb dL_law_807 (by decide) (fun c_1 => ?_) (fun c_1 => absurd rfl c_1)
  refine W.widen (k := ce + 1) (n := se + 6) (by omega) (by omega) ?_
  exact nx v G gg L f dn lt ch H locs ls ⟨hP, hD, hS, hGR, okv, hGo⟩ (lv_sub hl [0, 1, 2, 3] rfl)
