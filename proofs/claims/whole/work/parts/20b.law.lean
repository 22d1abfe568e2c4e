/-! the law, case by case -/
set_option maxHeartbeats 4000000 in
set_option maxRecDepth 100000 in
theorem law_climb {p : Program} {l : Launch} {e : Env} {s : State} {m : MethodId} {below : List Frame} {meth : Method} {c : Code} {b Ln : Nat} {xs : Nat → Int32} (hL : Ln ≤ 3072) (C0 : lw_At p s m meth c b Ln xs) {D : va_G} {a bm : Nat → Nat} {cV cI cG cJ cZ : ClassId} (hK : va_K D vwCl (lT cV cI cG cJ cZ) s) (hN : nT s) {i ce se : Nat} (hi : i + 6 ≤ Ln) (hce : ce + 1 ≤ room_1.cells) (hse : se + 6 ≤ room_1.slots) (nx : lNext p l e s m below meth c D a bm cV cI cG cJ cZ b i (ce + 1) (se + 6)) {v : Nat → Nat → Int32} {G : Nat → Option GT} {gg : Nat → Option Nat} {L : List Nat} {f : Nat → va_E} {dn lt ch : Int32} {H : Heap} {locs : List Loc} {ls : Array Slot} (hI : lInv s D a bm cV cI cG cJ cZ v G gg L f dn lt ch H locs) (hl : lv_has ls 4 [(3, .int (nI i)), (0, .ref b), (1, .ref (a 0)), (2, .ref (bm 0))]) : W p l e room_1 s m #[Value.ref b] below meth c H locs ce se (lw_Z below #[Value.ref b] s) (F0 m 390 ls []) := by
  obtain ⟨hx, hb, hr, hml, hown, hts, hX, hbl, hlocks, hgv⟩ := C0
  have hown : s.vm.findClass RL = some m.cls := hown
  have hts : ∀ w ∈ wsL_law, w.before #[Value.ref b] s = true := fun w h => hts w (wsL_law_in w h)
  have hA : ∀ q : Nat, s.heap.size ≤ q → (fun q : Nat => s.heap.size ≤ q) q := fun _ h => h
  have hbA : ¬ (fun q : Nat => s.heap.size ≤ q) b := Nat.not_le.mpr hbl
  have hro : ce ≤ room_1.cells ∧ se ≤ room_1.slots := ⟨by omega, by omega⟩
  have hro1 : ce + 1 ≤ room_1.cells ∧ se + 6 ≤ room_1.slots := ⟨hce, hse⟩
  obtain ⟨hP, hD, hS, hGR, okv, hGo⟩ := hI
  have hP : va_P D vwCl (cb a cV cI cG v gg dn lt ch ++ (va_pl L f ++ mb bm cJ cZ v G dn lt ch (nI (cntG G 8)))) H := hP
  have hD : va_D (fun q : Nat => s.heap.size ≤ q) (cb a cV cI cG v gg dn lt ch ++ (va_pl L f ++ mb bm cJ cZ v G dn lt ch (nI (cntG G 8)))) := hD
  refine lv_aload_n hx hb dL_law_390 rfl (lv_at hl 2 rfl) ?_
  refine lv_aload_n hx hb dL_law_391 rfl (lv_at hl 1 rfl) ?_
  refine lv_iload_n hx hb dL_law_392 rfl (lv_at hl 0 rfl) ?_
  refine lv_iconst (v := 1) hx hb dL_law_393 (by decide) ?_
  refine lv_iadd hx hb dL_law_394 ?_
  rw [show nI i + 1 = nI (i + 1) from nI_add i 1]
  refine va_sld hx hb hX hbl hbA hS (vp_in_nI (show i + 1 < Ln by omega) (by omega)) dL_law_395 ?_
  rw [nI_clamp (show i + 1 < 2 ^ 31 by omega)]
  refine lv_aload_n hx hb dL_law_396 rfl (lv_at hl 1 rfl) ?_
  refine lv_iload_n hx hb dL_law_397 rfl (lv_at hl 0 rfl) ?_
  refine lv_iconst (v := 2) hx hb dL_law_398 (by decide) ?_
  refine lv_iadd hx hb dL_law_399 ?_
  rw [show nI i + 2 = nI (i + 2) from nI_add i 2]
  refine va_sld hx hb hX hbl hbA hS (vp_in_nI (show i + 2 < Ln by omega) (by omega)) dL_law_400 ?_
  rw [nI_clamp (show i + 2 < 2 ^ 31 by omega)]
  refine lv_aload_n hx hb dL_law_401 rfl (lv_at hl 1 rfl) ?_
  refine lv_iload_n hx hb dL_law_402 rfl (lv_at hl 0 rfl) ?_
  refine lv_iconst (v := 3) hx hb dL_law_403 (by decide) ?_
  refine lv_iadd hx hb dL_law_404 ?_
  rw [show nI i + 3 = nI (i + 3) from nI_add i 3]
  refine va_sld hx hb hX hbl hbA hS (vp_in_nI (show i + 3 < Ln by omega) (by omega)) dL_law_405 ?_
  rw [nI_clamp (show i + 3 < 2 ^ 31 by omega)]
  refine xc_R (wd := cb a cV cI cG v gg dn lt ch) (As := [.int (xs (i + 1)), .int (xs (i + 2)), .int (xs (i + 3))]) (rest := []) ⟨hx, hb, hml, hown, hts⟩ (c_X1_climb l D a cV cI cG v gg dn lt ch (xs (i + 1)) (xs (i + 2)) (xs (i + 3))) (cwV 3 hts gL_law_X1_climb rfl rfl rfl (by decide +kernel) ⟨Nat.le_of_ble_eq_true rfl, Nat.le_of_ble_eq_true rfl⟩) xMv0 trivial (xp_l hP) (hK.sub (tys' := cT cV cI cG) [0, 1, 2] rfl) (va_recv hK hP (ci := 1) (q0 := 0) rfl rfl) rfl hl.1 rfl (Nat.le_of_ble_eq_true rfl) dL_law_406 hro ?_
  refine lv_aload_n hx hb dL_law_409 rfl (lv_at hl 3 rfl) ?_
  refine lv_aload_n hx hb dL_law_410 rfl (lv_at hl 1 rfl) ?_
  refine lv_iload_n hx hb dL_law_411 rfl (lv_at hl 0 rfl) ?_
  refine lv_iconst (v := 1) hx hb dL_law_412 (by decide) ?_
  refine lv_iadd hx hb dL_law_413 ?_
  rw [show nI i + 1 = nI (i + 1) from nI_add i 1]
  refine va_sld hx hb hX hbl hbA hS (vp_in_nI (show i + 1 < Ln by omega) (by omega)) dL_law_414 ?_
  rw [nI_clamp (show i + 1 < 2 ^ 31 by omega)]
  refine lv_aload_n hx hb dL_law_415 rfl (lv_at hl 1 rfl) ?_
  refine lv_iload_n hx hb dL_law_416 rfl (lv_at hl 0 rfl) ?_
  refine lv_iconst (v := 2) hx hb dL_law_417 (by decide) ?_
  refine lv_iadd hx hb dL_law_418 ?_
  rw [show nI i + 2 = nI (i + 2) from nI_add i 2]
  refine va_sld hx hb hX hbl hbA hS (vp_in_nI (show i + 2 < Ln by omega) (by omega)) dL_law_419 ?_
  rw [nI_clamp (show i + 2 < 2 ^ 31 by omega)]
  refine lv_aload_n hx hb dL_law_420 rfl (lv_at hl 1 rfl) ?_
  refine lv_iload_n hx hb dL_law_421 rfl (lv_at hl 0 rfl) ?_
  refine lv_iconst (v := 3) hx hb dL_law_422 (by decide) ?_
  refine lv_iadd hx hb dL_law_423 ?_
  rw [show nI i + 3 = nI (i + 3) from nI_add i 3]
  refine va_sld hx hb hX hbl hbA hS (vp_in_nI (show i + 3 < Ln by omega) (by omega)) dL_law_424 ?_
  rw [nI_clamp (show i + 3 < 2 ^ 31 by omega)]
  have hPm := hP; rw [← List.append_assoc] at hPm
  have hPm := xp_c hPm
  refine xc_R (wd := mb bm cJ cZ v G dn lt ch (nI (cntG G 8))) (As := [.int (xs (i + 1)), .int (xs (i + 2)), .int (xs (i + 3))]) (rest := [.int (aClim v (xs (i + 1)) (xs (i + 2)) (xs (i + 3)))]) ⟨hx, hb, hml, hown, hts⟩ (c_X2_climb l D bm cJ cZ v G dn lt ch (nI (cntG G 8)) (xs (i + 1)) (xs (i + 2)) (xs (i + 3)) okv) (cwV 3 hts gL_law_X2_climb rfl rfl rfl (by decide +kernel) ⟨Nat.le_of_ble_eq_true rfl, Nat.le_of_ble_eq_true rfl⟩) xMv0 trivial (xp_l hPm) (hK.sub (tys' := mT cJ cZ) [3, 4] rfl) (va_recv (hK.sub (tys' := mT cJ cZ) [3, 4] rfl) hPm (ci := 2) (q0 := 0) rfl rfl) rfl hl.1 rfl (Nat.le_of_ble_eq_true rfl) dL_law_425 hro ?_
  refine lv_icmp_eq (tgt := 812) hx hb dL_law_428 (by decide) (fun c_1 => ?_) (fun c_1 => absurd rfl c_1)
  refine W.widen (k := ce + 1) (n := se + 6) (by omega) (by omega) ?_
  exact nx v G gg L f dn lt ch H locs ls ⟨hP, hD, hS, hGR, okv, hGo⟩ (lv_sub hl [0, 1, 2, 3] rfl)
set_option maxHeartbeats 4000000 in
set_option maxRecDepth 100000 in
theorem law_first {p : Program} {l : Launch} {e : Env} {s : State} {m : MethodId} {below : List Frame} {meth : Method} {c : Code} {b Ln : Nat} {xs : Nat → Int32} (hL : Ln ≤ 3072) (C0 : lw_At p s m meth c b Ln xs) {D : va_G} {a bm : Nat → Nat} {cV cI cG cJ cZ : ClassId} (hK : va_K D vwCl (lT cV cI cG cJ cZ) s) (hN : nT s) {i ce se : Nat} (hi : i + 6 ≤ Ln) (hce : ce + 1 ≤ room_1.cells) (hse : se + 6 ≤ room_1.slots) (nx : lNext p l e s m below meth c D a bm cV cI cG cJ cZ b i (ce + 1) (se + 6)) {v : Nat → Nat → Int32} {G : Nat → Option GT} {gg : Nat → Option Nat} {L : List Nat} {f : Nat → va_E} {dn lt ch : Int32} {H : Heap} {locs : List Loc} {ls : Array Slot} (hI : lInv s D a bm cV cI cG cJ cZ v G gg L f dn lt ch H locs) (hl : lv_has ls 4 [(3, .int (nI i)), (0, .ref b), (1, .ref (a 0)), (2, .ref (bm 0))]) : W p l e room_1 s m #[Value.ref b] below meth c H locs ce se (lw_Z below #[Value.ref b] s) (F0 m 433 ls []) := by
  obtain ⟨hx, hb, hr, hml, hown, hts, hX, hbl, hlocks, hgv⟩ := C0
  have hown : s.vm.findClass RL = some m.cls := hown
  have hts : ∀ w ∈ wsL_law, w.before #[Value.ref b] s = true := fun w h => hts w (wsL_law_in w h)
  have hA : ∀ q : Nat, s.heap.size ≤ q → (fun q : Nat => s.heap.size ≤ q) q := fun _ h => h
  have hbA : ¬ (fun q : Nat => s.heap.size ≤ q) b := Nat.not_le.mpr hbl
  have hro : ce ≤ room_1.cells ∧ se ≤ room_1.slots := ⟨by omega, by omega⟩
  have hro1 : ce + 1 ≤ room_1.cells ∧ se + 6 ≤ room_1.slots := ⟨hce, hse⟩
  obtain ⟨hP, hD, hS, hGR, okv, hGo⟩ := hI
  have hP : va_P D vwCl (cb a cV cI cG v gg dn lt ch ++ (va_pl L f ++ mb bm cJ cZ v G dn lt ch (nI (cntG G 8)))) H := hP
  have hD : va_D (fun q : Nat => s.heap.size ≤ q) (cb a cV cI cG v gg dn lt ch ++ (va_pl L f ++ mb bm cJ cZ v G dn lt ch (nI (cntG G 8)))) := hD
  by_cases hz : xs (i + 4) = 0
  · refine lv_aload_n hx hb dL_law_433 rfl (lv_at hl 2 rfl) ?_
    refine lv_aload_n hx hb dL_law_434 rfl (lv_at hl 1 rfl) ?_
    refine lv_iload_n hx hb dL_law_435 rfl (lv_at hl 0 rfl) ?_
    refine lv_iconst (v := 1) hx hb dL_law_436 (by decide) ?_
    refine lv_iadd hx hb dL_law_437 ?_
    rw [show nI i + 1 = nI (i + 1) from nI_add i 1]
    refine va_sld hx hb hX hbl hbA hS (vp_in_nI (show i + 1 < Ln by omega) (by omega)) dL_law_438 ?_
    rw [nI_clamp (show i + 1 < 2 ^ 31 by omega)]
    refine lv_aload_n hx hb dL_law_439 rfl (lv_at hl 1 rfl) ?_
    refine lv_iload_n hx hb dL_law_440 rfl (lv_at hl 0 rfl) ?_
    refine lv_iconst (v := 2) hx hb dL_law_441 (by decide) ?_
    refine lv_iadd hx hb dL_law_442 ?_
    rw [show nI i + 2 = nI (i + 2) from nI_add i 2]
    refine va_sld hx hb hX hbl hbA hS (vp_in_nI (show i + 2 < Ln by omega) (by omega)) dL_law_443 ?_
    rw [nI_clamp (show i + 2 < 2 ^ 31 by omega)]
    refine lv_aload_n hx hb dL_law_444 rfl (lv_at hl 1 rfl) ?_
    refine lv_iload_n hx hb dL_law_445 rfl (lv_at hl 0 rfl) ?_
    refine lv_iconst (v := 3) hx hb dL_law_446 (by decide) ?_
    refine lv_iadd hx hb dL_law_447 ?_
    rw [show nI i + 3 = nI (i + 3) from nI_add i 3]
    refine va_sld hx hb hX hbl hbA hS (vp_in_nI (show i + 3 < Ln by omega) (by omega)) dL_law_448 ?_
    rw [nI_clamp (show i + 3 < 2 ^ 31 by omega)]
    refine lv_aload_n hx hb dL_law_449 rfl (lv_at hl 1 rfl) ?_
    refine lv_iload_n hx hb dL_law_450 rfl (lv_at hl 0 rfl) ?_
    refine lv_iconst (v := 4) hx hb dL_law_451 (by decide) ?_
    refine lv_iadd hx hb dL_law_452 ?_
    rw [show nI i + 4 = nI (i + 4) from nI_add i 4]
    refine va_sld hx hb hX hbl hbA hS (vp_in_nI (show i + 4 < Ln by omega) (by omega)) dL_law_453 ?_
    rw [nI_clamp (show i + 4 < 2 ^ 31 by omega)]
    refine lv_if_eq (tgt := 461) hx hb dL_law_454 (by decide) (fun c_1 => ?_) (fun c_1 => absurd hz c_1)
    refine lv_iconst (v := 0) hx hb dL_law_461 (by decide) ?_
    refine W.eq (g2 := F0 m 462 ls [.int (b2i false), .int (xs (i + 3)), .int (xs (i + 2)), .int (xs (i + 1)), .ref (a 0)]) rfl ?_
    refine xc_R (wd := cb a cV cI cG v gg dn lt ch) (As := [.int (xs (i + 1)), .int (xs (i + 2)), .int (xs (i + 3)), .int (b2i false)]) (rest := []) ⟨hx, hb, hml, hown, hts⟩ (c_X1_first l D a cV cI cG v gg dn lt ch (xs (i + 1)) (xs (i + 2)) (xs (i + 3)) false) (cwV 4 hts gL_law_X1_first rfl rfl rfl (by decide +kernel) ⟨Nat.le_of_ble_eq_true rfl, Nat.le_of_ble_eq_true rfl⟩) xMv0 trivial (xp_l hP) (hK.sub (tys' := cT cV cI cG) [0, 1, 2] rfl) (va_recv hK hP (ci := 1) (q0 := 0) rfl rfl) rfl hl.1 rfl (Nat.le_of_ble_eq_true rfl) dL_law_462 hro ?_
    refine lv_aload_n hx hb dL_law_465 rfl (lv_at hl 3 rfl) ?_
    refine lv_aload_n hx hb dL_law_466 rfl (lv_at hl 1 rfl) ?_
    refine lv_iload_n hx hb dL_law_467 rfl (lv_at hl 0 rfl) ?_
    refine lv_iconst (v := 1) hx hb dL_law_468 (by decide) ?_
    refine lv_iadd hx hb dL_law_469 ?_
    rw [show nI i + 1 = nI (i + 1) from nI_add i 1]
    refine va_sld hx hb hX hbl hbA hS (vp_in_nI (show i + 1 < Ln by omega) (by omega)) dL_law_470 ?_
    rw [nI_clamp (show i + 1 < 2 ^ 31 by omega)]
    refine lv_aload_n hx hb dL_law_471 rfl (lv_at hl 1 rfl) ?_
    refine lv_iload_n hx hb dL_law_472 rfl (lv_at hl 0 rfl) ?_
    refine lv_iconst (v := 2) hx hb dL_law_473 (by decide) ?_
    refine lv_iadd hx hb dL_law_474 ?_
    rw [show nI i + 2 = nI (i + 2) from nI_add i 2]
    refine va_sld hx hb hX hbl hbA hS (vp_in_nI (show i + 2 < Ln by omega) (by omega)) dL_law_475 ?_
    rw [nI_clamp (show i + 2 < 2 ^ 31 by omega)]
    refine lv_aload_n hx hb dL_law_476 rfl (lv_at hl 1 rfl) ?_
    refine lv_iload_n hx hb dL_law_477 rfl (lv_at hl 0 rfl) ?_
    refine lv_iconst (v := 3) hx hb dL_law_478 (by decide) ?_
    refine lv_iadd hx hb dL_law_479 ?_
    rw [show nI i + 3 = nI (i + 3) from nI_add i 3]
    refine va_sld hx hb hX hbl hbA hS (vp_in_nI (show i + 3 < Ln by omega) (by omega)) dL_law_480 ?_
    rw [nI_clamp (show i + 3 < 2 ^ 31 by omega)]
    refine lv_aload_n hx hb dL_law_481 rfl (lv_at hl 1 rfl) ?_
    refine lv_iload_n hx hb dL_law_482 rfl (lv_at hl 0 rfl) ?_
    refine lv_iconst (v := 4) hx hb dL_law_483 (by decide) ?_
    refine lv_iadd hx hb dL_law_484 ?_
    rw [show nI i + 4 = nI (i + 4) from nI_add i 4]
    refine va_sld hx hb hX hbl hbA hS (vp_in_nI (show i + 4 < Ln by omega) (by omega)) dL_law_485 ?_
    rw [nI_clamp (show i + 4 < 2 ^ 31 by omega)]
    refine lv_if_eq (tgt := 493) hx hb dL_law_486 (by decide) (fun c_2 => ?_) (fun c_2 => absurd hz c_2)
    refine lv_iconst (v := 0) hx hb dL_law_493 (by decide) ?_
    refine W.eq (g2 := F0 m 494 ls [.int (b2i false), .int (xs (i + 3)), .int (xs (i + 2)), .int (xs (i + 1)), .ref (bm 0), .int (aFirs v (xs (i + 1)) (xs (i + 2)) (xs (i + 3)) false)]) rfl ?_
    have hPm := hP; rw [← List.append_assoc] at hPm
    have hPm := xp_c hPm
    refine xc_R (wd := mb bm cJ cZ v G dn lt ch (nI (cntG G 8))) (As := [.int (xs (i + 1)), .int (xs (i + 2)), .int (xs (i + 3)), .int (b2i false)]) (rest := [.int (aFirs v (xs (i + 1)) (xs (i + 2)) (xs (i + 3)) false)]) ⟨hx, hb, hml, hown, hts⟩ (c_X2_first l D bm cJ cZ v G dn lt ch (nI (cntG G 8)) (xs (i + 1)) (xs (i + 2)) (xs (i + 3)) false okv) (cwV 4 hts gL_law_X2_first rfl rfl rfl (by decide +kernel) ⟨Nat.le_of_ble_eq_true rfl, Nat.le_of_ble_eq_true rfl⟩) xMv0 trivial (xp_l hPm) (hK.sub (tys' := mT cJ cZ) [3, 4] rfl) (va_recv (hK.sub (tys' := mT cJ cZ) [3, 4] rfl) hPm (ci := 2) (q0 := 0) rfl rfl) rfl hl.1 rfl (Nat.le_of_ble_eq_true rfl) dL_law_494 hro ?_
    refine lv_icmp_eq (tgt := 812) hx hb dL_law_497 (by decide) (fun c_3 => ?_) (fun c_3 => absurd rfl c_3)
    refine W.widen (k := ce + 1) (n := se + 6) (by omega) (by omega) ?_
    exact nx v G gg L f dn lt ch H locs ls ⟨hP, hD, hS, hGR, okv, hGo⟩ (lv_sub hl [0, 1, 2, 3] rfl)
  · refine lv_aload_n hx hb dL_law_433 rfl (lv_at hl 2 rfl) ?_
    refine lv_aload_n hx hb dL_law_434 rfl (lv_at hl 1 rfl) ?_
    refine lv_iload_n hx hb dL_law_435 rfl (lv_at hl 0 rfl) ?_
    refine lv_iconst (v := 1) hx hb dL_law_436 (by decide) ?_
    refine lv_iadd hx hb dL_law_437 ?_
    rw [show nI i + 1 = nI (i + 1) from nI_add i 1]
    refine va_sld hx hb hX hbl hbA hS (vp_in_nI (show i + 1 < Ln by omega) (by omega)) dL_law_438 ?_
    rw [nI_clamp (show i + 1 < 2 ^ 31 by omega)]
    refine lv_aload_n hx hb dL_law_439 rfl (lv_at hl 1 rfl) ?_
    refine lv_iload_n hx hb dL_law_440 rfl (lv_at hl 0 rfl) ?_
    refine lv_iconst (v := 2) hx hb dL_law_441 (by decide) ?_
    refine lv_iadd hx hb dL_law_442 ?_
    rw [show nI i + 2 = nI (i + 2) from nI_add i 2]
    refine va_sld hx hb hX hbl hbA hS (vp_in_nI (show i + 2 < Ln by omega) (by omega)) dL_law_443 ?_
    rw [nI_clamp (show i + 2 < 2 ^ 31 by omega)]
    refine lv_aload_n hx hb dL_law_444 rfl (lv_at hl 1 rfl) ?_
    refine lv_iload_n hx hb dL_law_445 rfl (lv_at hl 0 rfl) ?_
    refine lv_iconst (v := 3) hx hb dL_law_446 (by decide) ?_
    refine lv_iadd hx hb dL_law_447 ?_
    rw [show nI i + 3 = nI (i + 3) from nI_add i 3]
    refine va_sld hx hb hX hbl hbA hS (vp_in_nI (show i + 3 < Ln by omega) (by omega)) dL_law_448 ?_
    rw [nI_clamp (show i + 3 < 2 ^ 31 by omega)]
    refine lv_aload_n hx hb dL_law_449 rfl (lv_at hl 1 rfl) ?_
    refine lv_iload_n hx hb dL_law_450 rfl (lv_at hl 0 rfl) ?_
    refine lv_iconst (v := 4) hx hb dL_law_451 (by decide) ?_
    refine lv_iadd hx hb dL_law_452 ?_
    rw [show nI i + 4 = nI (i + 4) from nI_add i 4]
    refine va_sld hx hb hX hbl hbA hS (vp_in_nI (show i + 4 < Ln by omega) (by omega)) dL_law_453 ?_
    rw [nI_clamp (show i + 4 < 2 ^ 31 by omega)]
    refine lv_if_eq (tgt := 461) hx hb dL_law_454 (by decide) (fun c_4 => absurd c_4 hz) (fun c_4 => ?_)
    refine lv_iconst (v := 1) hx hb dL_law_457 (by decide) ?_
    refine lv_goto (tgt := 462) hx hb dL_law_458 (by decide) ?_
    refine W.eq (g2 := F0 m 462 ls [.int (b2i true), .int (xs (i + 3)), .int (xs (i + 2)), .int (xs (i + 1)), .ref (a 0)]) rfl ?_
    refine xc_R (wd := cb a cV cI cG v gg dn lt ch) (As := [.int (xs (i + 1)), .int (xs (i + 2)), .int (xs (i + 3)), .int (b2i true)]) (rest := []) ⟨hx, hb, hml, hown, hts⟩ (c_X1_first l D a cV cI cG v gg dn lt ch (xs (i + 1)) (xs (i + 2)) (xs (i + 3)) true) (cwV 4 hts gL_law_X1_first rfl rfl rfl (by decide +kernel) ⟨Nat.le_of_ble_eq_true rfl, Nat.le_of_ble_eq_true rfl⟩) xMv0 trivial (xp_l hP) (hK.sub (tys' := cT cV cI cG) [0, 1, 2] rfl) (va_recv hK hP (ci := 1) (q0 := 0) rfl rfl) rfl hl.1 rfl (Nat.le_of_ble_eq_true rfl) dL_law_462 hro ?_
    refine lv_aload_n hx hb dL_law_465 rfl (lv_at hl 3 rfl) ?_
    refine lv_aload_n hx hb dL_law_466 rfl (lv_at hl 1 rfl) ?_
    refine lv_iload_n hx hb dL_law_467 rfl (lv_at hl 0 rfl) ?_
    refine lv_iconst (v := 1) hx hb dL_law_468 (by decide) ?_
    refine lv_iadd hx hb dL_law_469 ?_
    rw [show nI i + 1 = nI (i + 1) from nI_add i 1]
    refine va_sld hx hb hX hbl hbA hS (vp_in_nI (show i + 1 < Ln by omega) (by omega)) dL_law_470 ?_
    rw [nI_clamp (show i + 1 < 2 ^ 31 by omega)]
    refine lv_aload_n hx hb dL_law_471 rfl (lv_at hl 1 rfl) ?_
    refine lv_iload_n hx hb dL_law_472 rfl (lv_at hl 0 rfl) ?_
    refine lv_iconst (v := 2) hx hb dL_law_473 (by decide) ?_
    refine lv_iadd hx hb dL_law_474 ?_
    rw [show nI i + 2 = nI (i + 2) from nI_add i 2]
    refine va_sld hx hb hX hbl hbA hS (vp_in_nI (show i + 2 < Ln by omega) (by omega)) dL_law_475 ?_
    rw [nI_clamp (show i + 2 < 2 ^ 31 by omega)]
    refine lv_aload_n hx hb dL_law_476 rfl (lv_at hl 1 rfl) ?_
    refine lv_iload_n hx hb dL_law_477 rfl (lv_at hl 0 rfl) ?_
    refine lv_iconst (v := 3) hx hb dL_law_478 (by decide) ?_
    refine lv_iadd hx hb dL_law_479 ?_
    rw [show nI i + 3 = nI (i + 3) from nI_add i 3]
    refine va_sld hx hb hX hbl hbA hS (vp_in_nI (show i + 3 < Ln by omega) (by omega)) dL_law_480 ?_
    rw [nI_clamp (show i + 3 < 2 ^ 31 by omega)]
    refine lv_aload_n hx hb dL_law_481 rfl (lv_at hl 1 rfl) ?_
    refine lv_iload_n hx hb dL_law_482 rfl (lv_at hl 0 rfl) ?_
    refine lv_iconst (v := 4) hx hb dL_law_483 (by decide) ?_
    refine lv_iadd hx hb dL_law_484 ?_
    rw [show nI i + 4 = nI (i + 4) from nI_add i 4]
    refine va_sld hx hb hX hbl hbA hS (vp_in_nI (show i + 4 < Ln by omega) (by omega)) dL_law_485 ?_
    rw [nI_clamp (show i + 4 < 2 ^ 31 by omega)]
    refine lv_if_eq (tgt := 493) hx hb dL_law_486 (by decide) (fun c_5 => absurd c_5 hz) (fun c_5 => ?_)
    refine lv_iconst (v := 1) hx hb dL_law_489 (by decide) ?_
    refine lv_goto (tgt := 494) hx hb dL_law_490 (by decide) ?_
    refine W.eq (g2 := F0 m 494 ls [.int (b2i true), .int (xs (i + 3)), .int (xs (i + 2)), .int (xs (i + 1)), .ref (bm 0), .int (aFirs v (xs (i + 1)) (xs (i + 2)) (xs (i + 3)) true)]) rfl ?_
    have hPm := hP; rw [← List.append_assoc] at hPm
    have hPm := xp_c hPm
    refine xc_R (wd := mb bm cJ cZ v G dn lt ch (nI (cntG G 8))) (As := [.int (xs (i + 1)), .int (xs (i + 2)), .int (xs (i + 3)), .int (b2i true)]) (rest := [.int (aFirs v (xs (i + 1)) (xs (i + 2)) (xs (i + 3)) true)]) ⟨hx, hb, hml, hown, hts⟩ (c_X2_first l D bm cJ cZ v G dn lt ch (nI (cntG G 8)) (xs (i + 1)) (xs (i + 2)) (xs (i + 3)) true okv) (cwV 4 hts gL_law_X2_first rfl rfl rfl (by decide +kernel) ⟨Nat.le_of_ble_eq_true rfl, Nat.le_of_ble_eq_true rfl⟩) xMv0 trivial (xp_l hPm) (hK.sub (tys' := mT cJ cZ) [3, 4] rfl) (va_recv (hK.sub (tys' := mT cJ cZ) [3, 4] rfl) hPm (ci := 2) (q0 := 0) rfl rfl) rfl hl.1 rfl (Nat.le_of_ble_eq_true rfl) dL_law_494 hro ?_
    refine lv_icmp_eq (tgt := 812) hx hb dL_law_497 (by decide) (fun c_6 => ?_) (fun c_6 => absurd rfl c_6)
    refine W.widen (k := ce + 1) (n := se + 6) (by omega) (by omega) ?_
    exact nx v G gg L f dn lt ch H locs ls ⟨hP, hD, hS, hGR, okv, hGo⟩ (lv_sub hl [0, 1, 2, 3] rfl)
set_option maxHeartbeats 4000000 in
set_option maxRecDepth 100000 in
theorem law_best {p : Program} {l : Launch} {e : Env} {s : State} {m : MethodId} {below : List Frame} {meth : Method} {c : Code} {b Ln : Nat} {xs : Nat → Int32} (hL : Ln ≤ 3072) (C0 : lw_At p s m meth c b Ln xs) {D : va_G} {a bm : Nat → Nat} {cV cI cG cJ cZ : ClassId} (hK : va_K D vwCl (lT cV cI cG cJ cZ) s) (hN : nT s) {i ce se : Nat} (hi : i + 6 ≤ Ln) (hce : ce + 1 ≤ room_1.cells) (hse : se + 6 ≤ room_1.slots) (nx : lNext p l e s m below meth c D a bm cV cI cG cJ cZ b i (ce + 1) (se + 6)) {v : Nat → Nat → Int32} {G : Nat → Option GT} {gg : Nat → Option Nat} {L : List Nat} {f : Nat → va_E} {dn lt ch : Int32} {H : Heap} {locs : List Loc} {ls : Array Slot} (hI : lInv s D a bm cV cI cG cJ cZ v G gg L f dn lt ch H locs) (hl : lv_has ls 4 [(3, .int (nI i)), (0, .ref b), (1, .ref (a 0)), (2, .ref (bm 0))]) : W p l e room_1 s m #[Value.ref b] below meth c H locs ce se (lw_Z below #[Value.ref b] s) (F0 m 502 ls []) := by
  obtain ⟨hx, hb, hr, hml, hown, hts, hX, hbl, hlocks, hgv⟩ := C0
  have hown : s.vm.findClass RL = some m.cls := hown
  have hts : ∀ w ∈ wsL_law, w.before #[Value.ref b] s = true := fun w h => hts w (wsL_law_in w h)
  have hA : ∀ q : Nat, s.heap.size ≤ q → (fun q : Nat => s.heap.size ≤ q) q := fun _ h => h
  have hbA : ¬ (fun q : Nat => s.heap.size ≤ q) b := Nat.not_le.mpr hbl
  have hro : ce ≤ room_1.cells ∧ se ≤ room_1.slots := ⟨by omega, by omega⟩
  have hro1 : ce + 1 ≤ room_1.cells ∧ se + 6 ≤ room_1.slots := ⟨hce, hse⟩
  obtain ⟨hP, hD, hS, hGR, okv, hGo⟩ := hI
  have hP : va_P D vwCl (cb a cV cI cG v gg dn lt ch ++ (va_pl L f ++ mb bm cJ cZ v G dn lt ch (nI (cntG G 8)))) H := hP
  have hD : va_D (fun q : Nat => s.heap.size ≤ q) (cb a cV cI cG v gg dn lt ch ++ (va_pl L f ++ mb bm cJ cZ v G dn lt ch (nI (cntG G 8)))) := hD
  by_cases hz : xs (i + 3) = 0
  · refine lv_aload_n hx hb dL_law_502 rfl (lv_at hl 2 rfl) ?_
    refine lv_aload_n hx hb dL_law_503 rfl (lv_at hl 1 rfl) ?_
    refine lv_iload_n hx hb dL_law_504 rfl (lv_at hl 0 rfl) ?_
    refine lv_iconst (v := 1) hx hb dL_law_505 (by decide) ?_
    refine lv_iadd hx hb dL_law_506 ?_
    rw [show nI i + 1 = nI (i + 1) from nI_add i 1]
    refine va_sld hx hb hX hbl hbA hS (vp_in_nI (show i + 1 < Ln by omega) (by omega)) dL_law_507 ?_
    rw [nI_clamp (show i + 1 < 2 ^ 31 by omega)]
    refine lv_aload_n hx hb dL_law_508 rfl (lv_at hl 1 rfl) ?_
    refine lv_iload_n hx hb dL_law_509 rfl (lv_at hl 0 rfl) ?_
    refine lv_iconst (v := 2) hx hb dL_law_510 (by decide) ?_
    refine lv_iadd hx hb dL_law_511 ?_
    rw [show nI i + 2 = nI (i + 2) from nI_add i 2]
    refine va_sld hx hb hX hbl hbA hS (vp_in_nI (show i + 2 < Ln by omega) (by omega)) dL_law_512 ?_
    rw [nI_clamp (show i + 2 < 2 ^ 31 by omega)]
    refine lv_aload_n hx hb dL_law_513 rfl (lv_at hl 1 rfl) ?_
    refine lv_iload_n hx hb dL_law_514 rfl (lv_at hl 0 rfl) ?_
    refine lv_iconst (v := 3) hx hb dL_law_515 (by decide) ?_
    refine lv_iadd hx hb dL_law_516 ?_
    rw [show nI i + 3 = nI (i + 3) from nI_add i 3]
    refine va_sld hx hb hX hbl hbA hS (vp_in_nI (show i + 3 < Ln by omega) (by omega)) dL_law_517 ?_
    rw [nI_clamp (show i + 3 < 2 ^ 31 by omega)]
    refine lv_if_eq (tgt := 525) hx hb dL_law_518 (by decide) (fun c_1 => ?_) (fun c_1 => absurd hz c_1)
    refine lv_iconst (v := 0) hx hb dL_law_525 (by decide) ?_
    refine W.eq (g2 := F0 m 526 ls [.int (b2i false), .int (xs (i + 2)), .int (xs (i + 1)), .ref (a 0)]) rfl ?_
    refine xc_R (wd := cb a cV cI cG v gg dn lt ch) (As := [.int (xs (i + 1)), .int (xs (i + 2)), .int (b2i false)]) (rest := []) ⟨hx, hb, hml, hown, hts⟩ (c_X1_best l D a cV cI cG v gg dn lt ch (xs (i + 1)) (xs (i + 2)) false) (cwV 3 hts gL_law_X1_best rfl rfl rfl (by decide +kernel) ⟨Nat.le_of_ble_eq_true rfl, Nat.le_of_ble_eq_true rfl⟩) xMv0 trivial (xp_l hP) (hK.sub (tys' := cT cV cI cG) [0, 1, 2] rfl) (va_recv hK hP (ci := 1) (q0 := 0) rfl rfl) rfl hl.1 rfl (Nat.le_of_ble_eq_true rfl) dL_law_526 hro ?_
    refine lv_aload_n hx hb dL_law_529 rfl (lv_at hl 3 rfl) ?_
    refine lv_aload_n hx hb dL_law_530 rfl (lv_at hl 1 rfl) ?_
    refine lv_iload_n hx hb dL_law_531 rfl (lv_at hl 0 rfl) ?_
    refine lv_iconst (v := 1) hx hb dL_law_532 (by decide) ?_
    refine lv_iadd hx hb dL_law_533 ?_
    rw [show nI i + 1 = nI (i + 1) from nI_add i 1]
    refine va_sld hx hb hX hbl hbA hS (vp_in_nI (show i + 1 < Ln by omega) (by omega)) dL_law_534 ?_
    rw [nI_clamp (show i + 1 < 2 ^ 31 by omega)]
    refine lv_aload_n hx hb dL_law_535 rfl (lv_at hl 1 rfl) ?_
    refine lv_iload_n hx hb dL_law_536 rfl (lv_at hl 0 rfl) ?_
    refine lv_iconst (v := 2) hx hb dL_law_537 (by decide) ?_
    refine lv_iadd hx hb dL_law_538 ?_
    rw [show nI i + 2 = nI (i + 2) from nI_add i 2]
    refine va_sld hx hb hX hbl hbA hS (vp_in_nI (show i + 2 < Ln by omega) (by omega)) dL_law_539 ?_
    rw [nI_clamp (show i + 2 < 2 ^ 31 by omega)]
    refine lv_aload_n hx hb dL_law_540 rfl (lv_at hl 1 rfl) ?_
    refine lv_iload_n hx hb dL_law_541 rfl (lv_at hl 0 rfl) ?_
    refine lv_iconst (v := 3) hx hb dL_law_542 (by decide) ?_
    refine lv_iadd hx hb dL_law_543 ?_
    rw [show nI i + 3 = nI (i + 3) from nI_add i 3]
    refine va_sld hx hb hX hbl hbA hS (vp_in_nI (show i + 3 < Ln by omega) (by omega)) dL_law_544 ?_
    rw [nI_clamp (show i + 3 < 2 ^ 31 by omega)]
    refine lv_if_eq (tgt := 552) hx hb dL_law_545 (by decide) (fun c_2 => ?_) (fun c_2 => absurd hz c_2)
    refine lv_iconst (v := 0) hx hb dL_law_552 (by decide) ?_
    refine W.eq (g2 := F0 m 553 ls [.int (b2i false), .int (xs (i + 2)), .int (xs (i + 1)), .ref (bm 0), .int (aBest v (xs (i + 1)) (xs (i + 2)) false)]) rfl ?_
    have hPm := hP; rw [← List.append_assoc] at hPm
    have hPm := xp_c hPm
    refine xc_R (wd := mb bm cJ cZ v G dn lt ch (nI (cntG G 8))) (As := [.int (xs (i + 1)), .int (xs (i + 2)), .int (b2i false)]) (rest := [.int (aBest v (xs (i + 1)) (xs (i + 2)) false)]) ⟨hx, hb, hml, hown, hts⟩ (c_X2_best l D bm cJ cZ v G dn lt ch (nI (cntG G 8)) (xs (i + 1)) (xs (i + 2)) false okv) (cwV 3 hts gL_law_X2_best rfl rfl rfl (by decide +kernel) ⟨Nat.le_of_ble_eq_true rfl, Nat.le_of_ble_eq_true rfl⟩) xMv0 trivial (xp_l hPm) (hK.sub (tys' := mT cJ cZ) [3, 4] rfl) (va_recv (hK.sub (tys' := mT cJ cZ) [3, 4] rfl) hPm (ci := 2) (q0 := 0) rfl rfl) rfl hl.1 rfl (Nat.le_of_ble_eq_true rfl) dL_law_553 hro ?_
    refine lv_icmp_eq (tgt := 812) hx hb dL_law_556 (by decide) (fun c_3 => ?_) (fun c_3 => absurd rfl c_3)
    refine W.widen (k := ce + 1) (n := se + 6) (by omega) (by omega) ?_
    exact nx v G gg L f dn lt ch H locs ls ⟨hP, hD, hS, hGR, okv, hGo⟩ (lv_sub hl [0, 1, 2, 3] rfl)
  · refine lv_aload_n hx hb dL_law_502 rfl (lv_at hl 2 rfl) ?_
    refine lv_aload_n hx hb dL_law_503 rfl (lv_at hl 1 rfl) ?_
    refine lv_iload_n hx hb dL_law_504 rfl (lv_at hl 0 rfl) ?_
    refine lv_iconst (v := 1) hx hb dL_law_505 (by decide) ?_
    refine lv_iadd hx hb dL_law_506 ?_
    rw [show nI i + 1 = nI (i + 1) from nI_add i 1]
    refine va_sld hx hb hX hbl hbA hS (vp_in_nI (show i + 1 < Ln by omega) (by omega)) dL_law_507 ?_
    rw [nI_clamp (show i + 1 < 2 ^ 31 by omega)]
    refine lv_aload_n hx hb dL_law_508 rfl (lv_at hl 1 rfl) ?_
    refine lv_iload_n hx hb dL_law_509 rfl (lv_at hl 0 rfl) ?_
    refine lv_iconst (v := 2) hx hb dL_law_510 (by decide) ?_
    refine lv_iadd hx hb dL_law_511 ?_
    rw [show nI i + 2 = nI (i + 2) from nI_add i 2]
    refine va_sld hx hb hX hbl hbA hS (vp_in_nI (show i + 2 < Ln by omega) (by omega)) dL_law_512 ?_
    rw [nI_clamp (show i + 2 < 2 ^ 31 by omega)]
    refine lv_aload_n hx hb dL_law_513 rfl (lv_at hl 1 rfl) ?_
    refine lv_iload_n hx hb dL_law_514 rfl (lv_at hl 0 rfl) ?_
    refine lv_iconst (v := 3) hx hb dL_law_515 (by decide) ?_
    refine lv_iadd hx hb dL_law_516 ?_
    rw [show nI i + 3 = nI (i + 3) from nI_add i 3]
    refine va_sld hx hb hX hbl hbA hS (vp_in_nI (show i + 3 < Ln by omega) (by omega)) dL_law_517 ?_
    rw [nI_clamp (show i + 3 < 2 ^ 31 by omega)]
    refine lv_if_eq (tgt := 525) hx hb dL_law_518 (by decide) (fun c_4 => absurd c_4 hz) (fun c_4 => ?_)
    refine lv_iconst (v := 1) hx hb dL_law_521 (by decide) ?_
    refine lv_goto (tgt := 526) hx hb dL_law_522 (by decide) ?_
    refine W.eq (g2 := F0 m 526 ls [.int (b2i true), .int (xs (i + 2)), .int (xs (i + 1)), .ref (a 0)]) rfl ?_
    refine xc_R (wd := cb a cV cI cG v gg dn lt ch) (As := [.int (xs (i + 1)), .int (xs (i + 2)), .int (b2i true)]) (rest := []) ⟨hx, hb, hml, hown, hts⟩ (c_X1_best l D a cV cI cG v gg dn lt ch (xs (i + 1)) (xs (i + 2)) true) (cwV 3 hts gL_law_X1_best rfl rfl rfl (by decide +kernel) ⟨Nat.le_of_ble_eq_true rfl, Nat.le_of_ble_eq_true rfl⟩) xMv0 trivial (xp_l hP) (hK.sub (tys' := cT cV cI cG) [0, 1, 2] rfl) (va_recv hK hP (ci := 1) (q0 := 0) rfl rfl) rfl hl.1 rfl (Nat.le_of_ble_eq_true rfl) dL_law_526 hro ?_
    refine lv_aload_n hx hb dL_law_529 rfl (lv_at hl 3 rfl) ?_
    refine lv_aload_n hx hb dL_law_530 rfl (lv_at hl 1 rfl) ?_
    refine lv_iload_n hx hb dL_law_531 rfl (lv_at hl 0 rfl) ?_
    refine lv_iconst (v := 1) hx hb dL_law_532 (by decide) ?_
    refine lv_iadd hx hb dL_law_533 ?_
    rw [show nI i + 1 = nI (i + 1) from nI_add i 1]
    refine va_sld hx hb hX hbl hbA hS (vp_in_nI (show i + 1 < Ln by omega) (by omega)) dL_law_534 ?_
    rw [nI_clamp (show i + 1 < 2 ^ 31 by omega)]
    refine lv_aload_n hx hb dL_law_535 rfl (lv_at hl 1 rfl) ?_
    refine lv_iload_n hx hb dL_law_536 rfl (lv_at hl 0 rfl) ?_
    refine lv_iconst (v := 2) hx hb dL_law_537 (by decide) ?_
    refine lv_iadd hx hb dL_law_538 ?_
    rw [show nI i + 2 = nI (i + 2) from nI_add i 2]
    refine va_sld hx hb hX hbl hbA hS (vp_in_nI (show i + 2 < Ln by omega) (by omega)) dL_law_539 ?_
    rw [nI_clamp (show i + 2 < 2 ^ 31 by omega)]
    refine lv_aload_n hx hb dL_law_540 rfl (lv_at hl 1 rfl) ?_
    refine lv_iload_n hx hb dL_law_541 rfl (lv_at hl 0 rfl) ?_
    refine lv_iconst (v := 3) hx hb dL_law_542 (by decide) ?_
    refine lv_iadd hx hb dL_law_543 ?_
    rw [show nI i + 3 = nI (i + 3) from nI_add i 3]
    refine va_sld hx hb hX hbl hbA hS (vp_in_nI (show i + 3 < Ln by omega) (by omega)) dL_law_544 ?_
    rw [nI_clamp (show i + 3 < 2 ^ 31 by omega)]
    refine lv_if_eq (tgt := 552) hx hb dL_law_545 (by decide) (fun c_5 => absurd c_5 hz) (fun c_5 => ?_)
    refine lv_iconst (v := 1) hx hb dL_law_548 (by decide) ?_
    refine lv_goto (tgt := 553) hx hb dL_law_549 (by decide) ?_
    refine W.eq (g2 := F0 m 553 ls [.int (b2i true), .int (xs (i + 2)), .int (xs (i + 1)), .ref (bm 0), .int (aBest v (xs (i + 1)) (xs (i + 2)) true)]) rfl ?_
    have hPm := hP; rw [← List.append_assoc] at hPm
    have hPm := xp_c hPm
    refine xc_R (wd := mb bm cJ cZ v G dn lt ch (nI (cntG G 8))) (As := [.int (xs (i + 1)), .int (xs (i + 2)), .int (b2i true)]) (rest := [.int (aBest v (xs (i + 1)) (xs (i + 2)) true)]) ⟨hx, hb, hml, hown, hts⟩ (c_X2_best l D bm cJ cZ v G dn lt ch (nI (cntG G 8)) (xs (i + 1)) (xs (i + 2)) true okv) (cwV 3 hts gL_law_X2_best rfl rfl rfl (by decide +kernel) ⟨Nat.le_of_ble_eq_true rfl, Nat.le_of_ble_eq_true rfl⟩) xMv0 trivial (xp_l hPm) (hK.sub (tys' := mT cJ cZ) [3, 4] rfl) (va_recv (hK.sub (tys' := mT cJ cZ) [3, 4] rfl) hPm (ci := 2) (q0 := 0) rfl rfl) rfl hl.1 rfl (Nat.le_of_ble_eq_true rfl) dL_law_553 hro ?_
    refine lv_icmp_eq (tgt := 812) hx hb dL_law_556 (by decide) (fun c_6 => ?_) (fun c_6 => absurd rfl c_6)
    refine W.widen (k := ce + 1) (n := se + 6) (by omega) (by omega) ?_
    exact nx v G gg L f dn lt ch H locs ls ⟨hP, hD, hS, hGR, okv, hGo⟩ (lv_sub hl [0, 1, 2, 3] rfl)
set_option maxHeartbeats 4000000 in
set_option maxRecDepth 100000 in
theorem law_pass {p : Program} {l : Launch} {e : Env} {s : State} {m : MethodId} {below : List Frame} {meth : Method} {c : Code} {b Ln : Nat} {xs : Nat → Int32} (hL : Ln ≤ 3072) (C0 : lw_At p s m meth c b Ln xs) {D : va_G} {a bm : Nat → Nat} {cV cI cG cJ cZ : ClassId} (hK : va_K D vwCl (lT cV cI cG cJ cZ) s) (hN : nT s) {i ce se : Nat} (hi : i + 6 ≤ Ln) (hce : ce + 1 ≤ room_1.cells) (hse : se + 6 ≤ room_1.slots) (nx : lNext p l e s m below meth c D a bm cV cI cG cJ cZ b i (ce + 1) (se + 6)) {v : Nat → Nat → Int32} {G : Nat → Option GT} {gg : Nat → Option Nat} {L : List Nat} {f : Nat → va_E} {dn lt ch : Int32} {H : Heap} {locs : List Loc} {ls : Array Slot} (hI : lInv s D a bm cV cI cG cJ cZ v G gg L f dn lt ch H locs) (hl : lv_has ls 4 [(3, .int (nI i)), (0, .ref b), (1, .ref (a 0)), (2, .ref (bm 0))]) : W p l e room_1 s m #[Value.ref b] below meth c H locs ce se (lw_Z below #[Value.ref b] s) (F0 m 561 ls []) := by
  obtain ⟨hx, hb, hr, hml, hown, hts, hX, hbl, hlocks, hgv⟩ := C0
  have hown : s.vm.findClass RL = some m.cls := hown
  have hts : ∀ w ∈ wsL_law, w.before #[Value.ref b] s = true := fun w h => hts w (wsL_law_in w h)
  have hA : ∀ q : Nat, s.heap.size ≤ q → (fun q : Nat => s.heap.size ≤ q) q := fun _ h => h
  have hbA : ¬ (fun q : Nat => s.heap.size ≤ q) b := Nat.not_le.mpr hbl
  have hro : ce ≤ room_1.cells ∧ se ≤ room_1.slots := ⟨by omega, by omega⟩
  have hro1 : ce + 1 ≤ room_1.cells ∧ se + 6 ≤ room_1.slots := ⟨hce, hse⟩
  obtain ⟨hP, hD, hS, hGR, okv, hGo⟩ := hI
  have hP : va_P D vwCl (cb a cV cI cG v gg dn lt ch ++ (va_pl L f ++ mb bm cJ cZ v G dn lt ch (nI (cntG G 8)))) H := hP
  have hD : va_D (fun q : Nat => s.heap.size ≤ q) (cb a cV cI cG v gg dn lt ch ++ (va_pl L f ++ mb bm cJ cZ v G dn lt ch (nI (cntG G 8)))) := hD
  refine lv_aload_n hx hb dL_law_561 rfl (lv_at hl 2 rfl) ?_
  refine lv_aload_n hx hb dL_law_562 rfl (lv_at hl 1 rfl) ?_
  refine lv_iload_n hx hb dL_law_563 rfl (lv_at hl 0 rfl) ?_
  refine lv_iconst (v := 1) hx hb dL_law_564 (by decide) ?_
  refine lv_iadd hx hb dL_law_565 ?_
  rw [show nI i + 1 = nI (i + 1) from nI_add i 1]
  refine va_sld hx hb hX hbl hbA hS (vp_in_nI (show i + 1 < Ln by omega) (by omega)) dL_law_566 ?_
  rw [nI_clamp (show i + 1 < 2 ^ 31 by omega)]
  refine lv_aload_n hx hb dL_law_567 rfl (lv_at hl 1 rfl) ?_
  refine lv_iload_n hx hb dL_law_568 rfl (lv_at hl 0 rfl) ?_
  refine lv_iconst (v := 2) hx hb dL_law_569 (by decide) ?_
  refine lv_iadd hx hb dL_law_570 ?_
  rw [show nI i + 2 = nI (i + 2) from nI_add i 2]
  refine va_sld hx hb hX hbl hbA hS (vp_in_nI (show i + 2 < Ln by omega) (by omega)) dL_law_571 ?_
  rw [nI_clamp (show i + 2 < 2 ^ 31 by omega)]
  refine lv_aload_n hx hb dL_law_572 rfl (lv_at hl 1 rfl) ?_
  refine lv_iload_n hx hb dL_law_573 rfl (lv_at hl 0 rfl) ?_
  refine lv_iconst (v := 3) hx hb dL_law_574 (by decide) ?_
  refine lv_iadd hx hb dL_law_575 ?_
  rw [show nI i + 3 = nI (i + 3) from nI_add i 3]
  refine va_sld hx hb hX hbl hbA hS (vp_in_nI (show i + 3 < Ln by omega) (by omega)) dL_law_576 ?_
  rw [nI_clamp (show i + 3 < 2 ^ 31 by omega)]
  refine lv_aload_n hx hb dL_law_577 rfl (lv_at hl 1 rfl) ?_
  refine lv_iload_n hx hb dL_law_578 rfl (lv_at hl 0 rfl) ?_
  refine lv_iconst (v := 4) hx hb dL_law_579 (by decide) ?_
  refine lv_iadd hx hb dL_law_580 ?_
  rw [show nI i + 4 = nI (i + 4) from nI_add i 4]
  refine va_sld hx hb hX hbl hbA hS (vp_in_nI (show i + 4 < Ln by omega) (by omega)) dL_law_581 ?_
  rw [nI_clamp (show i + 4 < 2 ^ 31 by omega)]
  refine xc_W (S0 := Unit) (rw := va_pl L f ++ mb bm cJ cZ v G dn lt ch (nI (cntG G 8))) (As := [.int (xs (i + 1)), .int (xs (i + 2)), .int (xs (i + 3)), .int (xs (i + 4))]) (rest := []) ⟨hx, hb, hml, hown, hts⟩ (c_X1_pass l D a cV cI cG v gg dn lt ch H.size (xs (i + 1)) (xs (i + 2)) (xs (i + 3)) (xs (i + 4))) (cwV 4 hts gL_law_X1_pass rfl rfl rfl (by decide +kernel) ⟨Nat.le_of_ble_eq_true rfl, Nat.le_of_ble_eq_true rfl⟩) xMv0 trivial hP (hK.sub (tys' := cT cV cI cG) [0, 1, 2] rfl) hD hS hA (va_recv hK hP (ci := 1) (q0 := 0) rfl rfl) rfl hl.1 rfl (Nat.le_of_ble_eq_true rfl) dL_law_582 hro (fun r1 _ H locs hr1 hP hD _ hS => ?_)
  rw [hr1]
  refine W.widen (k := ce) (n := se) (Nat.le_refl _) (Nat.le_refl _) ?_
  have hP : va_P D vwCl (cb a cV cI cG (nPass v (xs (i + 1)) (xs (i + 2)) (xs (i + 3)) (xs (i + 4))) gg dn lt (hPass v ch (xs (i + 1)) (xs (i + 2)) (xs (i + 3)) (xs (i + 4))) ++ (va_pl L f ++ mb bm cJ cZ v G dn lt ch (nI (cntG G 8)))) H := hP
  have hD : va_D (fun q : Nat => s.heap.size ≤ q) (cb a cV cI cG (nPass v (xs (i + 1)) (xs (i + 2)) (xs (i + 3)) (xs (i + 4))) gg dn lt (hPass v ch (xs (i + 1)) (xs (i + 2)) (xs (i + 3)) (xs (i + 4))) ++ (va_pl L f ++ mb bm cJ cZ v G dn lt ch (nI (cntG G 8)))) := hD
  refine lv_aload_n hx hb dL_law_585 rfl (lv_at hl 3 rfl) ?_
  refine lv_aload_n hx hb dL_law_586 rfl (lv_at hl 1 rfl) ?_
  refine lv_iload_n hx hb dL_law_587 rfl (lv_at hl 0 rfl) ?_
  refine lv_iconst (v := 1) hx hb dL_law_588 (by decide) ?_
  refine lv_iadd hx hb dL_law_589 ?_
  rw [show nI i + 1 = nI (i + 1) from nI_add i 1]
  refine va_sld hx hb hX hbl hbA hS (vp_in_nI (show i + 1 < Ln by omega) (by omega)) dL_law_590 ?_
  rw [nI_clamp (show i + 1 < 2 ^ 31 by omega)]
  refine lv_aload_n hx hb dL_law_591 rfl (lv_at hl 1 rfl) ?_
  refine lv_iload_n hx hb dL_law_592 rfl (lv_at hl 0 rfl) ?_
  refine lv_iconst (v := 2) hx hb dL_law_593 (by decide) ?_
  refine lv_iadd hx hb dL_law_594 ?_
  rw [show nI i + 2 = nI (i + 2) from nI_add i 2]
  refine va_sld hx hb hX hbl hbA hS (vp_in_nI (show i + 2 < Ln by omega) (by omega)) dL_law_595 ?_
  rw [nI_clamp (show i + 2 < 2 ^ 31 by omega)]
  refine lv_aload_n hx hb dL_law_596 rfl (lv_at hl 1 rfl) ?_
  refine lv_iload_n hx hb dL_law_597 rfl (lv_at hl 0 rfl) ?_
  refine lv_iconst (v := 3) hx hb dL_law_598 (by decide) ?_
  refine lv_iadd hx hb dL_law_599 ?_
  rw [show nI i + 3 = nI (i + 3) from nI_add i 3]
  refine va_sld hx hb hX hbl hbA hS (vp_in_nI (show i + 3 < Ln by omega) (by omega)) dL_law_600 ?_
  rw [nI_clamp (show i + 3 < 2 ^ 31 by omega)]
  refine lv_aload_n hx hb dL_law_601 rfl (lv_at hl 1 rfl) ?_
  refine lv_iload_n hx hb dL_law_602 rfl (lv_at hl 0 rfl) ?_
  refine lv_iconst (v := 4) hx hb dL_law_603 (by decide) ?_
  refine lv_iadd hx hb dL_law_604 ?_
  rw [show nI i + 4 = nI (i + 4) from nI_add i 4]
  refine va_sld hx hb hX hbl hbA hS (vp_in_nI (show i + 4 < Ln by omega) (by omega)) dL_law_605 ?_
  rw [nI_clamp (show i + 4 < 2 ^ 31 by omega)]
  have hPm := hP; rw [← List.append_assoc] at hPm
  have hPm := xp_c hPm
  have hDm := hD; rw [← List.append_assoc] at hDm
  have hDm := xd_c hDm
  refine xc_W (S0 := Unit) (rw := cb a cV cI cG (nPass v (xs (i + 1)) (xs (i + 2)) (xs (i + 3)) (xs (i + 4))) gg dn lt (hPass v ch (xs (i + 1)) (xs (i + 2)) (xs (i + 3)) (xs (i + 4))) ++ va_pl L f) (As := [.int (xs (i + 1)), .int (xs (i + 2)), .int (xs (i + 3)), .int (xs (i + 4))]) (rest := [.int (aPass v (xs (i + 1)) (xs (i + 2)) (xs (i + 3)) (xs (i + 4)))]) ⟨hx, hb, hml, hown, hts⟩ (c_X2_pass l D bm cJ cZ v G dn lt ch (nI (cntG G 8)) H.size (xs (i + 1)) (xs (i + 2)) (xs (i + 3)) (xs (i + 4)) okv) (cwV 4 hts gL_law_X2_pass rfl rfl rfl (by decide +kernel) ⟨Nat.le_of_ble_eq_true rfl, Nat.le_of_ble_eq_true rfl⟩) xMv0 trivial hPm (hK.sub (tys' := mT cJ cZ) [3, 4] rfl) hDm hS hA (va_recv (hK.sub (tys' := mT cJ cZ) [3, 4] rfl) hPm (ci := 2) (q0 := 0) rfl rfl) rfl hl.1 rfl (Nat.le_of_ble_eq_true rfl) dL_law_606 hro (fun r2 _ H locs hr2 hP hD _ hS => ?_)
  rw [hr2]
  have hP := xp_c hP
  have hD := xd_c hD
  rw [List.append_assoc] at hP hD
  refine lv_icmp_eq (tgt := 812) hx hb dL_law_609 (by decide) (fun c_1 => ?_) (fun c_1 => absurd rfl c_1)
  refine W.widen (k := ce + 1) (n := se + 6) (by omega) (by omega) ?_
  exact nx (nPass v (xs (i + 1)) (xs (i + 2)) (xs (i + 3)) (xs (i + 4))) G gg L f dn lt (hPass v ch (xs (i + 1)) (xs (i + 2)) (xs (i + 3)) (xs (i + 4))) H locs ls ⟨hP, hD, hS, hGR, (ok_pass okv), hGo⟩ (lv_sub hl [0, 1, 2, 3] rfl)
set_option maxHeartbeats 4000000 in
set_option maxRecDepth 100000 in
theorem law_within {p : Program} {l : Launch} {e : Env} {s : State} {m : MethodId} {below : List Frame} {meth : Method} {c : Code} {b Ln : Nat} {xs : Nat → Int32} (hL : Ln ≤ 3072) (C0 : lw_At p s m meth c b Ln xs) {D : va_G} {a bm : Nat → Nat} {cV cI cG cJ cZ : ClassId} (hK : va_K D vwCl (lT cV cI cG cJ cZ) s) (hN : nT s) {i ce se : Nat} (hi : i + 6 ≤ Ln) (hce : ce + 1 ≤ room_1.cells) (hse : se + 6 ≤ room_1.slots) (nx : lNext p l e s m below meth c D a bm cV cI cG cJ cZ b i (ce + 1) (se + 6)) {v : Nat → Nat → Int32} {G : Nat → Option GT} {gg : Nat → Option Nat} {L : List Nat} {f : Nat → va_E} {dn lt ch : Int32} {H : Heap} {locs : List Loc} {ls : Array Slot} (hI : lInv s D a bm cV cI cG cJ cZ v G gg L f dn lt ch H locs) (hl : lv_has ls 4 [(3, .int (nI i)), (0, .ref b), (1, .ref (a 0)), (2, .ref (bm 0))]) : W p l e room_1 s m #[Value.ref b] below meth c H locs ce se (lw_Z below #[Value.ref b] s) (F0 m 614 ls []) := by
  obtain ⟨hx, hb, hr, hml, hown, hts, hX, hbl, hlocks, hgv⟩ := C0
  have hown : s.vm.findClass RL = some m.cls := hown
  have hts : ∀ w ∈ wsL_law, w.before #[Value.ref b] s = true := fun w h => hts w (wsL_law_in w h)
  have hA : ∀ q : Nat, s.heap.size ≤ q → (fun q : Nat => s.heap.size ≤ q) q := fun _ h => h
  have hbA : ¬ (fun q : Nat => s.heap.size ≤ q) b := Nat.not_le.mpr hbl
  have hro : ce ≤ room_1.cells ∧ se ≤ room_1.slots := ⟨by omega, by omega⟩
  have hro1 : ce + 1 ≤ room_1.cells ∧ se + 6 ≤ room_1.slots := ⟨hce, hse⟩
  obtain ⟨hP, hD, hS, hGR, okv, hGo⟩ := hI
  have hP : va_P D vwCl (cb a cV cI cG v gg dn lt ch ++ (va_pl L f ++ mb bm cJ cZ v G dn lt ch (nI (cntG G 8)))) H := hP
  have hD : va_D (fun q : Nat => s.heap.size ≤ q) (cb a cV cI cG v gg dn lt ch ++ (va_pl L f ++ mb bm cJ cZ v G dn lt ch (nI (cntG G 8)))) := hD
  refine lv_aload_n hx hb dL_law_614 rfl (lv_at hl 2 rfl) ?_
  refine lv_aload_n hx hb dL_law_615 rfl (lv_at hl 1 rfl) ?_
  refine lv_iload_n hx hb dL_law_616 rfl (lv_at hl 0 rfl) ?_
  refine lv_iconst (v := 1) hx hb dL_law_617 (by decide) ?_
  refine lv_iadd hx hb dL_law_618 ?_
  rw [show nI i + 1 = nI (i + 1) from nI_add i 1]
  refine va_sld hx hb hX hbl hbA hS (vp_in_nI (show i + 1 < Ln by omega) (by omega)) dL_law_619 ?_
  rw [nI_clamp (show i + 1 < 2 ^ 31 by omega)]
  refine lv_aload_n hx hb dL_law_620 rfl (lv_at hl 1 rfl) ?_
  refine lv_iload_n hx hb dL_law_621 rfl (lv_at hl 0 rfl) ?_
  refine lv_iconst (v := 2) hx hb dL_law_622 (by decide) ?_
  refine lv_iadd hx hb dL_law_623 ?_
  rw [show nI i + 2 = nI (i + 2) from nI_add i 2]
  refine va_sld hx hb hX hbl hbA hS (vp_in_nI (show i + 2 < Ln by omega) (by omega)) dL_law_624 ?_
  rw [nI_clamp (show i + 2 < 2 ^ 31 by omega)]
  refine lv_aload_n hx hb dL_law_625 rfl (lv_at hl 1 rfl) ?_
  refine lv_iload_n hx hb dL_law_626 rfl (lv_at hl 0 rfl) ?_
  refine lv_iconst (v := 3) hx hb dL_law_627 (by decide) ?_
  refine lv_iadd hx hb dL_law_628 ?_
  rw [show nI i + 3 = nI (i + 3) from nI_add i 3]
  refine va_sld hx hb hX hbl hbA hS (vp_in_nI (show i + 3 < Ln by omega) (by omega)) dL_law_629 ?_
  rw [nI_clamp (show i + 3 < 2 ^ 31 by omega)]
  refine lv_aload_n hx hb dL_law_630 rfl (lv_at hl 1 rfl) ?_
  refine lv_iload_n hx hb dL_law_631 rfl (lv_at hl 0 rfl) ?_
  refine lv_iconst (v := 4) hx hb dL_law_632 (by decide) ?_
  refine lv_iadd hx hb dL_law_633 ?_
  rw [show nI i + 4 = nI (i + 4) from nI_add i 4]
  refine va_sld hx hb hX hbl hbA hS (vp_in_nI (show i + 4 < Ln by omega) (by omega)) dL_law_634 ?_
  rw [nI_clamp (show i + 4 < 2 ^ 31 by omega)]
  refine xc_R (wd := cb a cV cI cG v gg dn lt ch) (As := [.int (xs (i + 1)), .int (xs (i + 2)), .int (xs (i + 3)), .int (xs (i + 4))]) (rest := []) ⟨hx, hb, hml, hown, hts⟩ (c_X1_within l D a cV cI cG v gg dn lt ch (xs (i + 1)) (xs (i + 2)) (xs (i + 3)) (xs (i + 4))) (cwV 4 hts gL_law_X1_within rfl rfl rfl (by decide +kernel) ⟨Nat.le_of_ble_eq_true rfl, Nat.le_of_ble_eq_true rfl⟩) xMv0 trivial (xp_l hP) (hK.sub (tys' := cT cV cI cG) [0, 1, 2] rfl) (va_recv hK hP (ci := 1) (q0 := 0) rfl rfl) rfl hl.1 rfl (Nat.le_of_ble_eq_true rfl) dL_law_635 hro ?_
  refine lv_aload_n hx hb dL_law_638 rfl (lv_at hl 3 rfl) ?_
  refine lv_aload_n hx hb dL_law_639 rfl (lv_at hl 1 rfl) ?_
  refine lv_iload_n hx hb dL_law_640 rfl (lv_at hl 0 rfl) ?_
  refine lv_iconst (v := 1) hx hb dL_law_641 (by decide) ?_
  refine lv_iadd hx hb dL_law_642 ?_
  rw [show nI i + 1 = nI (i + 1) from nI_add i 1]
  refine va_sld hx hb hX hbl hbA hS (vp_in_nI (show i + 1 < Ln by omega) (by omega)) dL_law_643 ?_
  rw [nI_clamp (show i + 1 < 2 ^ 31 by omega)]
  refine lv_aload_n hx hb dL_law_644 rfl (lv_at hl 1 rfl) ?_
  refine lv_iload_n hx hb dL_law_645 rfl (lv_at hl 0 rfl) ?_
  refine lv_iconst (v := 2) hx hb dL_law_646 (by decide) ?_
  refine lv_iadd hx hb dL_law_647 ?_
  rw [show nI i + 2 = nI (i + 2) from nI_add i 2]
  refine va_sld hx hb hX hbl hbA hS (vp_in_nI (show i + 2 < Ln by omega) (by omega)) dL_law_648 ?_
  rw [nI_clamp (show i + 2 < 2 ^ 31 by omega)]
  refine lv_aload_n hx hb dL_law_649 rfl (lv_at hl 1 rfl) ?_
  refine lv_iload_n hx hb dL_law_650 rfl (lv_at hl 0 rfl) ?_
  refine lv_iconst (v := 3) hx hb dL_law_651 (by decide) ?_
  refine lv_iadd hx hb dL_law_652 ?_
  rw [show nI i + 3 = nI (i + 3) from nI_add i 3]
  refine va_sld hx hb hX hbl hbA hS (vp_in_nI (show i + 3 < Ln by omega) (by omega)) dL_law_653 ?_
  rw [nI_clamp (show i + 3 < 2 ^ 31 by omega)]
  refine lv_aload_n hx hb dL_law_654 rfl (lv_at hl 1 rfl) ?_
  refine lv_iload_n hx hb dL_law_655 rfl (lv_at hl 0 rfl) ?_
  refine lv_iconst (v := 4) hx hb dL_law_656 (by decide) ?_
  refine lv_iadd hx hb dL_law_657 ?_
  rw [show nI i + 4 = nI (i + 4) from nI_add i 4]
  refine va_sld hx hb hX hbl hbA hS (vp_in_nI (show i + 4 < Ln by omega) (by omega)) dL_law_658 ?_
  rw [nI_clamp (show i + 4 < 2 ^ 31 by omega)]
  have hPm := hP; rw [← List.append_assoc] at hPm
  have hPm := xp_c hPm
  refine xc_R (wd := mb bm cJ cZ v G dn lt ch (nI (cntG G 8))) (As := [.int (xs (i + 1)), .int (xs (i + 2)), .int (xs (i + 3)), .int (xs (i + 4))]) (rest := [.int (aWith v (xs (i + 1)) (xs (i + 2)) (xs (i + 3)) (xs (i + 4)))]) ⟨hx, hb, hml, hown, hts⟩ (c_X2_within l D bm cJ cZ v G dn lt ch (nI (cntG G 8)) (xs (i + 1)) (xs (i + 2)) (xs (i + 3)) (xs (i + 4)) okv) (cwV 4 hts gL_law_X2_within rfl rfl rfl (by decide +kernel) ⟨Nat.le_of_ble_eq_true rfl, Nat.le_of_ble_eq_true rfl⟩) xMv0 trivial (xp_l hPm) (hK.sub (tys' := mT cJ cZ) [3, 4] rfl) (va_recv (hK.sub (tys' := mT cJ cZ) [3, 4] rfl) hPm (ci := 2) (q0 := 0) rfl rfl) rfl hl.1 rfl (Nat.le_of_ble_eq_true rfl) dL_law_659 hro ?_
  refine lv_icmp_eq (tgt := 812) hx hb dL_law_662 (by decide) (fun c_1 => ?_) (fun c_1 => absurd rfl c_1)
  refine W.widen (k := ce + 1) (n := se + 6) (by omega) (by omega) ?_
  exact nx v G gg L f dn lt ch H locs ls ⟨hP, hD, hS, hGR, okv, hGo⟩ (lv_sub hl [0, 1, 2, 3] rfl)
set_option maxHeartbeats 4000000 in
set_option maxRecDepth 100000 in
theorem law_guard {p : Program} {l : Launch} {e : Env} {s : State} {m : MethodId} {below : List Frame} {meth : Method} {c : Code} {b Ln : Nat} {xs : Nat → Int32} (hL : Ln ≤ 3072) (C0 : lw_At p s m meth c b Ln xs) {D : va_G} {a bm : Nat → Nat} {cV cI cG cJ cZ : ClassId} (hK : va_K D vwCl (lT cV cI cG cJ cZ) s) (hN : nT s) {i ce se : Nat} (hi : i + 6 ≤ Ln) (hce : ce + 1 ≤ room_1.cells) (hse : se + 6 ≤ room_1.slots) (nx : lNext p l e s m below meth c D a bm cV cI cG cJ cZ b i (ce + 1) (se + 6)) {v : Nat → Nat → Int32} {G : Nat → Option GT} {gg : Nat → Option Nat} {L : List Nat} {f : Nat → va_E} {dn lt ch : Int32} {H : Heap} {locs : List Loc} {ls : Array Slot} (hI : lInv s D a bm cV cI cG cJ cZ v G gg L f dn lt ch H locs) (hl : lv_has ls 4 [(3, .int (nI i)), (0, .ref b), (1, .ref (a 0)), (2, .ref (bm 0))]) : W p l e room_1 s m #[Value.ref b] below meth c H locs ce se (lw_Z below #[Value.ref b] s) (F0 m 667 ls []) := by
  obtain ⟨hx, hb, hr, hml, hown, hts, hX, hbl, hlocks, hgv⟩ := C0
  have hown : s.vm.findClass RL = some m.cls := hown
  have hts : ∀ w ∈ wsL_law, w.before #[Value.ref b] s = true := fun w h => hts w (wsL_law_in w h)
  have hA : ∀ q : Nat, s.heap.size ≤ q → (fun q : Nat => s.heap.size ≤ q) q := fun _ h => h
  have hbA : ¬ (fun q : Nat => s.heap.size ≤ q) b := Nat.not_le.mpr hbl
  have hro : ce ≤ room_1.cells ∧ se ≤ room_1.slots := ⟨by omega, by omega⟩
  have hro1 : ce + 1 ≤ room_1.cells ∧ se + 6 ≤ room_1.slots := ⟨hce, hse⟩
  obtain ⟨hP, hD, hS, hGR, okv, hGo⟩ := hI
  have hP : va_P D vwCl (cb a cV cI cG v gg dn lt ch ++ (va_pl L f ++ mb bm cJ cZ v G dn lt ch (nI (cntG G 8)))) H := hP
  have hD : va_D (fun q : Nat => s.heap.size ≤ q) (cb a cV cI cG v gg dn lt ch ++ (va_pl L f ++ mb bm cJ cZ v G dn lt ch (nI (cntG G 8)))) := hD
  refine lv_aload_n hx hb dL_law_667 rfl (lv_at hl 2 rfl) ?_
  refine lv_aload_n hx hb dL_law_668 rfl (lv_at hl 1 rfl) ?_
  refine lv_iload_n hx hb dL_law_669 rfl (lv_at hl 0 rfl) ?_
  refine lv_iconst (v := 1) hx hb dL_law_670 (by decide) ?_
  refine lv_iadd hx hb dL_law_671 ?_
  rw [show nI i + 1 = nI (i + 1) from nI_add i 1]
  refine va_sld hx hb hX hbl hbA hS (vp_in_nI (show i + 1 < Ln by omega) (by omega)) dL_law_672 ?_
  rw [nI_clamp (show i + 1 < 2 ^ 31 by omega)]
  refine lv_aload_n hx hb dL_law_673 rfl (lv_at hl 1 rfl) ?_
  refine lv_iload_n hx hb dL_law_674 rfl (lv_at hl 0 rfl) ?_
  refine lv_iconst (v := 2) hx hb dL_law_675 (by decide) ?_
  refine lv_iadd hx hb dL_law_676 ?_
  rw [show nI i + 2 = nI (i + 2) from nI_add i 2]
  refine va_sld hx hb hX hbl hbA hS (vp_in_nI (show i + 2 < Ln by omega) (by omega)) dL_law_677 ?_
  rw [nI_clamp (show i + 2 < 2 ^ 31 by omega)]
  refine lv_aload_n hx hb dL_law_678 rfl (lv_at hl 1 rfl) ?_
  refine lv_iload_n hx hb dL_law_679 rfl (lv_at hl 0 rfl) ?_
  refine lv_iconst (v := 3) hx hb dL_law_680 (by decide) ?_
  refine lv_iadd hx hb dL_law_681 ?_
  rw [show nI i + 3 = nI (i + 3) from nI_add i 3]
  refine va_sld hx hb hX hbl hbA hS (vp_in_nI (show i + 3 < Ln by omega) (by omega)) dL_law_682 ?_
  rw [nI_clamp (show i + 3 < 2 ^ 31 by omega)]
  refine lv_aload_n hx hb dL_law_683 rfl (lv_at hl 1 rfl) ?_
  refine lv_iload_n hx hb dL_law_684 rfl (lv_at hl 0 rfl) ?_
  refine lv_iconst (v := 4) hx hb dL_law_685 (by decide) ?_
  refine lv_iadd hx hb dL_law_686 ?_
  rw [show nI i + 4 = nI (i + 4) from nI_add i 4]
  refine va_sld hx hb hX hbl hbA hS (vp_in_nI (show i + 4 < Ln by omega) (by omega)) dL_law_687 ?_
  rw [nI_clamp (show i + 4 < 2 ^ 31 by omega)]
  refine lv_aload_n hx hb dL_law_688 rfl (lv_at hl 1 rfl) ?_
  refine lv_iload_n hx hb dL_law_689 rfl (lv_at hl 0 rfl) ?_
  refine lv_iconst (v := 5) hx hb dL_law_690 (by decide) ?_
  refine lv_iadd hx hb dL_law_691 ?_
  rw [show nI i + 5 = nI (i + 5) from nI_add i 5]
  refine va_sld hx hb hX hbl hbA hS (vp_in_nI (show i + 5 < Ln by omega) (by omega)) dL_law_692 ?_
  rw [nI_clamp (show i + 5 < 2 ^ 31 by omega)]
  have hPa := hP; rw [← List.append_assoc] at hPa
  have hDa := hD; rw [← List.append_assoc] at hDa
  refine xc_W (S0 := Nat) (rw := mb bm cJ cZ v G dn lt ch (nI (cntG G 8))) (As := [.int (xs (i + 1)), .int (xs (i + 2)), .int (xs (i + 3)), .int (xs (i + 4)), .int (xs (i + 5))]) (rest := []) ⟨hx, hb, hml, hown, hts⟩ (c_X1_guard l D a cV cI cG v gg dn lt ch L f H.size (xs (i + 1)) (xs (i + 2)) (xs (i + 3)) (xs (i + 4)) (xs (i + 5))) (cwV 5 hts gL_law_X1_guard rfl rfl rfl (by decide +kernel) ⟨Nat.le_of_ble_eq_true rfl, Nat.le_of_ble_eq_true rfl⟩) xMvN hN hPa (hK.sub (tys' := cT cV cI cG) [0, 1, 2] rfl) hDa hS hA (va_recv hK hP (ci := 1) (q0 := 0) rfl rfl) rfl hl.1 rfl (Nat.le_of_ble_eq_true rfl) dL_law_693 hro1 (fun r1 u H locs hr1 hP hD _ hS => ?_)
  rw [hr1.1]
  obtain ⟨gg2, L2, f2, hP, hD, hGR⟩ : ∃ (gg2 : Nat → Option Nat) (L2 : List Nat) (f2 : Nat → va_E), va_P D vwCl ((cb a cV cI cG v gg2 dn lt ch ++ va_pl L2 f2) ++ mb bm cJ cZ v G dn lt ch (nI (cntG G 8))) H ∧ va_D (fun q : Nat => s.heap.size ≤ q) ((cb a cV cI cG v gg2 dn lt ch ++ va_pl L2 f2) ++ mb bm cJ cZ v G dn lt ch (nI (cntG G 8))) ∧ GR (nGua v G (xs (i + 1)) (xs (i + 2)) (xs (i + 3)) (xs (i + 4)) (xs (i + 5))) gg2 L2 f2 := by
    cases hok : gB (xs (i + 1)) (xs (i + 2)) (xs (i + 3)) (xs (i + 4)) (xs (i + 5))
    · rw [hok] at hP hD
      exact ⟨gg, L, f, hP, hD, by simp only [nGua, hok]; exact hGR⟩
    · have hu := hr1.2 hok
      rw [hok] at hP hD
      have h2 : isGb (xs (i + 1)) = true := by simp [gB] at hok; exact hok.1
      exact ⟨_, _, _, hP, hD, by simp only [nGua, hok, if_true]; exact gr_gua hGR hu (vp_lt (isG_in h2))⟩
  rw [List.append_assoc] at hP hD
  refine lv_aload_n hx hb dL_law_696 rfl (lv_at hl 3 rfl) ?_
  refine lv_aload_n hx hb dL_law_697 rfl (lv_at hl 1 rfl) ?_
  refine lv_iload_n hx hb dL_law_698 rfl (lv_at hl 0 rfl) ?_
  refine lv_iconst (v := 1) hx hb dL_law_699 (by decide) ?_
  refine lv_iadd hx hb dL_law_700 ?_
  rw [show nI i + 1 = nI (i + 1) from nI_add i 1]
  refine va_sld hx hb hX hbl hbA hS (vp_in_nI (show i + 1 < Ln by omega) (by omega)) dL_law_701 ?_
  rw [nI_clamp (show i + 1 < 2 ^ 31 by omega)]
  refine lv_aload_n hx hb dL_law_702 rfl (lv_at hl 1 rfl) ?_
  refine lv_iload_n hx hb dL_law_703 rfl (lv_at hl 0 rfl) ?_
  refine lv_iconst (v := 2) hx hb dL_law_704 (by decide) ?_
  refine lv_iadd hx hb dL_law_705 ?_
  rw [show nI i + 2 = nI (i + 2) from nI_add i 2]
  refine va_sld hx hb hX hbl hbA hS (vp_in_nI (show i + 2 < Ln by omega) (by omega)) dL_law_706 ?_
  rw [nI_clamp (show i + 2 < 2 ^ 31 by omega)]
  refine lv_aload_n hx hb dL_law_707 rfl (lv_at hl 1 rfl) ?_
  refine lv_iload_n hx hb dL_law_708 rfl (lv_at hl 0 rfl) ?_
  refine lv_iconst (v := 3) hx hb dL_law_709 (by decide) ?_
  refine lv_iadd hx hb dL_law_710 ?_
  rw [show nI i + 3 = nI (i + 3) from nI_add i 3]
  refine va_sld hx hb hX hbl hbA hS (vp_in_nI (show i + 3 < Ln by omega) (by omega)) dL_law_711 ?_
  rw [nI_clamp (show i + 3 < 2 ^ 31 by omega)]
  refine lv_aload_n hx hb dL_law_712 rfl (lv_at hl 1 rfl) ?_
  refine lv_iload_n hx hb dL_law_713 rfl (lv_at hl 0 rfl) ?_
  refine lv_iconst (v := 4) hx hb dL_law_714 (by decide) ?_
  refine lv_iadd hx hb dL_law_715 ?_
  rw [show nI i + 4 = nI (i + 4) from nI_add i 4]
  refine va_sld hx hb hX hbl hbA hS (vp_in_nI (show i + 4 < Ln by omega) (by omega)) dL_law_716 ?_
  rw [nI_clamp (show i + 4 < 2 ^ 31 by omega)]
  refine lv_aload_n hx hb dL_law_717 rfl (lv_at hl 1 rfl) ?_
  refine lv_iload_n hx hb dL_law_718 rfl (lv_at hl 0 rfl) ?_
  refine lv_iconst (v := 5) hx hb dL_law_719 (by decide) ?_
  refine lv_iadd hx hb dL_law_720 ?_
  rw [show nI i + 5 = nI (i + 5) from nI_add i 5]
  refine va_sld hx hb hX hbl hbA hS (vp_in_nI (show i + 5 < Ln by omega) (by omega)) dL_law_721 ?_
  rw [nI_clamp (show i + 5 < 2 ^ 31 by omega)]
  have hPm := hP; rw [← List.append_assoc] at hPm
  have hPm := xp_c hPm
  have hDm := hD; rw [← List.append_assoc] at hDm
  have hDm := xd_c hDm
  refine xc_W (S0 := Unit) (rw := cb a cV cI cG v gg2 dn lt ch ++ va_pl L2 f2) (As := [.int (xs (i + 1)), .int (xs (i + 2)), .int (xs (i + 3)), .int (xs (i + 4)), .int (xs (i + 5))]) (rest := [.int (b2i (gB (xs (i + 1)) (xs (i + 2)) (xs (i + 3)) (xs (i + 4)) (xs (i + 5))))]) ⟨hx, hb, hml, hown, hts⟩ (c_X2_guard l D bm cJ cZ v G dn lt ch (nI (cntG G 8)) H.size (xs (i + 1)) (xs (i + 2)) (xs (i + 3)) (xs (i + 4)) (xs (i + 5))) (cwV 5 hts gL_law_X2_guard rfl rfl rfl (by decide +kernel) ⟨Nat.le_of_ble_eq_true rfl, Nat.le_of_ble_eq_true rfl⟩) xMv0 trivial hPm (hK.sub (tys' := mT cJ cZ) [3, 4] rfl) hDm hS hA (va_recv (hK.sub (tys' := mT cJ cZ) [3, 4] rfl) hPm (ci := 2) (q0 := 0) rfl rfl) rfl hl.1 rfl (Nat.le_of_ble_eq_true rfl) dL_law_722 hro1 (fun r2 _ H locs hr2 hP hD _ hS => ?_)
  rw [hr2]
  have hP := xp_c hP
  have hD := xd_c hD
  rw [List.append_assoc] at hP hD
  refine lv_icmp_eq (tgt := 812) hx hb dL_law_725 (by decide) (fun c_1 => ?_) (fun c_1 => absurd rfl c_1)
  refine W.widen (k := ce + 1) (n := se + 6) (by omega) (by omega) ?_
  rw [gn_gua v] at hP hD
  exact nx v (nGua v G (xs (i + 1)) (xs (i + 2)) (xs (i + 3)) (xs (i + 4)) (xs (i + 5))) gg2 L2 f2 dn lt ch H locs ls ⟨hP, hD, hS, hGR, okv, (gok_gua okv hGo)⟩ (lv_sub hl [0, 1, 2, 3] rfl)
