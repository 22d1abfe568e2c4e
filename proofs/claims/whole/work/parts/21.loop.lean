set_option maxHeartbeats 4000000 in
set_option maxRecDepth 100000 in
theorem law_loop {p : Program} {l : Launch} {e : Env} {s : State} {m : MethodId} {below : List Frame} {meth : Method} {c : Code} {b Ln : Nat} {xs : Nat → Int32} (hL : Ln ≤ 3072) (C0 : lw_At p s m meth c b Ln xs) {D : va_G} {a bm : Nat → Nat} {cV cI cG cJ cZ : ClassId} (hK : va_K D vwCl (lT cV cI cG cJ cZ) s) (hN : nT s) :
    ∀ (n i : Nat), Ln < i + n → i ≤ Ln → ∀ (v : Nat → Nat → Int32) (G : Nat → Option GT) (gg : Nat → Option Nat) (L : List Nat) (f : Nat → va_E) (dn lt ch : Int32) (H : Heap) (locs : List Loc) (ls : Array Slot), lInv s D a bm cV cI cG cJ cZ v G gg L f dn lt ch H locs → lv_has ls 4 [(3, .int (nI i)), (0, .ref b), (1, .ref (a 0)), (2, .ref (bm 0))] → W p l e room_1 s m #[Value.ref b] below meth c H locs (16 + i) (291 + 6 * i) (lw_Z below #[Value.ref b] s) (F0 m 18 ls []) := by
  have C1 := C0
  have rc := rm_c
  have rs := rm_s
  obtain ⟨hx, hb, hr, hml, hown, hts, hX, hbl, hlocks, hgv⟩ := C0
  have hbA : ¬ (fun q : Nat => s.heap.size ≤ q) b := Nat.not_le.mpr hbl
  intro n
  induction n with
  | zero =>
    intro i h1 h2
    omega
  | succ n ih =>
    intro i h1 h2 v G gg L f dn lt ch H locs ls hI hl
    have hS := hI.2.2.1
    refine lv_iload_n hx hb dL_law_18 rfl (lv_at hl 0 rfl) ?_
    refine lv_aload_n hx hb dL_law_19 rfl (lv_at hl 1 rfl) ?_
    refine va_slen hx hb hX hbl hbA hS dL_law_20 ?_
    refine lv_bipush (v := 6) hx hb dL_law_21 (by decide) ?_
    refine lv_isub hx hb dL_law_23 ?_
    have hsub : (Int32.ofNat Ln - 6).toInt = (Ln : Int) - 6 := pk_sub_toInt (a := Ln) (b := 6) (by omega) (by decide)
    have hti : (nI i).toInt = (i : Int) := nI_toInt (by omega)
    refine lv_icmp_gt (tgt := 818) hx hb dL_law_24 (by decide) (fun c1 => ?_) (fun c1 => ?_)
    · refine lv_iconst (v := 1) hx hb dL_law_818 (by decide) ?_
      refine va_forget (fun q hq => hS.2.2 q hq) ?_
      refine W.widen (k := room_1.cells) (n := room_1.slots) (by omega) (by omega) ?_
      exact lw_ret hx hb hr hlocks dL_law_819
    · have hi6 : i + 6 ≤ Ln := by
        rw [i32_lt, hsub, hti] at c1
        omega
      have nx : lNext p l e s m below meth c D a bm cV cI cG cJ cZ b i (16 + i + 1) (291 + 6 * i + 6) := by
        intro v G gg L f dn lt ch H locs ls hI hl
        refine lv_iinc (v := nI (i + 6)) (lv' := [(3, .int (nI (i + 6))), (0, .ref b), (1, .ref (a 0)), (2, .ref (bm 0))]) hx hb dL_law_812 hl (k := 0) rfl (nI_add i 6) (by decide) rfl (fun ls hl => ?_)
        refine lv_goto (tgt := 18) hx hb dL_law_815 (by decide) ?_
        refine W.widen (k := 16 + (i + 6)) (n := 291 + 6 * (i + 6)) (by omega) (by omega) ?_
        exact ih (i + 6) (by omega) hi6 v G gg L f dn lt ch H locs ls hI hl
      refine lv_aload_n hx hb dL_law_27 rfl (lv_at hl 1 rfl) ?_
      refine lv_iload_n hx hb dL_law_28 rfl (lv_at hl 0 rfl) ?_
      refine va_sld hx hb hX hbl hbA hS (vp_in_nI (show i < Ln by omega) (by omega)) dL_law_29 ?_
      refine lv_bipush (v := 15) hx hb dL_law_30 (by decide) ?_
      refine lv_iand hx hb dL_law_32 ?_
      obtain ⟨j, hj, ej⟩ := pk_andE (xs (nI i).toNatClampNeg) (m := 15) 4 (by decide)
      rw [ej]
      have hce : 16 + i + 1 ≤ room_1.cells := by omega
      have hse : 291 + 6 * i + 6 ≤ room_1.slots := by omega
      have hj : j < 16 := hj
      rcases (show j = 0 ∨ j = 1 ∨ j = 2 ∨ j = 3 ∨ j = 4 ∨ j = 5 ∨ j = 6 ∨ j = 7 ∨ j = 8 ∨ j = 9 ∨ j = 10 ∨ j = 11 ∨ j = 12 ∨ j = 13 ∨ j = 14 ∨ j = 15 by omega) with rfl | rfl | rfl | rfl | rfl | rfl | rfl | rfl | rfl | rfl | rfl | rfl | rfl | rfl | rfl | rfl
      · refine lv_tableIn (off := 79) (tgt := 112) hx hb dL_law_33 (by decide) (by decide) (by decide) (by decide) ?_
        exact law_put hL C1 hK hN hi6 hce hse nx hI hl
      · refine lv_tableIn (off := 132) (tgt := 165) hx hb dL_law_33 (by decide) (by decide) (by decide) (by decide) ?_
        exact law_sort hL C1 hK hN hi6 hce hse nx hI hl
      · refine lv_tableIn (off := 165) (tgt := 198) hx hb dL_law_33 (by decide) (by decide) (by decide) (by decide) ?_
        exact law_quarters hL C1 hK hN hi6 hce hse nx hI hl
      · refine lv_tableIn (off := 198) (tgt := 231) hx hb dL_law_33 (by decide) (by decide) (by decide) (by decide) ?_
        exact law_holds hL C1 hK hN hi6 hce hse nx hI hl
      · refine lv_tableIn (off := 251) (tgt := 284) hx hb dL_law_33 (by decide) (by decide) (by decide) (by decide) ?_
        exact law_denies hL C1 hK hN hi6 hce hse nx hI hl
      · refine lv_tableIn (off := 304) (tgt := 337) hx hb dL_law_33 (by decide) (by decide) (by decide) (by decide) ?_
        exact law_pick hL C1 hK hN hi6 hce hse nx hI hl
      · refine lv_tableIn (off := 357) (tgt := 390) hx hb dL_law_33 (by decide) (by decide) (by decide) (by decide) ?_
        exact law_climb hL C1 hK hN hi6 hce hse nx hI hl
      · refine lv_tableIn (off := 400) (tgt := 433) hx hb dL_law_33 (by decide) (by decide) (by decide) (by decide) ?_
        exact law_first hL C1 hK hN hi6 hce hse nx hI hl
      · refine lv_tableIn (off := 469) (tgt := 502) hx hb dL_law_33 (by decide) (by decide) (by decide) (by decide) ?_
        exact law_best hL C1 hK hN hi6 hce hse nx hI hl
      · refine lv_tableIn (off := 528) (tgt := 561) hx hb dL_law_33 (by decide) (by decide) (by decide) (by decide) ?_
        exact law_pass hL C1 hK hN hi6 hce hse nx hI hl
      · refine lv_tableIn (off := 581) (tgt := 614) hx hb dL_law_33 (by decide) (by decide) (by decide) (by decide) ?_
        exact law_within hL C1 hK hN hi6 hce hse nx hI hl
      · refine lv_tableIn (off := 634) (tgt := 667) hx hb dL_law_33 (by decide) (by decide) (by decide) (by decide) ?_
        exact law_guard hL C1 hK hN hi6 hce hse nx hI hl
      · refine lv_tableIn (off := 697) (tgt := 730) hx hb dL_law_33 (by decide) (by decide) (by decide) (by decide) ?_
        exact law_look hL C1 hK hN hi6 hce hse nx hI hl
      · refine lv_tableIn (off := 710) (tgt := 743) hx hb dL_law_33 (by decide) (by decide) (by decide) (by decide) ?_
        exact law_rings hL C1 hK hN hi6 hce hse nx hI hl
      · refine lv_tableIn (off := 733) (tgt := 766) hx hb dL_law_33 (by decide) (by decide) (by decide) (by decide) ?_
        exact law_strike hL C1 hK hN hi6 hce hse nx hI hl
      · refine lv_tableIn (off := 756) (tgt := 789) hx hb dL_law_33 (by decide) (by decide) (by decide) (by decide) ?_
        exact law_count hL C1 hK hN hi6 hce hse nx hI hl
