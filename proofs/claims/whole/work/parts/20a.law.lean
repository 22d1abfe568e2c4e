/-! the law, case by case -/
set_option maxHeartbeats 4000000 in
set_option maxRecDepth 100000 in
theorem law_put {p : Program} {l : Launch} {e : Env} {s : State} {m : MethodId} {below : List Frame} {meth : Method} {c : Code} {b Ln : Nat} {xs : Nat → Int32} (hL : Ln ≤ 3072) (C0 : lw_At p s m meth c b Ln xs) {D : va_G} {a bm : Nat → Nat} {cV cI cG cJ cZ : ClassId} (hK : va_K D vwCl (lT cV cI cG cJ cZ) s) (hN : nT s) {i ce se : Nat} (hi : i + 6 ≤ Ln) (hce : ce + 1 ≤ room_1.cells) (hse : se + 6 ≤ room_1.slots) (nx : lNext p l e s m below meth c D a bm cV cI cG cJ cZ b i (ce + 1) (se + 6)) {v : Nat → Nat → Int32} {G : Nat → Option GT} {gg : Nat → Option Nat} {L : List Nat} {f : Nat → va_E} {dn lt ch : Int32} {H : Heap} {locs : List Loc} {ls : Array Slot} (hI : lInv s D a bm cV cI cG cJ cZ v G gg L f dn lt ch H locs) (hl : lv_has ls 4 [(3, .int (nI i)), (0, .ref b), (1, .ref (a 0)), (2, .ref (bm 0))]) : W p l e room_1 s m #[Value.ref b] below meth c H locs ce se (lw_Z below #[Value.ref b] s) (F0 m 112 ls []) := by
  obtain ⟨hx, hb, hr, hml, hown, hts, hX, hbl, hlocks, hgv⟩ := C0
  have hown : s.vm.findClass RL = some m.cls := hown
  have hts : ∀ w ∈ wsL_law, w.before #[Value.ref b] s = true := fun w h => hts w (wsL_law_in w h)
  have hA : ∀ q : Nat, s.heap.size ≤ q → (fun q : Nat => s.heap.size ≤ q) q := fun _ h => h
  have hbA : ¬ (fun q : Nat => s.heap.size ≤ q) b := Nat.not_le.mpr hbl
  have hro : ce ≤ room_1.cells ∧ se ≤ room_1.slots := ⟨by omega, by omega⟩
  have hro1 : ce + 1 ≤ room_1.cells ∧ se + 6 ≤ room_1.slots := ⟨hce, hse⟩
  obtain ⟨hP, hD, hS, hGR, okv, hGo⟩ := hI
  have hP : va_P D vwCl (cb a cV cI cG v gg dn lt ch ++ (va_pl L f ++ mb bm cJ cZ v G dn lt ch (nI (cntG G 8)))) H := hP
  have hD : va_D (fun q : Nat => s.heap.size ≤ q) (cb a cV cI cG v gg dn lt ch ++ (va_pl L f ++ mb bm cJ cZ v G dn lt ch (nI (cntG G 8)))) := hD
  refine lv_aload_n hx hb dL_law_112 rfl (lv_at hl 2 rfl) ?_
  refine lv_aload_n hx hb dL_law_113 rfl (lv_at hl 1 rfl) ?_
  refine lv_iload_n hx hb dL_law_114 rfl (lv_at hl 0 rfl) ?_
  refine lv_iconst (v := 1) hx hb dL_law_115 (by decide) ?_
  refine lv_iadd hx hb dL_law_116 ?_
  rw [show nI i + 1 = nI (i + 1) from nI_add i 1]
  refine va_sld hx hb hX hbl hbA hS (vp_in_nI (show i + 1 < Ln by omega) (by omega)) dL_law_117 ?_
  rw [nI_clamp (show i + 1 < 2 ^ 31 by omega)]
  refine lv_aload_n hx hb dL_law_118 rfl (lv_at hl 1 rfl) ?_
  refine lv_iload_n hx hb dL_law_119 rfl (lv_at hl 0 rfl) ?_
  refine lv_iconst (v := 2) hx hb dL_law_120 (by decide) ?_
  refine lv_iadd hx hb dL_law_121 ?_
  rw [show nI i + 2 = nI (i + 2) from nI_add i 2]
  refine va_sld hx hb hX hbl hbA hS (vp_in_nI (show i + 2 < Ln by omega) (by omega)) dL_law_122 ?_
  rw [nI_clamp (show i + 2 < 2 ^ 31 by omega)]
  refine lv_aload_n hx hb dL_law_123 rfl (lv_at hl 1 rfl) ?_
  refine lv_iload_n hx hb dL_law_124 rfl (lv_at hl 0 rfl) ?_
  refine lv_iconst (v := 3) hx hb dL_law_125 (by decide) ?_
  refine lv_iadd hx hb dL_law_126 ?_
  rw [show nI i + 3 = nI (i + 3) from nI_add i 3]
  refine va_sld hx hb hX hbl hbA hS (vp_in_nI (show i + 3 < Ln by omega) (by omega)) dL_law_127 ?_
  rw [nI_clamp (show i + 3 < 2 ^ 31 by omega)]
  refine lv_aload_n hx hb dL_law_128 rfl (lv_at hl 1 rfl) ?_
  refine lv_iload_n hx hb dL_law_129 rfl (lv_at hl 0 rfl) ?_
  refine lv_iconst (v := 4) hx hb dL_law_130 (by decide) ?_
  refine lv_iadd hx hb dL_law_131 ?_
  rw [show nI i + 4 = nI (i + 4) from nI_add i 4]
  refine va_sld hx hb hX hbl hbA hS (vp_in_nI (show i + 4 < Ln by omega) (by omega)) dL_law_132 ?_
  rw [nI_clamp (show i + 4 < 2 ^ 31 by omega)]
  refine xc_W (S0 := Unit) (rw := va_pl L f ++ mb bm cJ cZ v G dn lt ch (nI (cntG G 8))) (As := [.int (xs (i + 1)), .int (xs (i + 2)), .int (xs (i + 3)), .int (xs (i + 4))]) (rest := []) ⟨hx, hb, hml, hown, hts⟩ (c_X1_put l D a cV cI cG v gg dn lt ch H.size (xs (i + 1)) (xs (i + 2)) (xs (i + 3)) (xs (i + 4))) (cwV 4 hts gL_law_X1_put rfl rfl rfl (by decide +kernel) ⟨Nat.le_of_ble_eq_true rfl, Nat.le_of_ble_eq_true rfl⟩) xMv0 trivial hP (hK.sub (tys' := cT cV cI cG) [0, 1, 2] rfl) hD hS hA (va_recv hK hP (ci := 1) (q0 := 0) rfl rfl) rfl hl.1 rfl (Nat.le_of_ble_eq_true rfl) dL_law_133 hro (fun r1 _ H locs hr1 hP hD _ hS => ?_)
  rw [hr1]
  refine W.widen (k := ce) (n := se) (Nat.le_refl _) (Nat.le_refl _) ?_
  have hP : va_P D vwCl (cb a cV cI cG (nPut v (xs (i + 1)) (xs (i + 2)) (xs (i + 3)) (xs (i + 4))) gg dn lt ch ++ (va_pl L f ++ mb bm cJ cZ v G dn lt ch (nI (cntG G 8)))) H := hP
  have hD : va_D (fun q : Nat => s.heap.size ≤ q) (cb a cV cI cG (nPut v (xs (i + 1)) (xs (i + 2)) (xs (i + 3)) (xs (i + 4))) gg dn lt ch ++ (va_pl L f ++ mb bm cJ cZ v G dn lt ch (nI (cntG G 8)))) := hD
  refine lv_aload_n hx hb dL_law_136 rfl (lv_at hl 3 rfl) ?_
  refine lv_aload_n hx hb dL_law_137 rfl (lv_at hl 1 rfl) ?_
  refine lv_iload_n hx hb dL_law_138 rfl (lv_at hl 0 rfl) ?_
  refine lv_iconst (v := 1) hx hb dL_law_139 (by decide) ?_
  refine lv_iadd hx hb dL_law_140 ?_
  rw [show nI i + 1 = nI (i + 1) from nI_add i 1]
  refine va_sld hx hb hX hbl hbA hS (vp_in_nI (show i + 1 < Ln by omega) (by omega)) dL_law_141 ?_
  rw [nI_clamp (show i + 1 < 2 ^ 31 by omega)]
  refine lv_aload_n hx hb dL_law_142 rfl (lv_at hl 1 rfl) ?_
  refine lv_iload_n hx hb dL_law_143 rfl (lv_at hl 0 rfl) ?_
  refine lv_iconst (v := 2) hx hb dL_law_144 (by decide) ?_
  refine lv_iadd hx hb dL_law_145 ?_
  rw [show nI i + 2 = nI (i + 2) from nI_add i 2]
  refine va_sld hx hb hX hbl hbA hS (vp_in_nI (show i + 2 < Ln by omega) (by omega)) dL_law_146 ?_
  rw [nI_clamp (show i + 2 < 2 ^ 31 by omega)]
  refine lv_aload_n hx hb dL_law_147 rfl (lv_at hl 1 rfl) ?_
  refine lv_iload_n hx hb dL_law_148 rfl (lv_at hl 0 rfl) ?_
  refine lv_iconst (v := 3) hx hb dL_law_149 (by decide) ?_
  refine lv_iadd hx hb dL_law_150 ?_
  rw [show nI i + 3 = nI (i + 3) from nI_add i 3]
  refine va_sld hx hb hX hbl hbA hS (vp_in_nI (show i + 3 < Ln by omega) (by omega)) dL_law_151 ?_
  rw [nI_clamp (show i + 3 < 2 ^ 31 by omega)]
  refine lv_aload_n hx hb dL_law_152 rfl (lv_at hl 1 rfl) ?_
  refine lv_iload_n hx hb dL_law_153 rfl (lv_at hl 0 rfl) ?_
  refine lv_iconst (v := 4) hx hb dL_law_154 (by decide) ?_
  refine lv_iadd hx hb dL_law_155 ?_
  rw [show nI i + 4 = nI (i + 4) from nI_add i 4]
  refine va_sld hx hb hX hbl hbA hS (vp_in_nI (show i + 4 < Ln by omega) (by omega)) dL_law_156 ?_
  rw [nI_clamp (show i + 4 < 2 ^ 31 by omega)]
  have hPm := hP; rw [← List.append_assoc] at hPm
  have hPm := xp_c hPm
  have hDm := hD; rw [← List.append_assoc] at hDm
  have hDm := xd_c hDm
  refine xc_W (S0 := Unit) (rw := cb a cV cI cG (nPut v (xs (i + 1)) (xs (i + 2)) (xs (i + 3)) (xs (i + 4))) gg dn lt ch ++ va_pl L f) (As := [.int (xs (i + 1)), .int (xs (i + 2)), .int (xs (i + 3)), .int (xs (i + 4))]) (rest := [.int (b2i (aPut (xs (i + 1)) (xs (i + 2)) (xs (i + 3)) (xs (i + 4))))]) ⟨hx, hb, hml, hown, hts⟩ (c_X2_put l D bm cJ cZ v G dn lt ch (nI (cntG G 8)) H.size (xs (i + 1)) (xs (i + 2)) (xs (i + 3)) (xs (i + 4))) (cwV 4 hts gL_law_X2_put rfl rfl rfl (by decide +kernel) ⟨Nat.le_of_ble_eq_true rfl, Nat.le_of_ble_eq_true rfl⟩) xMv0 trivial hPm (hK.sub (tys' := mT cJ cZ) [3, 4] rfl) hDm hS hA (va_recv (hK.sub (tys' := mT cJ cZ) [3, 4] rfl) hPm (ci := 2) (q0 := 0) rfl rfl) rfl hl.1 rfl (Nat.le_of_ble_eq_true rfl) dL_law_157 hro (fun r2 _ H locs hr2 hP hD _ hS => ?_)
  rw [hr2]
  have hP := xp_c hP
  have hD := xd_c hD
  rw [List.append_assoc] at hP hD
  refine lv_icmp_eq (tgt := 812) hx hb dL_law_160 (by decide) (fun c_1 => ?_) (fun c_1 => absurd rfl c_1)
  refine W.widen (k := ce + 1) (n := se + 6) (by omega) (by omega) ?_
  exact nx (nPut v (xs (i + 1)) (xs (i + 2)) (xs (i + 3)) (xs (i + 4))) G gg L f dn lt ch H locs ls ⟨hP, hD, hS, hGR, (ok_put okv), hGo⟩ (lv_sub hl [0, 1, 2, 3] rfl)
set_option maxHeartbeats 4000000 in
set_option maxRecDepth 100000 in
theorem law_sort {p : Program} {l : Launch} {e : Env} {s : State} {m : MethodId} {below : List Frame} {meth : Method} {c : Code} {b Ln : Nat} {xs : Nat → Int32} (hL : Ln ≤ 3072) (C0 : lw_At p s m meth c b Ln xs) {D : va_G} {a bm : Nat → Nat} {cV cI cG cJ cZ : ClassId} (hK : va_K D vwCl (lT cV cI cG cJ cZ) s) (hN : nT s) {i ce se : Nat} (hi : i + 6 ≤ Ln) (hce : ce + 1 ≤ room_1.cells) (hse : se + 6 ≤ room_1.slots) (nx : lNext p l e s m below meth c D a bm cV cI cG cJ cZ b i (ce + 1) (se + 6)) {v : Nat → Nat → Int32} {G : Nat → Option GT} {gg : Nat → Option Nat} {L : List Nat} {f : Nat → va_E} {dn lt ch : Int32} {H : Heap} {locs : List Loc} {ls : Array Slot} (hI : lInv s D a bm cV cI cG cJ cZ v G gg L f dn lt ch H locs) (hl : lv_has ls 4 [(3, .int (nI i)), (0, .ref b), (1, .ref (a 0)), (2, .ref (bm 0))]) : W p l e room_1 s m #[Value.ref b] below meth c H locs ce se (lw_Z below #[Value.ref b] s) (F0 m 165 ls []) := by
  obtain ⟨hx, hb, hr, hml, hown, hts, hX, hbl, hlocks, hgv⟩ := C0
  have hown : s.vm.findClass RL = some m.cls := hown
  have hts : ∀ w ∈ wsL_law, w.before #[Value.ref b] s = true := fun w h => hts w (wsL_law_in w h)
  have hA : ∀ q : Nat, s.heap.size ≤ q → (fun q : Nat => s.heap.size ≤ q) q := fun _ h => h
  have hbA : ¬ (fun q : Nat => s.heap.size ≤ q) b := Nat.not_le.mpr hbl
  have hro : ce ≤ room_1.cells ∧ se ≤ room_1.slots := ⟨by omega, by omega⟩
  have hro1 : ce + 1 ≤ room_1.cells ∧ se + 6 ≤ room_1.slots := ⟨hce, hse⟩
  obtain ⟨hP, hD, hS, hGR, okv, hGo⟩ := hI
  have hP : va_P D vwCl (cb a cV cI cG v gg dn lt ch ++ (va_pl L f ++ mb bm cJ cZ v G dn lt ch (nI (cntG G 8)))) H := hP
  have hD : va_D (fun q : Nat => s.heap.size ≤ q) (cb a cV cI cG v gg dn lt ch ++ (va_pl L f ++ mb bm cJ cZ v G dn lt ch (nI (cntG G 8)))) := hD
  refine lv_aload_n hx hb dL_law_165 rfl (lv_at hl 2 rfl) ?_
  refine lv_aload_n hx hb dL_law_166 rfl (lv_at hl 1 rfl) ?_
  refine lv_iload_n hx hb dL_law_167 rfl (lv_at hl 0 rfl) ?_
  refine lv_iconst (v := 1) hx hb dL_law_168 (by decide) ?_
  refine lv_iadd hx hb dL_law_169 ?_
  rw [show nI i + 1 = nI (i + 1) from nI_add i 1]
  refine va_sld hx hb hX hbl hbA hS (vp_in_nI (show i + 1 < Ln by omega) (by omega)) dL_law_170 ?_
  rw [nI_clamp (show i + 1 < 2 ^ 31 by omega)]
  refine lv_aload_n hx hb dL_law_171 rfl (lv_at hl 1 rfl) ?_
  refine lv_iload_n hx hb dL_law_172 rfl (lv_at hl 0 rfl) ?_
  refine lv_iconst (v := 2) hx hb dL_law_173 (by decide) ?_
  refine lv_iadd hx hb dL_law_174 ?_
  rw [show nI i + 2 = nI (i + 2) from nI_add i 2]
  refine va_sld hx hb hX hbl hbA hS (vp_in_nI (show i + 2 < Ln by omega) (by omega)) dL_law_175 ?_
  rw [nI_clamp (show i + 2 < 2 ^ 31 by omega)]
  refine xc_R (wd := cb a cV cI cG v gg dn lt ch) (As := [.int (xs (i + 1)), .int (xs (i + 2))]) (rest := []) ⟨hx, hb, hml, hown, hts⟩ (c_X1_sort l D a cV cI cG v gg dn lt ch (xs (i + 1)) (xs (i + 2))) (cwV 2 hts gL_law_X1_sort rfl rfl rfl (by decide +kernel) ⟨Nat.le_of_ble_eq_true rfl, Nat.le_of_ble_eq_true rfl⟩) xMv0 trivial (xp_l hP) (hK.sub (tys' := cT cV cI cG) [0, 1, 2] rfl) (va_recv hK hP (ci := 1) (q0 := 0) rfl rfl) rfl hl.1 rfl (Nat.le_of_ble_eq_true rfl) dL_law_176 hro ?_
  refine lv_aload_n hx hb dL_law_179 rfl (lv_at hl 3 rfl) ?_
  refine lv_aload_n hx hb dL_law_180 rfl (lv_at hl 1 rfl) ?_
  refine lv_iload_n hx hb dL_law_181 rfl (lv_at hl 0 rfl) ?_
  refine lv_iconst (v := 1) hx hb dL_law_182 (by decide) ?_
  refine lv_iadd hx hb dL_law_183 ?_
  rw [show nI i + 1 = nI (i + 1) from nI_add i 1]
  refine va_sld hx hb hX hbl hbA hS (vp_in_nI (show i + 1 < Ln by omega) (by omega)) dL_law_184 ?_
  rw [nI_clamp (show i + 1 < 2 ^ 31 by omega)]
  refine lv_aload_n hx hb dL_law_185 rfl (lv_at hl 1 rfl) ?_
  refine lv_iload_n hx hb dL_law_186 rfl (lv_at hl 0 rfl) ?_
  refine lv_iconst (v := 2) hx hb dL_law_187 (by decide) ?_
  refine lv_iadd hx hb dL_law_188 ?_
  rw [show nI i + 2 = nI (i + 2) from nI_add i 2]
  refine va_sld hx hb hX hbl hbA hS (vp_in_nI (show i + 2 < Ln by omega) (by omega)) dL_law_189 ?_
  rw [nI_clamp (show i + 2 < 2 ^ 31 by omega)]
  have hPm := hP; rw [← List.append_assoc] at hPm
  have hPm := xp_c hPm
  refine xc_R (wd := mb bm cJ cZ v G dn lt ch (nI (cntG G 8))) (As := [.int (xs (i + 1)), .int (xs (i + 2))]) (rest := [.int (aSort v (xs (i + 1)) (xs (i + 2)))]) ⟨hx, hb, hml, hown, hts⟩ (c_X2_sort l D bm cJ cZ v G dn lt ch (nI (cntG G 8)) (xs (i + 1)) (xs (i + 2))) (cwV 2 hts gL_law_X2_sort rfl rfl rfl (by decide +kernel) ⟨Nat.le_of_ble_eq_true rfl, Nat.le_of_ble_eq_true rfl⟩) xMv0 trivial (xp_l hPm) (hK.sub (tys' := mT cJ cZ) [3, 4] rfl) (va_recv (hK.sub (tys' := mT cJ cZ) [3, 4] rfl) hPm (ci := 2) (q0 := 0) rfl rfl) rfl hl.1 rfl (Nat.le_of_ble_eq_true rfl) dL_law_190 hro ?_
  refine lv_icmp_eq (tgt := 812) hx hb dL_law_193 (by decide) (fun c_1 => ?_) (fun c_1 => absurd rfl c_1)
  refine W.widen (k := ce + 1) (n := se + 6) (by omega) (by omega) ?_
  exact nx v G gg L f dn lt ch H locs ls ⟨hP, hD, hS, hGR, okv, hGo⟩ (lv_sub hl [0, 1, 2, 3] rfl)
set_option maxHeartbeats 4000000 in
set_option maxRecDepth 100000 in
theorem law_quarters {p : Program} {l : Launch} {e : Env} {s : State} {m : MethodId} {below : List Frame} {meth : Method} {c : Code} {b Ln : Nat} {xs : Nat → Int32} (hL : Ln ≤ 3072) (C0 : lw_At p s m meth c b Ln xs) {D : va_G} {a bm : Nat → Nat} {cV cI cG cJ cZ : ClassId} (hK : va_K D vwCl (lT cV cI cG cJ cZ) s) (hN : nT s) {i ce se : Nat} (hi : i + 6 ≤ Ln) (hce : ce + 1 ≤ room_1.cells) (hse : se + 6 ≤ room_1.slots) (nx : lNext p l e s m below meth c D a bm cV cI cG cJ cZ b i (ce + 1) (se + 6)) {v : Nat → Nat → Int32} {G : Nat → Option GT} {gg : Nat → Option Nat} {L : List Nat} {f : Nat → va_E} {dn lt ch : Int32} {H : Heap} {locs : List Loc} {ls : Array Slot} (hI : lInv s D a bm cV cI cG cJ cZ v G gg L f dn lt ch H locs) (hl : lv_has ls 4 [(3, .int (nI i)), (0, .ref b), (1, .ref (a 0)), (2, .ref (bm 0))]) : W p l e room_1 s m #[Value.ref b] below meth c H locs ce se (lw_Z below #[Value.ref b] s) (F0 m 198 ls []) := by
  obtain ⟨hx, hb, hr, hml, hown, hts, hX, hbl, hlocks, hgv⟩ := C0
  have hown : s.vm.findClass RL = some m.cls := hown
  have hts : ∀ w ∈ wsL_law, w.before #[Value.ref b] s = true := fun w h => hts w (wsL_law_in w h)
  have hA : ∀ q : Nat, s.heap.size ≤ q → (fun q : Nat => s.heap.size ≤ q) q := fun _ h => h
  have hbA : ¬ (fun q : Nat => s.heap.size ≤ q) b := Nat.not_le.mpr hbl
  have hro : ce ≤ room_1.cells ∧ se ≤ room_1.slots := ⟨by omega, by omega⟩
  have hro1 : ce + 1 ≤ room_1.cells ∧ se + 6 ≤ room_1.slots := ⟨hce, hse⟩
  obtain ⟨hP, hD, hS, hGR, okv, hGo⟩ := hI
  have hP : va_P D vwCl (cb a cV cI cG v gg dn lt ch ++ (va_pl L f ++ mb bm cJ cZ v G dn lt ch (nI (cntG G 8)))) H := hP
  have hD : va_D (fun q : Nat => s.heap.size ≤ q) (cb a cV cI cG v gg dn lt ch ++ (va_pl L f ++ mb bm cJ cZ v G dn lt ch (nI (cntG G 8)))) := hD
  refine lv_aload_n hx hb dL_law_198 rfl (lv_at hl 2 rfl) ?_
  refine lv_aload_n hx hb dL_law_199 rfl (lv_at hl 1 rfl) ?_
  refine lv_iload_n hx hb dL_law_200 rfl (lv_at hl 0 rfl) ?_
  refine lv_iconst (v := 1) hx hb dL_law_201 (by decide) ?_
  refine lv_iadd hx hb dL_law_202 ?_
  rw [show nI i + 1 = nI (i + 1) from nI_add i 1]
  refine va_sld hx hb hX hbl hbA hS (vp_in_nI (show i + 1 < Ln by omega) (by omega)) dL_law_203 ?_
  rw [nI_clamp (show i + 1 < 2 ^ 31 by omega)]
  refine lv_aload_n hx hb dL_law_204 rfl (lv_at hl 1 rfl) ?_
  refine lv_iload_n hx hb dL_law_205 rfl (lv_at hl 0 rfl) ?_
  refine lv_iconst (v := 2) hx hb dL_law_206 (by decide) ?_
  refine lv_iadd hx hb dL_law_207 ?_
  rw [show nI i + 2 = nI (i + 2) from nI_add i 2]
  refine va_sld hx hb hX hbl hbA hS (vp_in_nI (show i + 2 < Ln by omega) (by omega)) dL_law_208 ?_
  rw [nI_clamp (show i + 2 < 2 ^ 31 by omega)]
  refine xc_R (wd := cb a cV cI cG v gg dn lt ch) (As := [.int (xs (i + 1)), .int (xs (i + 2))]) (rest := []) ⟨hx, hb, hml, hown, hts⟩ (c_X1_quarters l D a cV cI cG v gg dn lt ch (xs (i + 1)) (xs (i + 2))) (cwV 2 hts gL_law_X1_quarters rfl rfl rfl (by decide +kernel) ⟨Nat.le_of_ble_eq_true rfl, Nat.le_of_ble_eq_true rfl⟩) xMv0 trivial (xp_l hP) (hK.sub (tys' := cT cV cI cG) [0, 1, 2] rfl) (va_recv hK hP (ci := 1) (q0 := 0) rfl rfl) rfl hl.1 rfl (Nat.le_of_ble_eq_true rfl) dL_law_209 hro ?_
  refine lv_aload_n hx hb dL_law_212 rfl (lv_at hl 3 rfl) ?_
  refine lv_aload_n hx hb dL_law_213 rfl (lv_at hl 1 rfl) ?_
  refine lv_iload_n hx hb dL_law_214 rfl (lv_at hl 0 rfl) ?_
  refine lv_iconst (v := 1) hx hb dL_law_215 (by decide) ?_
  refine lv_iadd hx hb dL_law_216 ?_
  rw [show nI i + 1 = nI (i + 1) from nI_add i 1]
  refine va_sld hx hb hX hbl hbA hS (vp_in_nI (show i + 1 < Ln by omega) (by omega)) dL_law_217 ?_
  rw [nI_clamp (show i + 1 < 2 ^ 31 by omega)]
  refine lv_aload_n hx hb dL_law_218 rfl (lv_at hl 1 rfl) ?_
  refine lv_iload_n hx hb dL_law_219 rfl (lv_at hl 0 rfl) ?_
  refine lv_iconst (v := 2) hx hb dL_law_220 (by decide) ?_
  refine lv_iadd hx hb dL_law_221 ?_
  rw [show nI i + 2 = nI (i + 2) from nI_add i 2]
  refine va_sld hx hb hX hbl hbA hS (vp_in_nI (show i + 2 < Ln by omega) (by omega)) dL_law_222 ?_
  rw [nI_clamp (show i + 2 < 2 ^ 31 by omega)]
  have hPm := hP; rw [← List.append_assoc] at hPm
  have hPm := xp_c hPm
  refine xc_R (wd := mb bm cJ cZ v G dn lt ch (nI (cntG G 8))) (As := [.int (xs (i + 1)), .int (xs (i + 2))]) (rest := [.int (aQuar v (xs (i + 1)) (xs (i + 2)))]) ⟨hx, hb, hml, hown, hts⟩ (c_X2_quarters l D bm cJ cZ v G dn lt ch (nI (cntG G 8)) (xs (i + 1)) (xs (i + 2))) (cwV 2 hts gL_law_X2_quarters rfl rfl rfl (by decide +kernel) ⟨Nat.le_of_ble_eq_true rfl, Nat.le_of_ble_eq_true rfl⟩) xMv0 trivial (xp_l hPm) (hK.sub (tys' := mT cJ cZ) [3, 4] rfl) (va_recv (hK.sub (tys' := mT cJ cZ) [3, 4] rfl) hPm (ci := 2) (q0 := 0) rfl rfl) rfl hl.1 rfl (Nat.le_of_ble_eq_true rfl) dL_law_223 hro ?_
  refine lv_icmp_eq (tgt := 812) hx hb dL_law_226 (by decide) (fun c_1 => ?_) (fun c_1 => absurd rfl c_1)
  refine W.widen (k := ce + 1) (n := se + 6) (by omega) (by omega) ?_
  exact nx v G gg L f dn lt ch H locs ls ⟨hP, hD, hS, hGR, okv, hGo⟩ (lv_sub hl [0, 1, 2, 3] rfl)
set_option maxHeartbeats 4000000 in
set_option maxRecDepth 100000 in
theorem law_holds {p : Program} {l : Launch} {e : Env} {s : State} {m : MethodId} {below : List Frame} {meth : Method} {c : Code} {b Ln : Nat} {xs : Nat → Int32} (hL : Ln ≤ 3072) (C0 : lw_At p s m meth c b Ln xs) {D : va_G} {a bm : Nat → Nat} {cV cI cG cJ cZ : ClassId} (hK : va_K D vwCl (lT cV cI cG cJ cZ) s) (hN : nT s) {i ce se : Nat} (hi : i + 6 ≤ Ln) (hce : ce + 1 ≤ room_1.cells) (hse : se + 6 ≤ room_1.slots) (nx : lNext p l e s m below meth c D a bm cV cI cG cJ cZ b i (ce + 1) (se + 6)) {v : Nat → Nat → Int32} {G : Nat → Option GT} {gg : Nat → Option Nat} {L : List Nat} {f : Nat → va_E} {dn lt ch : Int32} {H : Heap} {locs : List Loc} {ls : Array Slot} (hI : lInv s D a bm cV cI cG cJ cZ v G gg L f dn lt ch H locs) (hl : lv_has ls 4 [(3, .int (nI i)), (0, .ref b), (1, .ref (a 0)), (2, .ref (bm 0))]) : W p l e room_1 s m #[Value.ref b] below meth c H locs ce se (lw_Z below #[Value.ref b] s) (F0 m 231 ls []) := by
  obtain ⟨hx, hb, hr, hml, hown, hts, hX, hbl, hlocks, hgv⟩ := C0
  have hown : s.vm.findClass RL = some m.cls := hown
  have hts : ∀ w ∈ wsL_law, w.before #[Value.ref b] s = true := fun w h => hts w (wsL_law_in w h)
  have hA : ∀ q : Nat, s.heap.size ≤ q → (fun q : Nat => s.heap.size ≤ q) q := fun _ h => h
  have hbA : ¬ (fun q : Nat => s.heap.size ≤ q) b := Nat.not_le.mpr hbl
  have hro : ce ≤ room_1.cells ∧ se ≤ room_1.slots := ⟨by omega, by omega⟩
  have hro1 : ce + 1 ≤ room_1.cells ∧ se + 6 ≤ room_1.slots := ⟨hce, hse⟩
  obtain ⟨hP, hD, hS, hGR, okv, hGo⟩ := hI
  have hP : va_P D vwCl (cb a cV cI cG v gg dn lt ch ++ (va_pl L f ++ mb bm cJ cZ v G dn lt ch (nI (cntG G 8)))) H := hP
  have hD : va_D (fun q : Nat => s.heap.size ≤ q) (cb a cV cI cG v gg dn lt ch ++ (va_pl L f ++ mb bm cJ cZ v G dn lt ch (nI (cntG G 8)))) := hD
  refine lv_aload_n hx hb dL_law_231 rfl (lv_at hl 2 rfl) ?_
  refine lv_aload_n hx hb dL_law_232 rfl (lv_at hl 1 rfl) ?_
  refine lv_iload_n hx hb dL_law_233 rfl (lv_at hl 0 rfl) ?_
  refine lv_iconst (v := 1) hx hb dL_law_234 (by decide) ?_
  refine lv_iadd hx hb dL_law_235 ?_
  rw [show nI i + 1 = nI (i + 1) from nI_add i 1]
  refine va_sld hx hb hX hbl hbA hS (vp_in_nI (show i + 1 < Ln by omega) (by omega)) dL_law_236 ?_
  rw [nI_clamp (show i + 1 < 2 ^ 31 by omega)]
  refine lv_aload_n hx hb dL_law_237 rfl (lv_at hl 1 rfl) ?_
  refine lv_iload_n hx hb dL_law_238 rfl (lv_at hl 0 rfl) ?_
  refine lv_iconst (v := 2) hx hb dL_law_239 (by decide) ?_
  refine lv_iadd hx hb dL_law_240 ?_
  rw [show nI i + 2 = nI (i + 2) from nI_add i 2]
  refine va_sld hx hb hX hbl hbA hS (vp_in_nI (show i + 2 < Ln by omega) (by omega)) dL_law_241 ?_
  rw [nI_clamp (show i + 2 < 2 ^ 31 by omega)]
  refine lv_aload_n hx hb dL_law_242 rfl (lv_at hl 1 rfl) ?_
  refine lv_iload_n hx hb dL_law_243 rfl (lv_at hl 0 rfl) ?_
  refine lv_iconst (v := 3) hx hb dL_law_244 (by decide) ?_
  refine lv_iadd hx hb dL_law_245 ?_
  rw [show nI i + 3 = nI (i + 3) from nI_add i 3]
  refine va_sld hx hb hX hbl hbA hS (vp_in_nI (show i + 3 < Ln by omega) (by omega)) dL_law_246 ?_
  rw [nI_clamp (show i + 3 < 2 ^ 31 by omega)]
  refine lv_aload_n hx hb dL_law_247 rfl (lv_at hl 1 rfl) ?_
  refine lv_iload_n hx hb dL_law_248 rfl (lv_at hl 0 rfl) ?_
  refine lv_iconst (v := 4) hx hb dL_law_249 (by decide) ?_
  refine lv_iadd hx hb dL_law_250 ?_
  rw [show nI i + 4 = nI (i + 4) from nI_add i 4]
  refine va_sld hx hb hX hbl hbA hS (vp_in_nI (show i + 4 < Ln by omega) (by omega)) dL_law_251 ?_
  rw [nI_clamp (show i + 4 < 2 ^ 31 by omega)]
  refine xc_W (S0 := Unit) (rw := va_pl L f ++ mb bm cJ cZ v G dn lt ch (nI (cntG G 8))) (As := [.int (xs (i + 1)), .int (xs (i + 2)), .int (xs (i + 3)), .int (xs (i + 4))]) (rest := []) ⟨hx, hb, hml, hown, hts⟩ (c_X1_holds l D a cV cI cG v gg dn lt ch H.size (xs (i + 1)) (xs (i + 2)) (xs (i + 3)) (xs (i + 4))) (cwV 4 hts gL_law_X1_holds rfl rfl rfl (by decide +kernel) ⟨Nat.le_of_ble_eq_true rfl, Nat.le_of_ble_eq_true rfl⟩) xMv0 trivial hP (hK.sub (tys' := cT cV cI cG) [0, 1, 2] rfl) hD hS hA (va_recv hK hP (ci := 1) (q0 := 0) rfl rfl) rfl hl.1 rfl (Nat.le_of_ble_eq_true rfl) dL_law_252 hro (fun r1 _ H locs hr1 hP hD _ hS => ?_)
  rw [hr1]
  refine W.widen (k := ce) (n := se) (Nat.le_refl _) (Nat.le_refl _) ?_
  have hP : va_P D vwCl (cb a cV cI cG v gg dn (nHold v lt (xs (i + 1)) (xs (i + 2)) (xs (i + 3)) (xs (i + 4))) ch ++ (va_pl L f ++ mb bm cJ cZ v G dn lt ch (nI (cntG G 8)))) H := hP
  have hD : va_D (fun q : Nat => s.heap.size ≤ q) (cb a cV cI cG v gg dn (nHold v lt (xs (i + 1)) (xs (i + 2)) (xs (i + 3)) (xs (i + 4))) ch ++ (va_pl L f ++ mb bm cJ cZ v G dn lt ch (nI (cntG G 8)))) := hD
  refine lv_aload_n hx hb dL_law_255 rfl (lv_at hl 3 rfl) ?_
  refine lv_aload_n hx hb dL_law_256 rfl (lv_at hl 1 rfl) ?_
  refine lv_iload_n hx hb dL_law_257 rfl (lv_at hl 0 rfl) ?_
  refine lv_iconst (v := 1) hx hb dL_law_258 (by decide) ?_
  refine lv_iadd hx hb dL_law_259 ?_
  rw [show nI i + 1 = nI (i + 1) from nI_add i 1]
  refine va_sld hx hb hX hbl hbA hS (vp_in_nI (show i + 1 < Ln by omega) (by omega)) dL_law_260 ?_
  rw [nI_clamp (show i + 1 < 2 ^ 31 by omega)]
  refine lv_aload_n hx hb dL_law_261 rfl (lv_at hl 1 rfl) ?_
  refine lv_iload_n hx hb dL_law_262 rfl (lv_at hl 0 rfl) ?_
  refine lv_iconst (v := 2) hx hb dL_law_263 (by decide) ?_
  refine lv_iadd hx hb dL_law_264 ?_
  rw [show nI i + 2 = nI (i + 2) from nI_add i 2]
  refine va_sld hx hb hX hbl hbA hS (vp_in_nI (show i + 2 < Ln by omega) (by omega)) dL_law_265 ?_
  rw [nI_clamp (show i + 2 < 2 ^ 31 by omega)]
  refine lv_aload_n hx hb dL_law_266 rfl (lv_at hl 1 rfl) ?_
  refine lv_iload_n hx hb dL_law_267 rfl (lv_at hl 0 rfl) ?_
  refine lv_iconst (v := 3) hx hb dL_law_268 (by decide) ?_
  refine lv_iadd hx hb dL_law_269 ?_
  rw [show nI i + 3 = nI (i + 3) from nI_add i 3]
  refine va_sld hx hb hX hbl hbA hS (vp_in_nI (show i + 3 < Ln by omega) (by omega)) dL_law_270 ?_
  rw [nI_clamp (show i + 3 < 2 ^ 31 by omega)]
  refine lv_aload_n hx hb dL_law_271 rfl (lv_at hl 1 rfl) ?_
  refine lv_iload_n hx hb dL_law_272 rfl (lv_at hl 0 rfl) ?_
  refine lv_iconst (v := 4) hx hb dL_law_273 (by decide) ?_
  refine lv_iadd hx hb dL_law_274 ?_
  rw [show nI i + 4 = nI (i + 4) from nI_add i 4]
  refine va_sld hx hb hX hbl hbA hS (vp_in_nI (show i + 4 < Ln by omega) (by omega)) dL_law_275 ?_
  rw [nI_clamp (show i + 4 < 2 ^ 31 by omega)]
  have hPm := hP; rw [← List.append_assoc] at hPm
  have hPm := xp_c hPm
  have hDm := hD; rw [← List.append_assoc] at hDm
  have hDm := xd_c hDm
  refine xc_W (S0 := Unit) (rw := cb a cV cI cG v gg dn (nHold v lt (xs (i + 1)) (xs (i + 2)) (xs (i + 3)) (xs (i + 4))) ch ++ va_pl L f) (As := [.int (xs (i + 1)), .int (xs (i + 2)), .int (xs (i + 3)), .int (xs (i + 4))]) (rest := [.int (aHold v (xs (i + 1)) (xs (i + 2)) (xs (i + 3)) (xs (i + 4)))]) ⟨hx, hb, hml, hown, hts⟩ (c_X2_holds l D bm cJ cZ v G dn lt ch (nI (cntG G 8)) H.size (xs (i + 1)) (xs (i + 2)) (xs (i + 3)) (xs (i + 4)) okv) (cwV 4 hts gL_law_X2_holds rfl rfl rfl (by decide +kernel) ⟨Nat.le_of_ble_eq_true rfl, Nat.le_of_ble_eq_true rfl⟩) xMv0 trivial hPm (hK.sub (tys' := mT cJ cZ) [3, 4] rfl) hDm hS hA (va_recv (hK.sub (tys' := mT cJ cZ) [3, 4] rfl) hPm (ci := 2) (q0 := 0) rfl rfl) rfl hl.1 rfl (Nat.le_of_ble_eq_true rfl) dL_law_276 hro (fun r2 _ H locs hr2 hP hD _ hS => ?_)
  rw [hr2]
  have hP := xp_c hP
  have hD := xd_c hD
  rw [List.append_assoc] at hP hD
  refine lv_icmp_eq (tgt := 812) hx hb dL_law_279 (by decide) (fun c_1 => ?_) (fun c_1 => absurd rfl c_1)
  refine W.widen (k := ce + 1) (n := se + 6) (by omega) (by omega) ?_
  exact nx v G gg L f dn (nHold v lt (xs (i + 1)) (xs (i + 2)) (xs (i + 3)) (xs (i + 4))) ch H locs ls ⟨hP, hD, hS, hGR, okv, hGo⟩ (lv_sub hl [0, 1, 2, 3] rfl)
set_option maxHeartbeats 4000000 in
set_option maxRecDepth 100000 in
theorem law_denies {p : Program} {l : Launch} {e : Env} {s : State} {m : MethodId} {below : List Frame} {meth : Method} {c : Code} {b Ln : Nat} {xs : Nat → Int32} (hL : Ln ≤ 3072) (C0 : lw_At p s m meth c b Ln xs) {D : va_G} {a bm : Nat → Nat} {cV cI cG cJ cZ : ClassId} (hK : va_K D vwCl (lT cV cI cG cJ cZ) s) (hN : nT s) {i ce se : Nat} (hi : i + 6 ≤ Ln) (hce : ce + 1 ≤ room_1.cells) (hse : se + 6 ≤ room_1.slots) (nx : lNext p l e s m below meth c D a bm cV cI cG cJ cZ b i (ce + 1) (se + 6)) {v : Nat → Nat → Int32} {G : Nat → Option GT} {gg : Nat → Option Nat} {L : List Nat} {f : Nat → va_E} {dn lt ch : Int32} {H : Heap} {locs : List Loc} {ls : Array Slot} (hI : lInv s D a bm cV cI cG cJ cZ v G gg L f dn lt ch H locs) (hl : lv_has ls 4 [(3, .int (nI i)), (0, .ref b), (1, .ref (a 0)), (2, .ref (bm 0))]) : W p l e room_1 s m #[Value.ref b] below meth c H locs ce se (lw_Z below #[Value.ref b] s) (F0 m 284 ls []) := by
  obtain ⟨hx, hb, hr, hml, hown, hts, hX, hbl, hlocks, hgv⟩ := C0
  have hown : s.vm.findClass RL = some m.cls := hown
  have hts : ∀ w ∈ wsL_law, w.before #[Value.ref b] s = true := fun w h => hts w (wsL_law_in w h)
  have hA : ∀ q : Nat, s.heap.size ≤ q → (fun q : Nat => s.heap.size ≤ q) q := fun _ h => h
  have hbA : ¬ (fun q : Nat => s.heap.size ≤ q) b := Nat.not_le.mpr hbl
  have hro : ce ≤ room_1.cells ∧ se ≤ room_1.slots := ⟨by omega, by omega⟩
  have hro1 : ce + 1 ≤ room_1.cells ∧ se + 6 ≤ room_1.slots := ⟨hce, hse⟩
  obtain ⟨hP, hD, hS, hGR, okv, hGo⟩ := hI
  have hP : va_P D vwCl (cb a cV cI cG v gg dn lt ch ++ (va_pl L f ++ mb bm cJ cZ v G dn lt ch (nI (cntG G 8)))) H := hP
  have hD : va_D (fun q : Nat => s.heap.size ≤ q) (cb a cV cI cG v gg dn lt ch ++ (va_pl L f ++ mb bm cJ cZ v G dn lt ch (nI (cntG G 8)))) := hD
  refine lv_aload_n hx hb dL_law_284 rfl (lv_at hl 2 rfl) ?_
  refine lv_aload_n hx hb dL_law_285 rfl (lv_at hl 1 rfl) ?_
  refine lv_iload_n hx hb dL_law_286 rfl (lv_at hl 0 rfl) ?_
  refine lv_iconst (v := 1) hx hb dL_law_287 (by decide) ?_
  refine lv_iadd hx hb dL_law_288 ?_
  rw [show nI i + 1 = nI (i + 1) from nI_add i 1]
  refine va_sld hx hb hX hbl hbA hS (vp_in_nI (show i + 1 < Ln by omega) (by omega)) dL_law_289 ?_
  rw [nI_clamp (show i + 1 < 2 ^ 31 by omega)]
  refine lv_aload_n hx hb dL_law_290 rfl (lv_at hl 1 rfl) ?_
  refine lv_iload_n hx hb dL_law_291 rfl (lv_at hl 0 rfl) ?_
  refine lv_iconst (v := 2) hx hb dL_law_292 (by decide) ?_
  refine lv_iadd hx hb dL_law_293 ?_
  rw [show nI i + 2 = nI (i + 2) from nI_add i 2]
  refine va_sld hx hb hX hbl hbA hS (vp_in_nI (show i + 2 < Ln by omega) (by omega)) dL_law_294 ?_
  rw [nI_clamp (show i + 2 < 2 ^ 31 by omega)]
  refine lv_aload_n hx hb dL_law_295 rfl (lv_at hl 1 rfl) ?_
  refine lv_iload_n hx hb dL_law_296 rfl (lv_at hl 0 rfl) ?_
  refine lv_iconst (v := 3) hx hb dL_law_297 (by decide) ?_
  refine lv_iadd hx hb dL_law_298 ?_
  rw [show nI i + 3 = nI (i + 3) from nI_add i 3]
  refine va_sld hx hb hX hbl hbA hS (vp_in_nI (show i + 3 < Ln by omega) (by omega)) dL_law_299 ?_
  rw [nI_clamp (show i + 3 < 2 ^ 31 by omega)]
  refine lv_aload_n hx hb dL_law_300 rfl (lv_at hl 1 rfl) ?_
  refine lv_iload_n hx hb dL_law_301 rfl (lv_at hl 0 rfl) ?_
  refine lv_iconst (v := 4) hx hb dL_law_302 (by decide) ?_
  refine lv_iadd hx hb dL_law_303 ?_
  rw [show nI i + 4 = nI (i + 4) from nI_add i 4]
  refine va_sld hx hb hX hbl hbA hS (vp_in_nI (show i + 4 < Ln by omega) (by omega)) dL_law_304 ?_
  rw [nI_clamp (show i + 4 < 2 ^ 31 by omega)]
  refine xc_W (S0 := Unit) (rw := va_pl L f ++ mb bm cJ cZ v G dn lt ch (nI (cntG G 8))) (As := [.int (xs (i + 1)), .int (xs (i + 2)), .int (xs (i + 3)), .int (xs (i + 4))]) (rest := []) ⟨hx, hb, hml, hown, hts⟩ (c_X1_denies l D a cV cI cG v gg dn lt ch H.size (xs (i + 1)) (xs (i + 2)) (xs (i + 3)) (xs (i + 4))) (cwV 4 hts gL_law_X1_denies rfl rfl rfl (by decide +kernel) ⟨Nat.le_of_ble_eq_true rfl, Nat.le_of_ble_eq_true rfl⟩) xMv0 trivial hP (hK.sub (tys' := cT cV cI cG) [0, 1, 2] rfl) hD hS hA (va_recv hK hP (ci := 1) (q0 := 0) rfl rfl) rfl hl.1 rfl (Nat.le_of_ble_eq_true rfl) dL_law_305 hro (fun r1 _ H locs hr1 hP hD _ hS => ?_)
  rw [hr1]
  refine W.widen (k := ce) (n := se) (Nat.le_refl _) (Nat.le_refl _) ?_
  have hP : va_P D vwCl (cb a cV cI cG v gg (nDeny v dn (xs (i + 1)) (xs (i + 2)) (xs (i + 3)) (xs (i + 4))) lt ch ++ (va_pl L f ++ mb bm cJ cZ v G dn lt ch (nI (cntG G 8)))) H := hP
  have hD : va_D (fun q : Nat => s.heap.size ≤ q) (cb a cV cI cG v gg (nDeny v dn (xs (i + 1)) (xs (i + 2)) (xs (i + 3)) (xs (i + 4))) lt ch ++ (va_pl L f ++ mb bm cJ cZ v G dn lt ch (nI (cntG G 8)))) := hD
  refine lv_aload_n hx hb dL_law_308 rfl (lv_at hl 3 rfl) ?_
  refine lv_aload_n hx hb dL_law_309 rfl (lv_at hl 1 rfl) ?_
  refine lv_iload_n hx hb dL_law_310 rfl (lv_at hl 0 rfl) ?_
  refine lv_iconst (v := 1) hx hb dL_law_311 (by decide) ?_
  refine lv_iadd hx hb dL_law_312 ?_
  rw [show nI i + 1 = nI (i + 1) from nI_add i 1]
  refine va_sld hx hb hX hbl hbA hS (vp_in_nI (show i + 1 < Ln by omega) (by omega)) dL_law_313 ?_
  rw [nI_clamp (show i + 1 < 2 ^ 31 by omega)]
  refine lv_aload_n hx hb dL_law_314 rfl (lv_at hl 1 rfl) ?_
  refine lv_iload_n hx hb dL_law_315 rfl (lv_at hl 0 rfl) ?_
  refine lv_iconst (v := 2) hx hb dL_law_316 (by decide) ?_
  refine lv_iadd hx hb dL_law_317 ?_
  rw [show nI i + 2 = nI (i + 2) from nI_add i 2]
  refine va_sld hx hb hX hbl hbA hS (vp_in_nI (show i + 2 < Ln by omega) (by omega)) dL_law_318 ?_
  rw [nI_clamp (show i + 2 < 2 ^ 31 by omega)]
  refine lv_aload_n hx hb dL_law_319 rfl (lv_at hl 1 rfl) ?_
  refine lv_iload_n hx hb dL_law_320 rfl (lv_at hl 0 rfl) ?_
  refine lv_iconst (v := 3) hx hb dL_law_321 (by decide) ?_
  refine lv_iadd hx hb dL_law_322 ?_
  rw [show nI i + 3 = nI (i + 3) from nI_add i 3]
  refine va_sld hx hb hX hbl hbA hS (vp_in_nI (show i + 3 < Ln by omega) (by omega)) dL_law_323 ?_
  rw [nI_clamp (show i + 3 < 2 ^ 31 by omega)]
  refine lv_aload_n hx hb dL_law_324 rfl (lv_at hl 1 rfl) ?_
  refine lv_iload_n hx hb dL_law_325 rfl (lv_at hl 0 rfl) ?_
  refine lv_iconst (v := 4) hx hb dL_law_326 (by decide) ?_
  refine lv_iadd hx hb dL_law_327 ?_
  rw [show nI i + 4 = nI (i + 4) from nI_add i 4]
  refine va_sld hx hb hX hbl hbA hS (vp_in_nI (show i + 4 < Ln by omega) (by omega)) dL_law_328 ?_
  rw [nI_clamp (show i + 4 < 2 ^ 31 by omega)]
  have hPm := hP; rw [← List.append_assoc] at hPm
  have hPm := xp_c hPm
  have hDm := hD; rw [← List.append_assoc] at hDm
  have hDm := xd_c hDm
  refine xc_W (S0 := Unit) (rw := cb a cV cI cG v gg (nDeny v dn (xs (i + 1)) (xs (i + 2)) (xs (i + 3)) (xs (i + 4))) lt ch ++ va_pl L f) (As := [.int (xs (i + 1)), .int (xs (i + 2)), .int (xs (i + 3)), .int (xs (i + 4))]) (rest := [.int (aDeny v (xs (i + 1)) (xs (i + 2)) (xs (i + 3)) (xs (i + 4)))]) ⟨hx, hb, hml, hown, hts⟩ (c_X2_denies l D bm cJ cZ v G dn lt ch (nI (cntG G 8)) H.size (xs (i + 1)) (xs (i + 2)) (xs (i + 3)) (xs (i + 4)) okv) (cwV 4 hts gL_law_X2_denies rfl rfl rfl (by decide +kernel) ⟨Nat.le_of_ble_eq_true rfl, Nat.le_of_ble_eq_true rfl⟩) xMv0 trivial hPm (hK.sub (tys' := mT cJ cZ) [3, 4] rfl) hDm hS hA (va_recv (hK.sub (tys' := mT cJ cZ) [3, 4] rfl) hPm (ci := 2) (q0 := 0) rfl rfl) rfl hl.1 rfl (Nat.le_of_ble_eq_true rfl) dL_law_329 hro (fun r2 _ H locs hr2 hP hD _ hS => ?_)
  rw [hr2]
  have hP := xp_c hP
  have hD := xd_c hD
  rw [List.append_assoc] at hP hD
  refine lv_icmp_eq (tgt := 812) hx hb dL_law_332 (by decide) (fun c_1 => ?_) (fun c_1 => absurd rfl c_1)
  refine W.widen (k := ce + 1) (n := se + 6) (by omega) (by omega) ?_
  exact nx v G gg L f (nDeny v dn (xs (i + 1)) (xs (i + 2)) (xs (i + 3)) (xs (i + 4))) lt ch H locs ls ⟨hP, hD, hS, hGR, okv, hGo⟩ (lv_sub hl [0, 1, 2, 3] rfl)
set_option maxHeartbeats 4000000 in
set_option maxRecDepth 100000 in
theorem law_pick {p : Program} {l : Launch} {e : Env} {s : State} {m : MethodId} {below : List Frame} {meth : Method} {c : Code} {b Ln : Nat} {xs : Nat → Int32} (hL : Ln ≤ 3072) (C0 : lw_At p s m meth c b Ln xs) {D : va_G} {a bm : Nat → Nat} {cV cI cG cJ cZ : ClassId} (hK : va_K D vwCl (lT cV cI cG cJ cZ) s) (hN : nT s) {i ce se : Nat} (hi : i + 6 ≤ Ln) (hce : ce + 1 ≤ room_1.cells) (hse : se + 6 ≤ room_1.slots) (nx : lNext p l e s m below meth c D a bm cV cI cG cJ cZ b i (ce + 1) (se + 6)) {v : Nat → Nat → Int32} {G : Nat → Option GT} {gg : Nat → Option Nat} {L : List Nat} {f : Nat → va_E} {dn lt ch : Int32} {H : Heap} {locs : List Loc} {ls : Array Slot} (hI : lInv s D a bm cV cI cG cJ cZ v G gg L f dn lt ch H locs) (hl : lv_has ls 4 [(3, .int (nI i)), (0, .ref b), (1, .ref (a 0)), (2, .ref (bm 0))]) : W p l e room_1 s m #[Value.ref b] below meth c H locs ce se (lw_Z below #[Value.ref b] s) (F0 m 337 ls []) := by
  obtain ⟨hx, hb, hr, hml, hown, hts, hX, hbl, hlocks, hgv⟩ := C0
  have hown : s.vm.findClass RL = some m.cls := hown
  have hts : ∀ w ∈ wsL_law, w.before #[Value.ref b] s = true := fun w h => hts w (wsL_law_in w h)
  have hA : ∀ q : Nat, s.heap.size ≤ q → (fun q : Nat => s.heap.size ≤ q) q := fun _ h => h
  have hbA : ¬ (fun q : Nat => s.heap.size ≤ q) b := Nat.not_le.mpr hbl
  have hro : ce ≤ room_1.cells ∧ se ≤ room_1.slots := ⟨by omega, by omega⟩
  have hro1 : ce + 1 ≤ room_1.cells ∧ se + 6 ≤ room_1.slots := ⟨hce, hse⟩
  obtain ⟨hP, hD, hS, hGR, okv, hGo⟩ := hI
  have hP : va_P D vwCl (cb a cV cI cG v gg dn lt ch ++ (va_pl L f ++ mb bm cJ cZ v G dn lt ch (nI (cntG G 8)))) H := hP
  have hD : va_D (fun q : Nat => s.heap.size ≤ q) (cb a cV cI cG v gg dn lt ch ++ (va_pl L f ++ mb bm cJ cZ v G dn lt ch (nI (cntG G 8)))) := hD
  refine lv_aload_n hx hb dL_law_337 rfl (lv_at hl 2 rfl) ?_
  refine lv_aload_n hx hb dL_law_338 rfl (lv_at hl 1 rfl) ?_
  refine lv_iload_n hx hb dL_law_339 rfl (lv_at hl 0 rfl) ?_
  refine lv_iconst (v := 1) hx hb dL_law_340 (by decide) ?_
  refine lv_iadd hx hb dL_law_341 ?_
  rw [show nI i + 1 = nI (i + 1) from nI_add i 1]
  refine va_sld hx hb hX hbl hbA hS (vp_in_nI (show i + 1 < Ln by omega) (by omega)) dL_law_342 ?_
  rw [nI_clamp (show i + 1 < 2 ^ 31 by omega)]
  refine lv_aload_n hx hb dL_law_343 rfl (lv_at hl 1 rfl) ?_
  refine lv_iload_n hx hb dL_law_344 rfl (lv_at hl 0 rfl) ?_
  refine lv_iconst (v := 2) hx hb dL_law_345 (by decide) ?_
  refine lv_iadd hx hb dL_law_346 ?_
  rw [show nI i + 2 = nI (i + 2) from nI_add i 2]
  refine va_sld hx hb hX hbl hbA hS (vp_in_nI (show i + 2 < Ln by omega) (by omega)) dL_law_347 ?_
  rw [nI_clamp (show i + 2 < 2 ^ 31 by omega)]
  refine lv_aload_n hx hb dL_law_348 rfl (lv_at hl 1 rfl) ?_
  refine lv_iload_n hx hb dL_law_349 rfl (lv_at hl 0 rfl) ?_
  refine lv_iconst (v := 3) hx hb dL_law_350 (by decide) ?_
  refine lv_iadd hx hb dL_law_351 ?_
  rw [show nI i + 3 = nI (i + 3) from nI_add i 3]
  refine va_sld hx hb hX hbl hbA hS (vp_in_nI (show i + 3 < Ln by omega) (by omega)) dL_law_352 ?_
  rw [nI_clamp (show i + 3 < 2 ^ 31 by omega)]
  refine lv_aload_n hx hb dL_law_353 rfl (lv_at hl 1 rfl) ?_
  refine lv_iload_n hx hb dL_law_354 rfl (lv_at hl 0 rfl) ?_
  refine lv_iconst (v := 4) hx hb dL_law_355 (by decide) ?_
  refine lv_iadd hx hb dL_law_356 ?_
  rw [show nI i + 4 = nI (i + 4) from nI_add i 4]
  refine va_sld hx hb hX hbl hbA hS (vp_in_nI (show i + 4 < Ln by omega) (by omega)) dL_law_357 ?_
  rw [nI_clamp (show i + 4 < 2 ^ 31 by omega)]
  refine xc_R (wd := cb a cV cI cG v gg dn lt ch) (As := [.int (xs (i + 1)), .int (xs (i + 2)), .int (xs (i + 3)), .int (xs (i + 4))]) (rest := []) ⟨hx, hb, hml, hown, hts⟩ (c_X1_pick l D a cV cI cG v gg dn lt ch (xs (i + 1)) (xs (i + 2)) (xs (i + 3)) (xs (i + 4))) (cwV 4 hts gL_law_X1_pick rfl rfl rfl (by decide +kernel) ⟨Nat.le_of_ble_eq_true rfl, Nat.le_of_ble_eq_true rfl⟩) xMv0 trivial (xp_l hP) (hK.sub (tys' := cT cV cI cG) [0, 1, 2] rfl) (va_recv hK hP (ci := 1) (q0 := 0) rfl rfl) rfl hl.1 rfl (Nat.le_of_ble_eq_true rfl) dL_law_358 hro ?_
  refine lv_aload_n hx hb dL_law_361 rfl (lv_at hl 3 rfl) ?_
  refine lv_aload_n hx hb dL_law_362 rfl (lv_at hl 1 rfl) ?_
  refine lv_iload_n hx hb dL_law_363 rfl (lv_at hl 0 rfl) ?_
  refine lv_iconst (v := 1) hx hb dL_law_364 (by decide) ?_
  refine lv_iadd hx hb dL_law_365 ?_
  rw [show nI i + 1 = nI (i + 1) from nI_add i 1]
  refine va_sld hx hb hX hbl hbA hS (vp_in_nI (show i + 1 < Ln by omega) (by omega)) dL_law_366 ?_
  rw [nI_clamp (show i + 1 < 2 ^ 31 by omega)]
  refine lv_aload_n hx hb dL_law_367 rfl (lv_at hl 1 rfl) ?_
  refine lv_iload_n hx hb dL_law_368 rfl (lv_at hl 0 rfl) ?_
  refine lv_iconst (v := 2) hx hb dL_law_369 (by decide) ?_
  refine lv_iadd hx hb dL_law_370 ?_
  rw [show nI i + 2 = nI (i + 2) from nI_add i 2]
  refine va_sld hx hb hX hbl hbA hS (vp_in_nI (show i + 2 < Ln by omega) (by omega)) dL_law_371 ?_
  rw [nI_clamp (show i + 2 < 2 ^ 31 by omega)]
  refine lv_aload_n hx hb dL_law_372 rfl (lv_at hl 1 rfl) ?_
  refine lv_iload_n hx hb dL_law_373 rfl (lv_at hl 0 rfl) ?_
  refine lv_iconst (v := 3) hx hb dL_law_374 (by decide) ?_
  refine lv_iadd hx hb dL_law_375 ?_
  rw [show nI i + 3 = nI (i + 3) from nI_add i 3]
  refine va_sld hx hb hX hbl hbA hS (vp_in_nI (show i + 3 < Ln by omega) (by omega)) dL_law_376 ?_
  rw [nI_clamp (show i + 3 < 2 ^ 31 by omega)]
  refine lv_aload_n hx hb dL_law_377 rfl (lv_at hl 1 rfl) ?_
  refine lv_iload_n hx hb dL_law_378 rfl (lv_at hl 0 rfl) ?_
  refine lv_iconst (v := 4) hx hb dL_law_379 (by decide) ?_
  refine lv_iadd hx hb dL_law_380 ?_
  rw [show nI i + 4 = nI (i + 4) from nI_add i 4]
  refine va_sld hx hb hX hbl hbA hS (vp_in_nI (show i + 4 < Ln by omega) (by omega)) dL_law_381 ?_
  rw [nI_clamp (show i + 4 < 2 ^ 31 by omega)]
  have hPm := hP; rw [← List.append_assoc] at hPm
  have hPm := xp_c hPm
  refine xc_R (wd := mb bm cJ cZ v G dn lt ch (nI (cntG G 8))) (As := [.int (xs (i + 1)), .int (xs (i + 2)), .int (xs (i + 3)), .int (xs (i + 4))]) (rest := [.int (aPick v (xs (i + 1)) (xs (i + 2)) (xs (i + 3)) (xs (i + 4)))]) ⟨hx, hb, hml, hown, hts⟩ (c_X2_pick l D bm cJ cZ v G dn lt ch (nI (cntG G 8)) (xs (i + 1)) (xs (i + 2)) (xs (i + 3)) (xs (i + 4)) okv) (cwV 4 hts gL_law_X2_pick rfl rfl rfl (by decide +kernel) ⟨Nat.le_of_ble_eq_true rfl, Nat.le_of_ble_eq_true rfl⟩) xMv0 trivial (xp_l hPm) (hK.sub (tys' := mT cJ cZ) [3, 4] rfl) (va_recv (hK.sub (tys' := mT cJ cZ) [3, 4] rfl) hPm (ci := 2) (q0 := 0) rfl rfl) rfl hl.1 rfl (Nat.le_of_ble_eq_true rfl) dL_law_382 hro ?_
  refine lv_icmp_eq (tgt := 812) hx hb dL_law_385 (by decide) (fun c_1 => ?_) (fun c_1 => absurd rfl c_1)
  refine W.widen (k := ce + 1) (n := se + 6) (by omega) (by omega) ?_
  exact nx v G gg L f dn lt ch H locs ls ⟨hP, hD, hS, hGR, okv, hGo⟩ (lv_sub hl [0, 1, 2, 3] rfl)
