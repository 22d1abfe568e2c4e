/-! Arrays.fill, TunerBench() -/
theorem arrV_congr {c : ClassId} {n : Nat} {f g : Nat → Value} (h : ∀ j, j < n → f j = g j) : arrV c n f = arrV c n g := by
  unfold arrV
  congr 1
  apply Array.ext
  · simp
  · intro i h1 h2
    simp at h1
    simpa using h i h1
theorem va_ci {D : va_G} {cl : List vw_C} {a n : Nat} {cA : ClassId} {f g : Nat → Int32} {H : Heap} (h : ∀ j, j < n → f j = g j) (hP : va_at D cl (a, .inl (cA, n, .inl f)) H) : va_at D cl (a, .inl (cA, n, .inl g)) H := by
  have e : vp_cell cA (n, .inl f) = vp_cell cA (n, .inl g) := by
    show arrV cA n (fun j => .int (f j)) = arrV cA n (fun j => .int (g j))
    exact arrV_congr (fun j hj => by rw [h j hj])
  show H[a]? = some (vp_cell cA (n, .inl g))
  rw [← e]
  exact hP
theorem va_cr {D : va_G} {cl : List vw_C} {a n : Nat} {cA : ClassId} {f g : Nat → Option Nat} {H : Heap} (h : ∀ j, j < n → f j = g j) (hP : va_at D cl (a, .inl (cA, n, .inr (.inr (.inr (.inr f))))) H) : va_at D cl (a, .inl (cA, n, .inr (.inr (.inr (.inr g))))) H := by
  have e : vp_cell cA (n, .inr (.inr (.inr (.inr f)))) = vp_cell cA (n, .inr (.inr (.inr (.inr g)))) := by
    show arrV cA n (fun j => va_rf (f j)) = arrV cA n (fun j => va_rf (g j))
    exact arrV_congr (fun j hj => by rw [h j hj])
  show H[a]? = some (vp_cell cA (n, .inr (.inr (.inr (.inr g)))))
  rw [← e]
  exact hP
theorem xd_ad {A : Nat → Prop} {ws ws' : va_W} (hD : va_D A ws) (h : ws.map (fun q => q.1) = ws'.map (fun q => q.1)) : va_D A ws' := by
  have hl : ws.length = ws'.length := by have := congrArg List.length h; simpa using this
  have key : ∀ (k : Nat) (q : Nat × va_E), ws'[k]? = some q → ∃ e : va_E, ws[k]? = some (q.1, e) := fun k q hk => by
    have h1 : (ws'.map (fun q => q.1))[k]? = some q.1 := by rw [List.getElem?_map, hk]; rfl
    rw [← h, List.getElem?_map] at h1
    cases hw : ws[k]? with
    | none => rw [hw] at h1; cases h1
    | some x =>
      rw [hw] at h1
      have : x.1 = q.1 := Option.some.inj h1
      exact ⟨x.2, by rw [← this]⟩
  refine ⟨fun i j p q hi hj e => ?_, fun k q hk => ?_⟩
  · obtain ⟨e1, h1⟩ := key i p hi
    obtain ⟨e2, h2⟩ := key j q hj
    exact hD.1 i j _ _ h1 h2 e
  · obtain ⟨e1, h1⟩ := key k q hk
    exact hD.2 k (q.1, e1) h1
def flF (f : Nat → Int32) (x : Int32) (k : Nat) : Nat → Int32 := fun j => if j < k then x else f j
theorem flF_up (f : Nat → Int32) (x : Int32) (k : Nat) : upd (flF f x k) k x = flF f x (k + 1) := by
  funext j
  by_cases h : j = k
  · subst h; simp [upd, flF]
  · by_cases h2 : j < k
    · simp [upd, flF, h, h2, show j < k + 1 by omega]
    · simp [upd, flF, h, h2, show ¬ j < k + 1 by omega]
theorem flF_0 (f : Nat → Int32) (x : Int32) : flF f x 0 = f := by funext j; simp [flF]
set_option maxHeartbeats 4000000 in
set_option maxRecDepth 100000 in
theorem c_J7_fill_53178 (l : Launch) (D : va_G) (b : Nat) (cI : ClassId) (f : Nat → Int32) (x : Int32) (sz : Nat) : Met l yJ7_fill_53178 wsJ7_fill_53178 ({ frames := 0, cells := 0, slots := 0, locals := 0 }) (xW D vwCl [(b, .inl (cI, 33, .inl f))] [(cI, .int)] xB0 sz [.ref b, .int x]) (xQv (S := Unit) D vwCl (fun _ => True) (fun _ => [(b, .inl (cI, 33, .inl (fun _ => x)))]) (fun _ => [(cI, .int)]) (va_A [(b, .inl (cI, 33, .inl f))] sz)) 0 0 (va_A [(b, .inl (cI, 33, .inl f))] sz) := by
  refine xw_in (Qf := xQv (S := Unit) D vwCl (fun _ => True) (fun _ => [(b, .inl (cI, 33, .inl (fun _ => x)))]) (fun _ => [(cI, .int)])) (cc := cJ7_fill_53178) (maxL := 4) (ret := none) (by decide) rfl (Nat.le_of_ble_eq_true rfl) ?_
  intro p e s m below meth c ls A hx hb hr hml hts hown hlk hnm hA hP hK hD hS hB hl
  have hl : lv_has ls 4 [(0, .ref b), (1, .int x)] := hl
  have loop : ∀ (n k : Nat), k + n = 33 → ∀ (H : Heap) (locs : List Loc), va_P D vwCl [(b, .inl (cI, 33, .inl (flF f x k)))] H → va_D A [(b, .inl (cI, 33, .inl (flF f x k)))] → va_S A s.heap H locs → ∀ ls : Array Slot, lv_has ls 4 [(2, .int (nI k)), (0, .ref b), (1, .int x), (3, .int 33)] → W p l e ({ frames := 0, cells := 0, slots := 0, locals := 0 }) s m ([.ref b, .int x] : List Value).toArray below meth c H locs 0 0 (MQ below ((xQv (S := Unit) D vwCl (fun _ => True) (fun _ => [(b, .inl (cI, 33, .inl (fun _ => x)))]) (fun _ => [(cI, .int)])) A) ([.ref b, .int x] : List Value).toArray s 0 0 A) (F0 m 5 ls []) := by
    intro n
    induction n with
    | zero =>
      intro k hk H locs hP hD hS ls hl
      obtain rfl : k = 33 := by omega
      refine lv_iload_n hx hb dJ7_fill_53178_5 rfl (lv_at hl 0 rfl) ?_
      refine lv_iload_n hx hb dJ7_fill_53178_6 rfl (lv_at hl 3 rfl) ?_
      refine lv_icmp_ge (tgt := 20) hx hb dJ7_fill_53178_7 (by decide) (fun c_1 => ?_) (fun c_1 => absurd (by decide) c_1)
      have hP : va_P D vwCl [(b, .inl (cI, 33, .inl (fun _ => x)))] H := fun k q hk => by
        match k, hk with
        | 0, hk => cases hk; exact va_ci (fun j hj => by simp [flF, hj]) (hP 0 _ rfl)
        | k + 1, hk => simp at hk
      have hD : va_D A [(b, .inl (cI, 33, .inl (fun _ => x)))] := xd_ad hD rfl
      exact xw_v (S := Unit) () hx hb hr hlk dJ7_fill_53178_20 hP hK hD hS trivial
    | succ n ih =>
      intro k hk H locs hP hD hS ls hl
      refine lv_iload_n hx hb dJ7_fill_53178_5 rfl (lv_at hl 0 rfl) ?_
      refine lv_iload_n hx hb dJ7_fill_53178_6 rfl (lv_at hl 3 rfl) ?_
      refine lv_icmp_ge (tgt := 20) hx hb dJ7_fill_53178_7 (by decide) (fun c_2 => absurd c_2 (nI_ge (show k < 33 by omega) (by decide))) (fun c_2 => ?_)
      refine lv_aload_n hx hb dJ7_fill_53178_10 rfl (lv_at hl 1 rfl) ?_
      refine lv_iload_n hx hb dJ7_fill_53178_11 rfl (lv_at hl 0 rfl) ?_
      refine lv_iload_n hx hb dJ7_fill_53178_12 rfl (lv_at hl 2 rfl) ?_
      refine va_iast (D := D) hx hb hK hP hD hS 0 0 rfl rfl (vp_in_nI (show k < 33 by omega) (by decide)) dJ7_fill_53178_13 (fun H locs hP hD hS => ?_)
      rw [nI_clamp (show k < 2 ^ 31 by omega)] at hP hD
      have hP : va_P D vwCl [(b, .inl (cI, 33, .inl (flF f x (k + 1))))] H := by rw [← flF_up]; exact hP
      have hD : va_D A [(b, .inl (cI, 33, .inl (flF f x (k + 1))))] := by rw [← flF_up]; exact hD
      refine lv_iinc (v := nI (k + 1)) (lv' := [(2, .int (nI (k + 1))), (0, .ref b), (1, .int x), (3, .int 33)]) hx hb dJ7_fill_53178_14 hl (k := 0) rfl (nI_1 k) (by decide) rfl (fun ls hl => ?_)
      refine lv_goto (tgt := 5) hx hb dJ7_fill_53178_17 (by decide) ?_
      exact ih (k + 1) (by omega) H locs hP hD hS ls (lv_sub hl [0, 1, 2, 3] rfl)
  refine lv_iconst (v := 0) hx hb dJ7_fill_53178_0 (by decide) ?_
  refine lv_istore_n (lv' := [(2, .int 0), (0, .ref b), (1, .int x)]) hx hb dJ7_fill_53178_1 rfl hl (by decide) rfl (fun ls hl => ?_)
  refine lv_aload_n hx hb dJ7_fill_53178_2 rfl (lv_at hl 1 rfl) ?_
  refine va_alen (D := D) hx hb hK hP 0 0 rfl rfl (v := 33) rfl dJ7_fill_53178_3 ?_
  refine lv_istore_n (lv' := [(3, .int 33), (2, .int 0), (0, .ref b), (1, .int x)]) hx hb dJ7_fill_53178_4 rfl hl (by decide) rfl (fun ls hl => ?_)
  exact loop 33 0 (by omega) _ _ (by rw [flF_0]; exact hP) (by rw [flF_0]; exact hD) hS ls (lv_sub hl [1, 2, 3, 0] rfl)
def iT (U : State) : Prop := va_AO "TunerBench$Guard" U ∧ (Cond.arrayOver (.array .int)).before #[] U = true
theorem xMvI : xMv iT := ⟨fun u U h q => ⟨va_AO.moved (by rw [h]; exact Vm.Alike.refl U.vm) q.1, over_moved (by rw [h]; exact Vm.Alike.refl U.vm) q.2⟩, fun u U hW q => ⟨va_AO.moved hW.alike q.1, over_moved hW.alike q.2⟩⟩
set_option maxHeartbeats 4000000 in
set_option maxRecDepth 100000 in
theorem c_X1_init (l : Launch) (D : va_G) (b sz : Nat) : Met l yX1_init wsX1_init ({ frames := 1, cells := 4, slots := 76, locals := 23 }) (xW D vwCl [(b, .inr (1, [.null, .null, .int 0, .int 0, .int 0]))] [] iT sz [.ref b]) (xQv (S := (Nat → Nat) × ClassId × ClassId × ClassId) D vwCl (fun u => u.1 0 = b) (fun u => cb u.1 u.2.1 u.2.2.1 u.2.2.2 (fun _ _ => 40003) (fun _ => none) 0 (-1) 0) (fun u => cT u.2.1 u.2.2.1 u.2.2.2) (va_A [(b, .inr (1, [.null, .null, .int 0, .int 0, .int 0]))] sz)) 4 76 (va_A [(b, .inr (1, [.null, .null, .int 0, .int 0, .int 0]))] sz) := by
  refine xw_in (Qf := xQv (S := (Nat → Nat) × ClassId × ClassId × ClassId) D vwCl (fun u => u.1 0 = b) (fun u => cb u.1 u.2.1 u.2.2.1 u.2.2.2 (fun _ _ => 40003) (fun _ => none) 0 (-1) 0) (fun u => cT u.2.1 u.2.2.1 u.2.2.2)) (cc := cX1_init) (maxL := 2) (ret := none) (by decide) rfl (Nat.le_of_ble_eq_true rfl) ?_
  intro p e s m below meth c ls A hx hb hr hml hts hown hlk hnm hA hP hK hD hS hB hl
  have hown : s.vm.findClass RX1 = some m.cls := hown
  have hin : meth.name = "<init>" := hnm
  have hl : lv_has ls 2 [(0, .ref b)] := hl
  have hiF : ∀ w ∈ wsX10, w ∈ wsX1_init := by decide +kernel
  refine lv_aload_n hx hb dX1_init_0 rfl (lv_at hl 0 rfl) ?_
  refine W.objInit hx hb hown (hts (.methodLink RX1 3 objectInit) (by decide +kernel)) (hts (.instanceMethod objectInit) (by decide +kernel)) (hts _ (List.mem_cons_of_mem _ (List.mem_append_left _ (List.mem_of_getElem? (i := 2) rfl)))) rfl (by rw [hml]; exact hl.1) rfl dX1_init_1 (Nat.le_of_ble_eq_true rfl) (Nat.le_of_ble_eq_true rfl) ?_
  refine W.eq (g2 := F0 m 4 ls []) rfl ?_
  refine lv_aload_n hx hb dX1_init_4 rfl (lv_at hl 0 rfl) ?_
  refine lv_iconst (v := 2) hx hb dX1_init_5 (by decide) ?_
  refine lv_bipush (v := 33) hx hb dX1_init_6 (by decide) ?_
  refine xa_mna (D := D) hx hb hown (hts (.classLink RX1 9 "[[I") (by decide +kernel)) hB.2 (hts (.arrayClass .int) (by decide +kernel)) hK hP hD hS hA (Nat.le_of_ble_eq_true rfl) (Nat.le_of_ble_eq_true rfl) dX1_init_8 (fun q cV cI H locs hK hP hD hS => ?_)
  have hP : va_P D vwCl [(b, .inr (1, [.null, .null, .int 0, .int 0, .int 0])), (q, .inl (cV, 2, .inr (.inr (.inr (.inr (fun i => some (q + 1 + i))))))), (q + 1, .inl (cI, 33, .inl (fun _ => 0))), (q + 2, .inl (cI, 33, .inl (fun _ => 0)))] H := hP
  have hD : va_D A [(b, .inr (1, [.null, .null, .int 0, .int 0, .int 0])), (q, .inl (cV, 2, .inr (.inr (.inr (.inr (fun i => some (q + 1 + i))))))), (q + 1, .inl (cI, 33, .inl (fun _ => 0))), (q + 2, .inl (cI, 33, .inl (fun _ => 0)))] := hD
  have hK : va_K D vwCl [(cV, .array .int), (cI, .int)] s := hK
  refine W.widen (k := 3) (n := 68) (Nat.le_of_ble_eq_true rfl) (Nat.le_of_ble_eq_true rfl) ?_
  refine va_putF (D := D) (ci := 1) (v := .ref q) (ty := .array (.array .int)) (C := RX1) (T := TX1) (N := 5) hx hb hts hiF tyX1 tyX1_ok nmX1 hown hK hP hD hS 0 rfl rfl 0 (by decide) (hts (.fieldLink RX1 11 "TunerBench" "values" "[[I") (by decide +kernel)) (fun _ h9 => h9) rfl hin rfl (by decide +kernel) rfl rfl (Nat.le_of_ble_eq_true rfl) dX1_init_12 (fun H locs hP hD hS => ?_)
  have hP : va_P D vwCl [(b, .inr (1, [.ref q, .null, .int 0, .int 0, .int 0])), (q, .inl (cV, 2, .inr (.inr (.inr (.inr (fun i => some (q + 1 + i))))))), (q + 1, .inl (cI, 33, .inl (fun _ => 0))), (q + 2, .inl (cI, 33, .inl (fun _ => 0)))] H := hP
  have hD : va_D A [(b, .inr (1, [.ref q, .null, .int 0, .int 0, .int 0])), (q, .inl (cV, 2, .inr (.inr (.inr (.inr (fun i => some (q + 1 + i))))))), (q + 1, .inl (cI, 33, .inl (fun _ => 0))), (q + 2, .inl (cI, 33, .inl (fun _ => 0)))] := hD
  refine lv_aload_n hx hb dX1_init_15 rfl (lv_at hl 0 rfl) ?_
  refine lv_bipush (v := 8) hx hb dX1_init_16 (by decide) ?_
  refine va_newq (D := D) (C := "TunerBench$Guard") hx hb hown (hts (.classLink RX1 14 RX0) (by decide +kernel)) hB.1 hK hP hD hS hA (by decide) (N' := 8) (by decide) (by decide) (Nat.le_of_ble_eq_true rfl) (Nat.le_of_ble_eq_true rfl) dX1_init_18 (fun q4 cG H hK hP hD hS => ?_)
  have hP : va_P D vwCl [(b, .inr (1, [.ref q, .null, .int 0, .int 0, .int 0])), (q, .inl (cV, 2, .inr (.inr (.inr (.inr (fun i => some (q + 1 + i))))))), (q + 1, .inl (cI, 33, .inl (fun _ => 0))), (q + 2, .inl (cI, 33, .inl (fun _ => 0))), (q4, .inl (cG, 8, .inr (.inr (.inr (.inr (fun _ => none))))))] H := hP
  have hD : va_D A [(b, .inr (1, [.ref q, .null, .int 0, .int 0, .int 0])), (q, .inl (cV, 2, .inr (.inr (.inr (.inr (fun i => some (q + 1 + i))))))), (q + 1, .inl (cI, 33, .inl (fun _ => 0))), (q + 2, .inl (cI, 33, .inl (fun _ => 0))), (q4, .inl (cG, 8, .inr (.inr (.inr (.inr (fun _ => none))))))] := hD
  have hK : va_K D vwCl (cT cV cI cG) s := hK
  refine W.widen (k := 4) (n := 76) (Nat.le_of_ble_eq_true rfl) (Nat.le_of_ble_eq_true rfl) ?_
  refine va_putF (D := D) (ci := 1) (v := .ref q4) (ty := .array (.object "TunerBench$Guard")) (C := RX1) (T := TX1) (N := 5) hx hb hts hiF tyX1 tyX1_ok nmX1 hown hK hP hD hS 0 rfl rfl 1 (by decide) (hts (.fieldLink RX1 16 "TunerBench" "guards" "[LTunerBench$Guard;") (by decide +kernel)) (fun _ h9 => h9) rfl hin rfl (by decide +kernel) rfl rfl (Nat.le_of_ble_eq_true rfl) dX1_init_21 (fun H locs hP hD hS => ?_)
  have hP : va_P D vwCl [(b, .inr (1, [.ref q, .ref q4, .int 0, .int 0, .int 0])), (q, .inl (cV, 2, .inr (.inr (.inr (.inr (fun i => some (q + 1 + i))))))), (q + 1, .inl (cI, 33, .inl (fun _ => 0))), (q + 2, .inl (cI, 33, .inl (fun _ => 0))), (q4, .inl (cG, 8, .inr (.inr (.inr (.inr (fun _ => none))))))] H := hP
  have hD : va_D A [(b, .inr (1, [.ref q, .ref q4, .int 0, .int 0, .int 0])), (q, .inl (cV, 2, .inr (.inr (.inr (.inr (fun i => some (q + 1 + i))))))), (q + 1, .inl (cI, 33, .inl (fun _ => 0))), (q + 2, .inl (cI, 33, .inl (fun _ => 0))), (q4, .inl (cG, 8, .inr (.inr (.inr (.inr (fun _ => none))))))] := hD
  refine lv_aload_n hx hb dX1_init_24 rfl (lv_at hl 0 rfl) ?_
  refine lv_iconst (v := 0) hx hb dX1_init_25 (by decide) ?_
  refine va_put (D := D) (ci := 1) (v := .int 0) (ty := .int) (C := RX1) (T := TX1) (N := 5) hx hb hts hiF tyX1 tyX1_ok nmX1 hown hK hP hD hS 0 rfl rfl 2 (by decide) (hts (.fieldLink RX1 20 "TunerBench" "denials" "I") (by decide +kernel)) (fun _ h9 => h9) rfl (by decide +kernel) rfl rfl (Nat.le_of_ble_eq_true rfl) dX1_init_26 (fun H locs hP hD hS => ?_)
  have hP : va_P D vwCl [(b, .inr (1, [.ref q, .ref q4, .int 0, .int 0, .int 0])), (q, .inl (cV, 2, .inr (.inr (.inr (.inr (fun i => some (q + 1 + i))))))), (q + 1, .inl (cI, 33, .inl (fun _ => 0))), (q + 2, .inl (cI, 33, .inl (fun _ => 0))), (q4, .inl (cG, 8, .inr (.inr (.inr (.inr (fun _ => none))))))] H := hP
  have hD : va_D A [(b, .inr (1, [.ref q, .ref q4, .int 0, .int 0, .int 0])), (q, .inl (cV, 2, .inr (.inr (.inr (.inr (fun i => some (q + 1 + i))))))), (q + 1, .inl (cI, 33, .inl (fun _ => 0))), (q + 2, .inl (cI, 33, .inl (fun _ => 0))), (q4, .inl (cG, 8, .inr (.inr (.inr (.inr (fun _ => none))))))] := hD
  refine lv_aload_n hx hb dX1_init_29 rfl (lv_at hl 0 rfl) ?_
  refine lv_iconst (v := -1) hx hb dX1_init_30 (by decide) ?_
  refine va_put (D := D) (ci := 1) (v := .int (-1)) (ty := .int) (C := RX1) (T := TX1) (N := 5) hx hb hts hiF tyX1 tyX1_ok nmX1 hown hK hP hD hS 0 rfl rfl 3 (by decide) (hts (.fieldLink RX1 24 "TunerBench" "latestTruth" "I") (by decide +kernel)) (fun _ h9 => h9) rfl (by decide +kernel) rfl rfl (Nat.le_of_ble_eq_true rfl) dX1_init_31 (fun H locs hP hD hS => ?_)
  have hP : va_P D vwCl [(b, .inr (1, [.ref q, .ref q4, .int 0, .int (-1), .int 0])), (q, .inl (cV, 2, .inr (.inr (.inr (.inr (fun i => some (q + 1 + i))))))), (q + 1, .inl (cI, 33, .inl (fun _ => 0))), (q + 2, .inl (cI, 33, .inl (fun _ => 0))), (q4, .inl (cG, 8, .inr (.inr (.inr (.inr (fun _ => none))))))] H := hP
  have hD : va_D A [(b, .inr (1, [.ref q, .ref q4, .int 0, .int (-1), .int 0])), (q, .inl (cV, 2, .inr (.inr (.inr (.inr (fun i => some (q + 1 + i))))))), (q + 1, .inl (cI, 33, .inl (fun _ => 0))), (q + 2, .inl (cI, 33, .inl (fun _ => 0))), (q4, .inl (cG, 8, .inr (.inr (.inr (.inr (fun _ => none))))))] := hD
  refine lv_aload_n hx hb dX1_init_34 rfl (lv_at hl 0 rfl) ?_
  refine lv_iconst (v := 0) hx hb dX1_init_35 (by decide) ?_
  refine va_put (D := D) (ci := 1) (v := .int 0) (ty := .int) (C := RX1) (T := TX1) (N := 5) hx hb hts hiF tyX1 tyX1_ok nmX1 hown hK hP hD hS 0 rfl rfl 4 (by decide) (hts (.fieldLink RX1 27 "TunerBench" "changes" "I") (by decide +kernel)) (fun _ h9 => h9) rfl (by decide +kernel) rfl rfl (Nat.le_of_ble_eq_true rfl) dX1_init_36 (fun H locs hP hD hS => ?_)
  have hP : va_P D vwCl [(b, .inr (1, [.ref q, .ref q4, .int 0, .int (-1), .int 0])), (q, .inl (cV, 2, .inr (.inr (.inr (.inr (fun i => some (q + 1 + i))))))), (q + 1, .inl (cI, 33, .inl (fun _ => 0))), (q + 2, .inl (cI, 33, .inl (fun _ => 0))), (q4, .inl (cG, 8, .inr (.inr (.inr (.inr (fun _ => none))))))] H := hP
  have hD : va_D A [(b, .inr (1, [.ref q, .ref q4, .int 0, .int (-1), .int 0])), (q, .inl (cV, 2, .inr (.inr (.inr (.inr (fun i => some (q + 1 + i))))))), (q + 1, .inl (cI, 33, .inl (fun _ => 0))), (q + 2, .inl (cI, 33, .inl (fun _ => 0))), (q4, .inl (cG, 8, .inr (.inr (.inr (.inr (fun _ => none))))))] := hD
  refine lv_iconst (v := 0) hx hb dX1_init_39 (by decide) ?_
  refine lv_istore_n (lv' := [(1, .int 0), (0, .ref b)]) hx hb dX1_init_40 rfl hl (by decide) rfl (fun ls hl => ?_)
  refine lv_iload_n hx hb dX1_init_41 rfl (lv_at hl 0 rfl) ?_
  refine lv_iconst (v := 2) hx hb dX1_init_42 (by decide) ?_
  refine lv_icmp_ge (tgt := 63) hx hb dX1_init_43 (by decide) (fun c_1 => absurd c_1 (by decide)) (fun c_1 => ?_)
  refine lv_aload_n hx hb dX1_init_46 rfl (lv_at hl 1 rfl) ?_
  refine va_get (D := D) (ci := 1) (v := .ref q) (C := RX1) (T := TX1) (N := 5) hx hb hts hiF hown hK hP 0 rfl rfl 0 (by decide) (hts (.fieldLink RX1 11 "TunerBench" "values" "[[I") (by decide +kernel)) (fun _ h9 => h9) rfl dX1_init_47 ?_
  refine lv_iload_n hx hb dX1_init_50 rfl (lv_at hl 0 rfl) ?_
  refine xa_ald (D := D) (f := fun i => q + 1 + i) hx hb hK hP 1 0 rfl rfl (show vp_in (0) 2 by unfold vp_in; decide) dX1_init_51 ?_
  refine W.eq (g2 := F0 m 52 ls [.ref (q + 1)]) (by rw [show (0 : Int32).toNatClampNeg = 0 by decide]) ?_
  refine lv_ldc (v := 40003) hx hb hown (hts (.constant RX1 30 (40003)) (by decide +kernel)) dX1_init_52 ?_
  have hPn : va_P D vwCl ([(q + 1, .inl (cI, 33, .inl (fun _ => 0)))] ++ [(b, .inr (1, [.ref q, .ref q4, .int 0, .int (-1), .int 0])), (q, .inl (cV, 2, .inr (.inr (.inr (.inr (fun i => some (q + 1 + i))))))), (q + 2, .inl (cI, 33, .inl (fun _ => 0))), (q4, .inl (cG, 8, .inr (.inr (.inr (.inr (fun _ => none))))))]) H := hP.sub [2, 0, 1, 3, 4] rfl
  have hDn : va_D A ([(q + 1, .inl (cI, 33, .inl (fun _ => 0)))] ++ [(b, .inr (1, [.ref q, .ref q4, .int 0, .int (-1), .int 0])), (q, .inl (cV, 2, .inr (.inr (.inr (.inr (fun i => some (q + 1 + i))))))), (q + 2, .inl (cI, 33, .inl (fun _ => 0))), (q4, .inl (cG, 8, .inr (.inr (.inr (.inr (fun _ => none))))))]) := hD.sub [2, 0, 1, 3, 4] (by decide) rfl
  refine xc_Sv (S0 := Unit) (rw := [(b, .inr (1, [.ref q, .ref q4, .int 0, .int (-1), .int 0])), (q, .inl (cV, 2, .inr (.inr (.inr (.inr (fun i => some (q + 1 + i))))))), (q + 2, .inl (cI, 33, .inl (fun _ => 0))), (q4, .inl (cG, 8, .inr (.inr (.inr (.inr (fun _ => none))))))]) (As := [.ref (q + 1), .int 40003]) (rest := []) ⟨hx, hb, hml, hown, hts⟩ (c_J7_fill_53178 l D (q + 1) cI (fun _ => 0) 40003 H.size) (va_cwS 2 hts gX1_init_J7_fill_53178 rfl rfl rfl (by decide +kernel) ⟨Nat.le_of_ble_eq_true rfl, Nat.le_of_ble_eq_true rfl⟩) xMv0 trivial hPn (hK.sub (tys' := [(cI, .int)]) [1] rfl) hDn hS hA rfl hl.1 rfl (Nat.le_of_ble_eq_true rfl) dX1_init_54 ⟨Nat.le_of_ble_eq_true rfl, Nat.le_of_ble_eq_true rfl⟩ (fun _ H locs _ hP hD _ hS => ?_)
  have hP : va_P D vwCl [(b, .inr (1, [.ref q, .ref q4, .int 0, .int (-1), .int 0])), (q, .inl (cV, 2, .inr (.inr (.inr (.inr (fun i => some (q + 1 + i))))))), (q + 1, .inl (cI, 33, .inl (fun _ => 40003))), (q + 2, .inl (cI, 33, .inl (fun _ => 0))), (q4, .inl (cG, 8, .inr (.inr (.inr (.inr (fun _ => none))))))] H := hP.sub [1, 2, 0, 3, 4] rfl
  have hD : va_D A [(b, .inr (1, [.ref q, .ref q4, .int 0, .int (-1), .int 0])), (q, .inl (cV, 2, .inr (.inr (.inr (.inr (fun i => some (q + 1 + i))))))), (q + 1, .inl (cI, 33, .inl (fun _ => 40003))), (q + 2, .inl (cI, 33, .inl (fun _ => 0))), (q4, .inl (cG, 8, .inr (.inr (.inr (.inr (fun _ => none))))))] := hD.sub [1, 2, 0, 3, 4] (by decide) rfl
  refine lv_iinc (v := 0 + 1) (lv' := [(1, .int (0 + 1)), (0, .ref b)]) hx hb dX1_init_57 hl (k := 0) rfl (rfl) (by decide) rfl (fun ls hl => ?_)
  refine lv_goto (tgt := 41) hx hb dX1_init_60 (by decide) ?_
  refine lv_iload_n hx hb dX1_init_41 rfl (lv_at hl 0 rfl) ?_
  refine lv_iconst (v := 2) hx hb dX1_init_42 (by decide) ?_
  refine lv_icmp_ge (tgt := 63) hx hb dX1_init_43 (by decide) (fun c_2 => absurd c_2 (by decide)) (fun c_2 => ?_)
  refine lv_aload_n hx hb dX1_init_46 rfl (lv_at hl 1 rfl) ?_
  refine va_get (D := D) (ci := 1) (v := .ref q) (C := RX1) (T := TX1) (N := 5) hx hb hts hiF hown hK hP 0 rfl rfl 0 (by decide) (hts (.fieldLink RX1 11 "TunerBench" "values" "[[I") (by decide +kernel)) (fun _ h9 => h9) rfl dX1_init_47 ?_
  refine lv_iload_n hx hb dX1_init_50 rfl (lv_at hl 0 rfl) ?_
  refine xa_ald (D := D) (f := fun i => q + 1 + i) hx hb hK hP 1 0 rfl rfl (show vp_in (0 + 1) 2 by unfold vp_in; decide) dX1_init_51 ?_
  refine W.eq (g2 := F0 m 52 ls [.ref (q + 2)]) (by rw [show (0 + 1 : Int32).toNatClampNeg = 1 by decide]) ?_
  refine lv_ldc (v := 40003) hx hb hown (hts (.constant RX1 30 (40003)) (by decide +kernel)) dX1_init_52 ?_
  have hPn : va_P D vwCl ([(q + 2, .inl (cI, 33, .inl (fun _ => 0)))] ++ [(b, .inr (1, [.ref q, .ref q4, .int 0, .int (-1), .int 0])), (q, .inl (cV, 2, .inr (.inr (.inr (.inr (fun i => some (q + 1 + i))))))), (q + 1, .inl (cI, 33, .inl (fun _ => 40003))), (q4, .inl (cG, 8, .inr (.inr (.inr (.inr (fun _ => none))))))]) H := hP.sub [3, 0, 1, 2, 4] rfl
  have hDn : va_D A ([(q + 2, .inl (cI, 33, .inl (fun _ => 0)))] ++ [(b, .inr (1, [.ref q, .ref q4, .int 0, .int (-1), .int 0])), (q, .inl (cV, 2, .inr (.inr (.inr (.inr (fun i => some (q + 1 + i))))))), (q + 1, .inl (cI, 33, .inl (fun _ => 40003))), (q4, .inl (cG, 8, .inr (.inr (.inr (.inr (fun _ => none))))))]) := hD.sub [3, 0, 1, 2, 4] (by decide) rfl
  refine xc_Sv (S0 := Unit) (rw := [(b, .inr (1, [.ref q, .ref q4, .int 0, .int (-1), .int 0])), (q, .inl (cV, 2, .inr (.inr (.inr (.inr (fun i => some (q + 1 + i))))))), (q + 1, .inl (cI, 33, .inl (fun _ => 40003))), (q4, .inl (cG, 8, .inr (.inr (.inr (.inr (fun _ => none))))))]) (As := [.ref (q + 2), .int 40003]) (rest := []) ⟨hx, hb, hml, hown, hts⟩ (c_J7_fill_53178 l D (q + 2) cI (fun _ => 0) 40003 H.size) (va_cwS 2 hts gX1_init_J7_fill_53178 rfl rfl rfl (by decide +kernel) ⟨Nat.le_of_ble_eq_true rfl, Nat.le_of_ble_eq_true rfl⟩) xMv0 trivial hPn (hK.sub (tys' := [(cI, .int)]) [1] rfl) hDn hS hA rfl hl.1 rfl (Nat.le_of_ble_eq_true rfl) dX1_init_54 ⟨Nat.le_of_ble_eq_true rfl, Nat.le_of_ble_eq_true rfl⟩ (fun _ H locs _ hP hD _ hS => ?_)
  have hP : va_P D vwCl [(b, .inr (1, [.ref q, .ref q4, .int 0, .int (-1), .int 0])), (q, .inl (cV, 2, .inr (.inr (.inr (.inr (fun i => some (q + 1 + i))))))), (q + 1, .inl (cI, 33, .inl (fun _ => 40003))), (q + 2, .inl (cI, 33, .inl (fun _ => 40003))), (q4, .inl (cG, 8, .inr (.inr (.inr (.inr (fun _ => none))))))] H := hP.sub [1, 2, 3, 0, 4] rfl
  have hD : va_D A [(b, .inr (1, [.ref q, .ref q4, .int 0, .int (-1), .int 0])), (q, .inl (cV, 2, .inr (.inr (.inr (.inr (fun i => some (q + 1 + i))))))), (q + 1, .inl (cI, 33, .inl (fun _ => 40003))), (q + 2, .inl (cI, 33, .inl (fun _ => 40003))), (q4, .inl (cG, 8, .inr (.inr (.inr (.inr (fun _ => none))))))] := hD.sub [1, 2, 3, 0, 4] (by decide) rfl
  refine lv_iinc (v := (0 + 1) + 1) (lv' := [(1, .int ((0 + 1) + 1)), (0, .ref b)]) hx hb dX1_init_57 hl (k := 0) rfl (rfl) (by decide) rfl (fun ls hl => ?_)
  refine lv_goto (tgt := 41) hx hb dX1_init_60 (by decide) ?_
  refine lv_iload_n hx hb dX1_init_41 rfl (lv_at hl 0 rfl) ?_
  refine lv_iconst (v := 2) hx hb dX1_init_42 (by decide) ?_
  refine lv_icmp_ge (tgt := 63) hx hb dX1_init_43 (by decide) (fun c_3 => ?_) (fun c_3 => absurd (by decide) c_3)
  have hP : va_P D vwCl (cb (fun i => if i = 0 then b else if i = 1 then q else if i = 2 then q + 1 else if i = 3 then q + 2 else q4) cV cI cG (fun _ _ => 40003) (fun _ => none) 0 (-1) 0) H := fun k x hk => by
    match k, hk with
    | 0, hk => cases hk; exact hP 0 _ rfl
    | 1, hk => cases hk; exact va_cr (fun j hj => by rcases (show j = 0 ∨ j = 1 by omega) with rfl | rfl <;> rfl) (hP 1 _ rfl)
    | 2, hk => cases hk; exact hP 2 _ rfl
    | 3, hk => cases hk; exact hP 3 _ rfl
    | 4, hk => cases hk; exact hP 4 _ rfl
    | k + 5, hk => simp at hk
  have hD : va_D A (cb (fun i => if i = 0 then b else if i = 1 then q else if i = 2 then q + 1 else if i = 3 then q + 2 else q4) cV cI cG (fun _ _ => 40003) (fun _ => none) 0 (-1) 0) := xd_ad hD rfl
  exact xw_v (S := (Nat → Nat) × ClassId × ClassId × ClassId) ((fun i => if i = 0 then b else if i = 1 then q else if i = 2 then q + 1 else if i = 3 then q + 2 else q4), cV, cI, cG) hx hb hr hlk dX1_init_63 hP hK hD hS rfl
