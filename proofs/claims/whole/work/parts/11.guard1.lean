/-! the class: guards are set -/
abbrev gE (t : GT) : va_E := .inr (0, [.int t.1, .int t.2.1, .int t.2.2.1, .int t.2.2.2.1, .int (b2i t.2.2.2.2.1), .int t.2.2.2.2.2])
def nT (U : State) : Prop := va_Nw (.methodLinkNest RX1 76 yX0_init "TunerBench") U ∧ va_Nw (.fieldLinkNest RX1 111 "TunerBench$Guard" "what" "I" "TunerBench") U ∧ va_Nw (.fieldLinkNest RX1 108 "TunerBench$Guard" "how" "I" "TunerBench") U ∧ va_Nw (.fieldLinkNest RX1 114 "TunerBench$Guard" "copy" "I" "TunerBench") U ∧ va_Nw (.fieldLinkNest RX1 117 "TunerBench$Guard" "mode" "I" "TunerBench") U ∧ va_Nw (.fieldLinkNest RX1 120 "TunerBench$Guard" "stood" "Z" "TunerBench") U ∧ va_Nw (.fieldLinkNest RX1 83 "TunerBench$Guard" "rang" "I" "TunerBench") U
theorem xMvN : xMv nT := ⟨fun u U h q => ⟨va_Nw.same rfl h q.1, va_Nw.same rfl h q.2.1, va_Nw.same rfl h q.2.2.1, va_Nw.same rfl h q.2.2.2.1, va_Nw.same rfl h q.2.2.2.2.1, va_Nw.same rfl h q.2.2.2.2.2.1, va_Nw.same rfl h q.2.2.2.2.2.2⟩, fun u U h q => ⟨va_Nw.warmM h q.1, va_Nw.warmF h q.2.1, va_Nw.warmF h q.2.2.1, va_Nw.warmF h q.2.2.2.1, va_Nw.warmF h q.2.2.2.2.1, va_Nw.warmF h q.2.2.2.2.2.1, va_Nw.warmF h q.2.2.2.2.2.2⟩⟩
def GR (G : Nat → Option GT) (gg : Nat → Option Nat) (L : List Nat) (f : Nat → va_E) : Prop := (∀ g : Nat, g < 8 → (G g = none ∧ gg g = none) ∨ ∃ (t : GT) (x : Nat), G g = some t ∧ gg g = some x ∧ x ∈ L ∧ f x = gE t) ∧ ∀ (i j x : Nat), i < 8 → j < 8 → gg i = some x → gg j = some x → i = j
def lst (v : Nat → Nat → Int32) (t : GT) : Bool := stnF t.2.1 (v (cn t.1) (cn 32)) t.2.2.1
def lrF (v : Nat → Nat → Int32) (t : GT) : Bool := rungF t.2.2.2.1 (lst v t) t.2.2.2.2.1
def lnx (v : Nat → Nat → Int32) (t : GT) : GT := (t.1, t.2.1, t.2.2.1, t.2.2.2.1, lst v t, if lrF v t = true then t.2.2.2.2.2 + 1 else t.2.2.2.2.2)
def lkG (v : Nat → Nat → Int32) (G : Nat → Option GT) (k : Nat) : Nat → Option GT := fun g => if g < k then (G g).map (lnx v) else G g
def lkA (v : Nat → Nat → Int32) (G : Nat → Option GT) (k : Nat) : Int32 := match G k with
  | none => 0
  | some t => if lrF v t = true then 1 <<< (nI k &&& 31) else 0
def lkS (v : Nat → Nat → Int32) (G : Nat → Option GT) : Nat → Int32
  | 0 => 0
  | k + 1 => lkS v G k + lkA v G k
def gB (g w h x mo : Int32) : Bool := isGb g && (isQb w h && (isSb x && isMb mo))
def nGua (v : Nat → Nat → Int32) (G : Nat → Option GT) (g w h x mo : Int32) : Nat → Option GT := if gB g w h x mo = true then va_up G (cn g) (some (w, h, v (cn w) (cn x), mo, false, 0)) else G
def aRin (G : Nat → Option GT) (g : Int32) : Int32 := if isGb g = true then (match G (cn g) with
  | none => -1
  | some t => t.2.2.2.2.2) else -1
def cntG (G : Nat → Option GT) : Nat → Nat
  | 0 => 0
  | k + 1 => cntG G k + (if (G k).isSome = true then 1 else 0)
def aCnt (dn lt gn ch q : Int32) : Int32 := if q = 0 then dn else if q = 1 then lt else if q = 2 then gn else if q = 3 then ch else -1
theorem x_nin {A : Nat → Prop} {q : Nat} {e : va_E} {X : va_W} {L : List Nat} {f : Nat → va_E} (hD : va_D A ([(q, e)] ++ (X ++ va_pl L f))) : q ∉ L := by
  intro h
  obtain ⟨k, hk⟩ := va_pl_get (X := X) (f := f) h
  have := hD.1 0 (k + 1) (q, e) (q, f q) rfl hk rfl
  omega
theorem cq_row {a : Nat → Nat} {cV cI cG : ClassId} {v : Nat → Nat → Int32} {gg : Nat → Option Nat} {dn lt ch : Int32} {k : Nat} {pl z : va_W} (h : k < 2) : ((cb a cV cI cG v gg dn lt ch ++ pl) ++ z)[2 + k]? = some (a (2 + k), .inl (cI, 33, .inl (v k))) := by
  rcases (show k = 0 ∨ k = 1 by omega) with rfl | rfl <;> rfl
set_option maxHeartbeats 4000000 in
set_option maxRecDepth 100000 in
theorem c_X0_init (l : Launch) (D : va_G) (b sz : Nat) (w h q mo : Int32) : Met l yX0_init wsX0_init ({ frames := 1, cells := 0, slots := 0, locals := 12 }) (xW D vwCl [(b, .inr (0, [.int 0, .int 0, .int 0, .int 0, .int 0, .int 0]))] [] xB0 sz [.ref b, .int w, .int h, .int q, .int mo]) (xQv (S := Unit) D vwCl (fun _ => True) (fun _ => [(b, gE (w, h, q, mo, false, 0))]) (fun _ => []) (va_A [(b, .inr (0, [.int 0, .int 0, .int 0, .int 0, .int 0, .int 0]))] sz)) 0 0 (va_A [(b, .inr (0, [.int 0, .int 0, .int 0, .int 0, .int 0, .int 0]))] sz) := by
  refine xw_in (Qf := xQv (S := Unit) D vwCl (fun _ => True) (fun _ => [(b, gE (w, h, q, mo, false, 0))]) (fun _ => [])) (cc := cX0_init) (maxL := 5) (ret := none) (by decide) rfl (Nat.le_of_ble_eq_true rfl) ?_
  intro p e s m below meth c ls A hx hb hr hml hts hown hlk hnm hA hP hK hD hS hB hl
  have hown : s.vm.findClass RX0 = some m.cls := hown
  have hin : meth.name = "<init>" := hnm
  have hl : lv_has ls 5 [(0, .ref b), (1, .int w), (2, .int h), (3, .int q), (4, .int mo)] := hl
  have hiF : ∀ w ∈ wsX00, w ∈ wsX0_init := by decide +kernel
  refine lv_aload_n hx hb dX0_init_0 rfl (lv_at hl 0 rfl) ?_
  refine W.objInit hx hb hown (hts (.methodLink RX0 1 objectInit) (by decide +kernel)) (hts (.instanceMethod objectInit) (by decide +kernel)) (hts _ (List.mem_cons_of_mem _ (List.mem_append_left _ (List.mem_of_getElem? (i := 2) rfl)))) rfl (by rw [hml]; exact hl.1) rfl dX0_init_1 (Nat.le_of_ble_eq_true rfl) (Nat.le_of_ble_eq_true rfl) ?_
  refine W.eq (g2 := F0 m 4 ls []) rfl ?_
  refine lv_aload_n hx hb dX0_init_4 rfl (lv_at hl 0 rfl) ?_
  refine lv_iconst (v := 0) hx hb dX0_init_5 (by decide) ?_
  refine va_put (D := D) (ci := 0) (v := .int 0) (ty := .boolean) (C := RX0) (T := TX0) (N := 6) hx hb hts hiF tyX0 tyX0_ok nmX0 hown hK hP hD hS 0 rfl rfl 4 (by decide) (hts (.fieldLink RX0 7 "TunerBench$Guard" "stood" "Z") (by decide +kernel)) (fun _ h9 => h9) rfl (by decide +kernel) rfl rfl (Nat.le_of_ble_eq_true rfl) dX0_init_6 (fun H locs hP hD hS => ?_)
  have hP : va_P D vwCl [(b, .inr (0, [.int 0, .int 0, .int 0, .int 0, .int 0, .int 0]))] H := hP
  have hD : va_D A [(b, .inr (0, [.int 0, .int 0, .int 0, .int 0, .int 0, .int 0]))] := hD
  refine lv_aload_n hx hb dX0_init_9 rfl (lv_at hl 0 rfl) ?_
  refine lv_iconst (v := 0) hx hb dX0_init_10 (by decide) ?_
  refine va_put (D := D) (ci := 0) (v := .int 0) (ty := .int) (C := RX0) (T := TX0) (N := 6) hx hb hts hiF tyX0 tyX0_ok nmX0 hown hK hP hD hS 0 rfl rfl 5 (by decide) (hts (.fieldLink RX0 13 "TunerBench$Guard" "rang" "I") (by decide +kernel)) (fun _ h9 => h9) rfl (by decide +kernel) rfl rfl (Nat.le_of_ble_eq_true rfl) dX0_init_11 (fun H locs hP hD hS => ?_)
  have hP : va_P D vwCl [(b, .inr (0, [.int 0, .int 0, .int 0, .int 0, .int 0, .int 0]))] H := hP
  have hD : va_D A [(b, .inr (0, [.int 0, .int 0, .int 0, .int 0, .int 0, .int 0]))] := hD
  refine lv_aload_n hx hb dX0_init_14 rfl (lv_at hl 0 rfl) ?_
  refine lv_iload_n hx hb dX0_init_15 rfl (lv_at hl 1 rfl) ?_
  refine va_putF (D := D) (ci := 0) (v := .int w) (ty := .int) (C := RX0) (T := TX0) (N := 6) hx hb hts hiF tyX0 tyX0_ok nmX0 hown hK hP hD hS 0 rfl rfl 0 (by decide) (hts (.fieldLink RX0 17 "TunerBench$Guard" "what" "I") (by decide +kernel)) (fun _ h9 => h9) rfl hin rfl (by decide +kernel) rfl rfl (Nat.le_of_ble_eq_true rfl) dX0_init_16 (fun H locs hP hD hS => ?_)
  have hP : va_P D vwCl [(b, .inr (0, [.int w, .int 0, .int 0, .int 0, .int 0, .int 0]))] H := hP
  have hD : va_D A [(b, .inr (0, [.int w, .int 0, .int 0, .int 0, .int 0, .int 0]))] := hD
  refine lv_aload_n hx hb dX0_init_19 rfl (lv_at hl 0 rfl) ?_
  refine lv_iload_n hx hb dX0_init_20 rfl (lv_at hl 2 rfl) ?_
  refine va_putF (D := D) (ci := 0) (v := .int h) (ty := .int) (C := RX0) (T := TX0) (N := 6) hx hb hts hiF tyX0 tyX0_ok nmX0 hown hK hP hD hS 0 rfl rfl 1 (by decide) (hts (.fieldLink RX0 20 "TunerBench$Guard" "how" "I") (by decide +kernel)) (fun _ h9 => h9) rfl hin rfl (by decide +kernel) rfl rfl (Nat.le_of_ble_eq_true rfl) dX0_init_21 (fun H locs hP hD hS => ?_)
  have hP : va_P D vwCl [(b, .inr (0, [.int w, .int h, .int 0, .int 0, .int 0, .int 0]))] H := hP
  have hD : va_D A [(b, .inr (0, [.int w, .int h, .int 0, .int 0, .int 0, .int 0]))] := hD
  refine lv_aload_n hx hb dX0_init_24 rfl (lv_at hl 0 rfl) ?_
  refine lv_iload_n hx hb dX0_init_25 rfl (lv_at hl 3 rfl) ?_
  refine va_putF (D := D) (ci := 0) (v := .int q) (ty := .int) (C := RX0) (T := TX0) (N := 6) hx hb hts hiF tyX0 tyX0_ok nmX0 hown hK hP hD hS 0 rfl rfl 2 (by decide) (hts (.fieldLink RX0 23 "TunerBench$Guard" "copy" "I") (by decide +kernel)) (fun _ h9 => h9) rfl hin rfl (by decide +kernel) rfl rfl (Nat.le_of_ble_eq_true rfl) dX0_init_26 (fun H locs hP hD hS => ?_)
  have hP : va_P D vwCl [(b, .inr (0, [.int w, .int h, .int q, .int 0, .int 0, .int 0]))] H := hP
  have hD : va_D A [(b, .inr (0, [.int w, .int h, .int q, .int 0, .int 0, .int 0]))] := hD
  refine lv_aload_n hx hb dX0_init_29 rfl (lv_at hl 0 rfl) ?_
  refine lv_iload hx hb dX0_init_30 (lv_at hl 4 rfl) ?_
  refine va_putF (D := D) (ci := 0) (v := .int mo) (ty := .int) (C := RX0) (T := TX0) (N := 6) hx hb hts hiF tyX0 tyX0_ok nmX0 hown hK hP hD hS 0 rfl rfl 3 (by decide) (hts (.fieldLink RX0 26 "TunerBench$Guard" "mode" "I") (by decide +kernel)) (fun _ h9 => h9) rfl hin rfl (by decide +kernel) rfl rfl (Nat.le_of_ble_eq_true rfl) dX0_init_32 (fun H locs hP hD hS => ?_)
  have hP : va_P D vwCl [(b, .inr (0, [.int w, .int h, .int q, .int mo, .int 0, .int 0]))] H := hP
  have hD : va_D A [(b, .inr (0, [.int w, .int h, .int q, .int mo, .int 0, .int 0]))] := hD
  exact xw_v (S := Unit) () hx hb hr hlk dX0_init_35 hP hK hD hS trivial
set_option maxHeartbeats 4000000 in
set_option maxRecDepth 100000 in
theorem c_X1_guard (l : Launch) (D : va_G) (a : Nat → Nat) (cV cI cG : ClassId) (v : Nat → Nat → Int32) (gg : Nat → Option Nat) (dn lt ch : Int32) (L : List Nat) (f : Nat → va_E) (sz : Nat) (g w h x mo : Int32) : Met l yX1_guard wsX1_guard ({ frames := 2, cells := 1, slots := 6, locals := 41 }) (xW D vwCl (cb a cV cI cG v gg dn lt ch ++ va_pl L f) (cT cV cI cG) nT sz [.ref (a 0), .int g, .int w, .int h, .int x, .int mo]) (xQ (S := Nat) D vwCl (fun r u => r = b2i (gB g w h x mo) ∧ (gB g w h x mo = true → u ∉ L)) (fun u => cond (gB g w h x mo) (cb a cV cI cG v (va_up gg (cn g) (some u)) dn lt ch ++ va_pl (L ++ [u]) (va_up f u (gE (w, h, v (cn w) (cn x), mo, false, 0)))) (cb a cV cI cG v gg dn lt ch ++ va_pl L f)) (fun _ => cT cV cI cG) (va_A (cb a cV cI cG v gg dn lt ch ++ va_pl L f) sz)) 1 6 (va_A (cb a cV cI cG v gg dn lt ch ++ va_pl L f) sz) := by
  refine xw_in (Qf := xQ (S := Nat) D vwCl (fun r u => r = b2i (gB g w h x mo) ∧ (gB g w h x mo = true → u ∉ L)) (fun u => cond (gB g w h x mo) (cb a cV cI cG v (va_up gg (cn g) (some u)) dn lt ch ++ va_pl (L ++ [u]) (va_up f u (gE (w, h, v (cn w) (cn x), mo, false, 0)))) (cb a cV cI cG v gg dn lt ch ++ va_pl L f)) (fun _ => cT cV cI cG)) (cc := cX1_guard) (maxL := 6) (ret := (some .boolean)) (by decide) rfl (Nat.le_of_ble_eq_true rfl) ?_
  intro p e s m below meth c ls A hx hb hr hml hts hown hlk hnm hA hP hK hD hS hB hl
  have hown : s.vm.findClass RX1 = some m.cls := hown
  have hl : lv_has ls 6 [(0, .ref (a 0)), (1, .int g), (2, .int w), (3, .int h), (4, .int x), (5, .int mo)] := hl
  have hiF : ∀ w ∈ wsX10, w ∈ wsX1_guard := by decide +kernel
  have hiG : ∀ w ∈ wsX00, w ∈ wsX1_guard := by decide +kernel
  refine lv_iload_n hx hb dX1_guard_0 rfl (lv_at hl 1 rfl) ?_
  refine xc_T (As := [.int g]) (rest := []) ⟨hx, hb, hml, hown, hts⟩ (c_X1_isGuard l g) (va_cwS 1 hts gX1_guard_X1_isGuard rfl rfl rfl (by decide +kernel) ⟨Nat.le_of_ble_eq_true rfl, Nat.le_of_ble_eq_true rfl⟩) rfl hl.1 rfl (Nat.le_of_ble_eq_true rfl) dX1_guard_1 ⟨Nat.zero_le _, Nat.zero_le _⟩ ?_
  refine lv_if_eq (tgt := 31) hx hb dX1_guard_4 (by decide) (fun c_1 => ?_) (fun c_1 => ?_)
  · have c_1 := b2i_e c_1
    refine lv_iconst (v := 0) hx hb dX1_guard_31 (by decide) ?_
    have hok : gB g w h x mo = false := by simp [gB, c_1]
    refine W.widen (k := 1) (n := 6) (Nat.zero_le _) (Nat.zero_le _) ?_
    exact xw_z (S := Nat) 0 hx hb hr hlk dX1_guard_32 (by decide) (by rw [hok]; exact hP) hK (by rw [hok]; exact hD) hS ⟨by rw [hok]; rfl, fun h9 => by rw [hok] at h9; cases h9⟩
  · have c_1 := b2i_n c_1
    refine lv_iload_n hx hb dX1_guard_7 rfl (lv_at hl 2 rfl) ?_
    refine lv_iload_n hx hb dX1_guard_8 rfl (lv_at hl 3 rfl) ?_
    refine xc_T (As := [.int w, .int h]) (rest := []) ⟨hx, hb, hml, hown, hts⟩ (c_X1_isQuestion l w h) (va_cwS 2 hts gX1_guard_X1_isQuestion rfl rfl rfl (by decide +kernel) ⟨Nat.le_of_ble_eq_true rfl, Nat.le_of_ble_eq_true rfl⟩) rfl hl.1 rfl (Nat.le_of_ble_eq_true rfl) dX1_guard_9 ⟨Nat.zero_le _, Nat.zero_le _⟩ ?_
    refine lv_if_eq (tgt := 31) hx hb dX1_guard_12 (by decide) (fun c_2 => ?_) (fun c_2 => ?_)
    · have c_2 := b2i_e c_2
      refine lv_iconst (v := 0) hx hb dX1_guard_31 (by decide) ?_
      have hok : gB g w h x mo = false := by simp [gB, c_1, c_2]
      refine W.widen (k := 1) (n := 6) (Nat.zero_le _) (Nat.zero_le _) ?_
      exact xw_z (S := Nat) 0 hx hb hr hlk dX1_guard_32 (by decide) (by rw [hok]; exact hP) hK (by rw [hok]; exact hD) hS ⟨by rw [hok]; rfl, fun h9 => by rw [hok] at h9; cases h9⟩
    · have c_2 := b2i_n c_2
      refine lv_iload hx hb dX1_guard_15 (lv_at hl 4 rfl) ?_
      refine xc_T (As := [.int x]) (rest := []) ⟨hx, hb, hml, hown, hts⟩ (c_X1_isString l x) (va_cwS 1 hts gX1_guard_X1_isString rfl rfl rfl (by decide +kernel) ⟨Nat.le_of_ble_eq_true rfl, Nat.le_of_ble_eq_true rfl⟩) rfl hl.1 rfl (Nat.le_of_ble_eq_true rfl) dX1_guard_17 ⟨Nat.zero_le _, Nat.zero_le _⟩ ?_
      refine lv_if_eq (tgt := 31) hx hb dX1_guard_20 (by decide) (fun c_3 => ?_) (fun c_3 => ?_)
      · have c_3 := b2i_e c_3
        refine lv_iconst (v := 0) hx hb dX1_guard_31 (by decide) ?_
        have hok : gB g w h x mo = false := by simp [gB, c_1, c_2, c_3]
        refine W.widen (k := 1) (n := 6) (Nat.zero_le _) (Nat.zero_le _) ?_
        exact xw_z (S := Nat) 0 hx hb hr hlk dX1_guard_32 (by decide) (by rw [hok]; exact hP) hK (by rw [hok]; exact hD) hS ⟨by rw [hok]; rfl, fun h9 => by rw [hok] at h9; cases h9⟩
      · have c_3 := b2i_n c_3
        refine lv_iload hx hb dX1_guard_23 (lv_at hl 5 rfl) ?_
        refine xc_T (As := [.int mo]) (rest := []) ⟨hx, hb, hml, hown, hts⟩ (c_X1_isMode l mo) (va_cwS 1 hts gX1_guard_X1_isMode rfl rfl rfl (by decide +kernel) ⟨Nat.le_of_ble_eq_true rfl, Nat.le_of_ble_eq_true rfl⟩) rfl hl.1 rfl (Nat.le_of_ble_eq_true rfl) dX1_guard_25 ⟨Nat.zero_le _, Nat.zero_le _⟩ ?_
        refine lv_if_ne (tgt := 33) hx hb dX1_guard_28 (by decide) (fun c_4 => ?_) (fun c_4 => ?_)
        · have c_4 := b2i_n c_4
          refine lv_aload_n hx hb dX1_guard_33 rfl (lv_at hl 0 rfl) ?_
          refine va_get (D := D) (ci := 1) (v := .ref (a 4)) (C := RX1) (T := TX1) (N := 5) hx hb hts hiF hown hK hP 0 rfl rfl 1 (by decide) (hts (.fieldLink RX1 16 "TunerBench" "guards" "[LTunerBench$Guard;") (by decide +kernel)) (fun _ h9 => h9) rfl dX1_guard_34 ?_
          refine lv_iload_n hx hb dX1_guard_37 rfl (lv_at hl 1 rfl) ?_
          refine va_new (D := D) (ci := 0) (fs := [.int 0, .int 0, .int 0, .int 0, .int 0, .int 0]) (C := RX0) (T := TX0) (N := 6) hx hb hts hiG tyX0 tyX0_ok hown (hts (.classLink RX1 14 RX0) (by decide +kernel)) (hts (.instantiable RX0 6) (by decide +kernel)) (hts (.initialized RX0) (by decide +kernel)) hK hP hD hS hA rfl (fun j hj => by rcases (show j = 0 ∨ j = 1 ∨ j = 2 ∨ j = 3 ∨ j = 4 ∨ j = 5 by omega) with rfl | rfl | rfl | rfl | rfl | rfl <;> rfl) (Nat.le_of_ble_eq_true rfl) (Nat.le_of_ble_eq_true rfl) dX1_guard_38 (fun q H hP hD hS => ?_)
          have hP : va_P D vwCl ((cb a cV cI cG v gg dn lt ch ++ va_pl L f) ++ [(q, .inr (0, [.int 0, .int 0, .int 0, .int 0, .int 0, .int 0]))]) H := hP
          have hD : va_D A ((cb a cV cI cG v gg dn lt ch ++ va_pl L f) ++ [(q, .inr (0, [.int 0, .int 0, .int 0, .int 0, .int 0, .int 0]))]) := hD
          refine W.widen (k := 1) (n := 6) (Nat.le_of_ble_eq_true rfl) (Nat.le_of_ble_eq_true rfl) ?_
          refine lv_dup hx hb dX1_guard_41 rfl ?_
          refine lv_iload_n hx hb dX1_guard_42 rfl (lv_at hl 2 rfl) ?_
          refine lv_iload_n hx hb dX1_guard_43 rfl (lv_at hl 3 rfl) ?_
          refine lv_aload_n hx hb dX1_guard_44 rfl (lv_at hl 0 rfl) ?_
          refine va_get (D := D) (ci := 1) (v := .ref (a 1)) (C := RX1) (T := TX1) (N := 5) hx hb hts hiF hown hK hP 0 rfl rfl 0 (by decide) (hts (.fieldLink RX1 11 "TunerBench" "values" "[[I") (by decide +kernel)) (fun _ h9 => h9) rfl dX1_guard_45 ?_
          refine lv_iload_n hx hb dX1_guard_48 rfl (lv_at hl 2 rfl) ?_
          refine xa_ald (D := D) hx hb hK hP 1 0 rfl rfl (isQ_w c_2) dX1_guard_49 ?_
          refine lv_iload hx hb dX1_guard_50 (lv_at hl 4 rfl) ?_
          refine va_iald (D := D) hx hb hK hP (2 + cn w) 1 (cq_row (vp_lt (isQ_w c_2))) rfl (isF_in (isS_F c_3)) dX1_guard_52 ?_
          refine lv_iload hx hb dX1_guard_53 (lv_at hl 5 rfl) ?_
          have hPn := xp_c hP
          have hDn := xd_c hD
          refine xc_IN (S0 := Unit) (rw := (cb a cV cI cG v gg dn lt ch ++ va_pl L f)) (As := [.int w, .int h, .int (v (cn w) (cn x)), .int mo]) (rest := [.ref q, .int g, .ref (a 4)]) ⟨hx, hb, hml, hown, hts⟩ (c_X0_init l D q H.size w h (v (cn w) (cn x)) mo) ⟨va_cnB 4 hts gX1_guard_X0_init_n76 rfl rfl rfl hB.1 (hts (.initialized RX0) (by decide +kernel)) (by decide +kernel) ⟨Nat.le_of_ble_eq_true rfl, Nat.le_of_ble_eq_true rfl⟩, rfl, hts (.instanceMethod yX0_init) (by decide +kernel)⟩ xMv0 trivial hPn (hK.sub (tys' := []) [] rfl) hDn hS hA rfl hl.1 rfl (Nat.le_of_ble_eq_true rfl) dX1_guard_55 ⟨Nat.le_of_ble_eq_true rfl, Nat.le_of_ble_eq_true rfl⟩ (fun _ H locs _ hP hD _ hS => ?_)
          have hP : va_P D vwCl ([(q, gE (w, h, v (cn w) (cn x), mo, false, 0))] ++ (cb a cV cI cG v gg dn lt ch ++ va_pl L f)) H := hP
          have hD : va_D A ([(q, gE (w, h, v (cn w) (cn x), mo, false, 0))] ++ (cb a cV cI cG v gg dn lt ch ++ va_pl L f)) := hD
          refine va_astq (D := D) hx hb hK hP hD hS 5 2 0 0 (r := (RX0, TX0, 6)) rfl rfl rfl rfl (isG_in c_1) dX1_guard_58 (fun H locs hP hD hS => ?_)
          have hP : va_P D vwCl ([(q, gE (w, h, v (cn w) (cn x), mo, false, 0))] ++ (cb a cV cI cG v (va_up gg (cn g) (some q)) dn lt ch ++ va_pl L f)) H := hP
          have hD : va_D A ([(q, gE (w, h, v (cn w) (cn x), mo, false, 0))] ++ (cb a cV cI cG v (va_up gg (cn g) (some q)) dn lt ch ++ va_pl L f)) := hD
          refine lv_iconst (v := 1) hx hb dX1_guard_59 (by decide) ?_
          have hok : gB g w h x mo = true := by simp [gB, c_1, c_2, c_3, c_4]
          have hq := x_nin hD
          have hP := xp_c hP
          have hD := xd_c hD
          rw [List.append_assoc, va_pl_push hq] at hP hD
          exact xw_z (S := Nat) q hx hb hr hlk dX1_guard_60 (by decide) (by rw [hok]; exact hP) hK (by rw [hok]; exact hD) hS ⟨by rw [hok]; rfl, fun _ => hq⟩
        · have c_4 := b2i_e c_4
          refine lv_iconst (v := 0) hx hb dX1_guard_31 (by decide) ?_
          have hok : gB g w h x mo = false := by simp [gB, c_1, c_2, c_3, c_4]
          refine W.widen (k := 1) (n := 6) (Nat.zero_le _) (Nat.zero_le _) ?_
          exact xw_z (S := Nat) 0 hx hb hr hlk dX1_guard_32 (by decide) (by rw [hok]; exact hP) hK (by rw [hok]; exact hD) hS ⟨by rw [hok]; rfl, fun h9 => by rw [hok] at h9; cases h9⟩
