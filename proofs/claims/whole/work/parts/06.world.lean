/-! WORLD: the cells of the class's object and of the model's, as functions of one state: v (what, string) ↦ value; G guard ↦ (what, how, copy, mode, stood, rang) -/
abbrev cT (cV cI cG : ClassId) : List (ClassId × FieldType) := [(cV, .array .int), (cI, .int), (cG, .object "TunerBench$Guard")]
abbrev cb (a : Nat → Nat) (cV cI cG : ClassId) (v : Nat → Nat → Int32) (gg : Nat → Option Nat) (dn lt ch : Int32) : va_W := [(a 0, .inr (1, [.ref (a 1), .ref (a 4), .int dn, .int lt, .int ch])), (a 1, .inl (cV, 2, .inr (.inr (.inr (.inr (fun i => some (a (2 + i)))))))), (a 2, .inl (cI, 33, .inl (v 0))), (a 3, .inl (cI, 33, .inl (v 1))), (a 4, .inl (cG, 8, .inr (.inr (.inr (.inr gg)))))]
def up2 (v : Nat → Nat → Int32) (w k : Nat) (x : Int32) : Nat → Nat → Int32 := fun i j => if i = w ∧ j = k then x else v i j
theorem up2_row (v : Nat → Nat → Int32) (w k : Nat) (x : Int32) : up2 v w k x w = upd (v w) k x := by
  funext j
  simp [up2, upd]
theorem up2_oth (v : Nat → Nat → Int32) {w i : Nat} (k : Nat) (x : Int32) (h : i ≠ w) : up2 v w k x i = v i := by
  funext j
  simp [up2, h]
section XCB
variable {a : Nat → Nat} {cV cI cG : ClassId} {v : Nat → Nat → Int32} {gg : Nat → Option Nat} {dn lt ch : Int32} {k j : Nat} {x : Int32} {pl : va_W}
theorem cb_row (h : k < 2) : (cb a cV cI cG v gg dn lt ch)[2 + k]? = some (a (2 + k), .inl (cI, 33, .inl (v k))) := by
  rcases (show k = 0 ∨ k = 1 by omega) with rfl | rfl <;> rfl
theorem cb_set (h : k < 2) : (cb a cV cI cG v gg dn lt ch).set (2 + k) (a (2 + k), .inl (cI, 33, .inl (upd (v k) j x))) = cb a cV cI cG (up2 v k j x) gg dn lt ch := by
  rcases (show k = 0 ∨ k = 1 by omega) with rfl | rfl
  · show [_, _, _, _, _] = [_, _, _, _, _]
    rw [up2_row, up2_oth v j x (show (1 : Nat) ≠ 0 by decide)]
  · show [_, _, _, _, _] = [_, _, _, _, _]
    rw [up2_row, up2_oth v j x (show (0 : Nat) ≠ 1 by decide)]
theorem cp_row (h : k < 2) : (cb a cV cI cG v gg dn lt ch ++ pl)[2 + k]? = some (a (2 + k), .inl (cI, 33, .inl (v k))) := by
  rcases (show k = 0 ∨ k = 1 by omega) with rfl | rfl <;> rfl
end XCB
abbrev GT : Type := Int32 × Int32 × Int32 × Int32 × Bool × Int32
def gsel (G : Nat → Option GT) (f : GT → Int32) : Nat → Int32 := fun g => match G g with
  | none => 0
  | some t => f t
theorem gsel_up (G : Nat → Option GT) (f : GT → Int32) (g : Nat) (t : GT) : gsel (va_up G g (some t)) f = upd (gsel G f) g (f t) := by
  funext j
  by_cases h : j = g
  · subst h; simp [gsel, va_up, upd]
  · simp [gsel, va_up, upd, h]
theorem gsel_at {G : Nat → Option GT} {f : GT → Int32} {g : Nat} {t : GT} (h : G g = some t) : gsel G f g = f t := by simp [gsel, h]
abbrev mT (cI cZ : ClassId) : List (ClassId × FieldType) := [(cI, .int), (cZ, .boolean)]
abbrev mw (a : Nat → Nat) (cI cZ : ClassId) (fs fq fi fw fh fm fk fu fd fr : Nat → Int32) (dn lt ch gn : Int32) : va_W := [(a 0, .inr (2, [.ref (a 1), .ref (a 2), .int dn, .int lt, .int ch, .int gn, .ref (a 3), .ref (a 4), .ref (a 5), .ref (a 6), .ref (a 7), .ref (a 8), .ref (a 9), .ref (a 10)])), (a 1, .inl (cI, 66, .inl fs)), (a 2, .inl (cI, 66, .inl fq)), (a 3, .inl (cZ, 8, .inl fi)), (a 4, .inl (cI, 8, .inl fw)), (a 5, .inl (cI, 8, .inl fh)), (a 6, .inl (cI, 8, .inl fm)), (a 7, .inl (cI, 8, .inl fk)), (a 8, .inl (cI, 8, .inl fu)), (a 9, .inl (cZ, 8, .inl fd)), (a 10, .inl (cI, 8, .inl fr))]
def mso (v : Nat → Nat → Int32) : Nat → Int32 := fun i => srtF (v (i / 33) (i % 33))
def mqu (v : Nat → Nat → Int32) : Nat → Int32 := fun i => qrtF (v (i / 33) (i % 33))
def mis (G : Nat → Option GT) : Nat → Int32 := fun g => b2i (G g).isSome
abbrev mwh (G : Nat → Option GT) : Nat → Int32 := gsel G (fun t => t.1)
abbrev mho (G : Nat → Option GT) : Nat → Int32 := gsel G (fun t => t.2.1)
abbrev mmo (G : Nat → Option GT) : Nat → Int32 := gsel G (fun t => t.2.2.2.1)
abbrev mks (G : Nat → Option GT) : Nat → Int32 := gsel G (fun t => srtF t.2.2.1)
abbrev mkq (G : Nat → Option GT) : Nat → Int32 := gsel G (fun t => qrtF t.2.2.1)
abbrev mdi (G : Nat → Option GT) : Nat → Int32 := gsel G (fun t => b2i t.2.2.2.2.1)
abbrev mri (G : Nat → Option GT) : Nat → Int32 := gsel G (fun t => t.2.2.2.2.2)
abbrev mb (a : Nat → Nat) (cI cZ : ClassId) (v : Nat → Nat → Int32) (G : Nat → Option GT) (dn lt ch gn : Int32) : va_W := mw a cI cZ (mso v) (mqu v) (mis G) (mwh G) (mho G) (mmo G) (mks G) (mkq G) (mdi G) (mri G) dn lt ch gn
theorem mso_up (v : Nat → Nat → Int32) {w k : Nat} (x : Int32) (hk : k < 33) : mso (up2 v w k x) = upd (mso v) (33 * w + k) (srtF x) := by
  funext i
  by_cases h : i = 33 * w + k
  · subst h
    have h1 : (33 * w + k) / 33 = w := by omega
    have h2 : (33 * w + k) % 33 = k := by omega
    simp [mso, up2, upd, h1, h2]
  · have h1 : ¬ (i / 33 = w ∧ i % 33 = k) := by omega
    simp [mso, up2, upd, h, h1]
theorem mqu_up (v : Nat → Nat → Int32) {w k : Nat} (x : Int32) (hk : k < 33) : mqu (up2 v w k x) = upd (mqu v) (33 * w + k) (qrtF x) := by
  funext i
  by_cases h : i = 33 * w + k
  · subst h
    have h1 : (33 * w + k) / 33 = w := by omega
    have h2 : (33 * w + k) % 33 = k := by omega
    simp [mqu, up2, upd, h1, h2]
  · have h1 : ¬ (i / 33 = w ∧ i % 33 = k) := by omega
    simp [mqu, up2, upd, h, h1]
theorem mso_at (v : Nat → Nat → Int32) {w k : Nat} (hk : k < 33) : mso v (33 * w + k) = srtF (v w k) := by
  have h1 : (33 * w + k) / 33 = w := by omega
  have h2 : (33 * w + k) % 33 = k := by omega
  simp [mso, h1, h2]
theorem mqu_at (v : Nat → Nat → Int32) {w k : Nat} (hk : k < 33) : mqu v (33 * w + k) = qrtF (v w k) := by
  have h1 : (33 * w + k) / 33 = w := by omega
  have h2 : (33 * w + k) % 33 = k := by omega
  simp [mqu, h1, h2]
/-- a place in the model's rows -/
theorem at_eq {w x : Int32} (hw : vp_in w 2) (hx : vp_in x 33) : 33 * w + x = nI (33 * cn w + cn x) := by
  obtain ⟨i, hi, rfl⟩ := vp_in_of hw (by decide)
  obtain ⟨j, hj, rfl⟩ := vp_in_of hx (by decide)
  rw [nI_cn (by omega), nI_cn (by omega), ← nI_add, ← pk_mul]
  rfl
theorem at_in {w x : Int32} (hw : vp_in w 2) (hx : vp_in x 33) : vp_in (33 * w + x) 66 := by
  rw [at_eq hw hx]
  have := vp_lt hw
  have := vp_lt hx
  exact vp_in_nI (by omega) (by decide)
theorem at_cn {w x : Int32} (hw : vp_in w 2) (hx : vp_in x 33) : (33 * w + x).toNatClampNeg = 33 * cn w + cn x := by
  have h1 := vp_lt hw
  have h2 := vp_lt hx
  rw [at_eq hw hx]
  exact nI_clamp (by omega)
/-! SPEC: what each method answers and leaves -/
def sdF (v : Nat → Nat → Int32) (w h x y : Int32) : Bool := stnF h (v (cn w) (cn x)) (v (cn w) (cn y))
def aSort (v : Nat → Nat → Int32) (w x : Int32) : Int32 := if isWb w = true ∧ isFb x = true then srtF (v (cn w) (cn x)) else -1
def aQuar (v : Nat → Nat → Int32) (w x : Int32) : Int32 := if isWb w = true ∧ isFb x = true then qrtF (v (cn w) (cn x)) else 0
def aPut (w x so q : Int32) : Bool := isWb w && (isFb x && isVb so q)
def nPut (v : Nat → Nat → Int32) (w x so q : Int32) : Nat → Nat → Int32 := if aPut w x so q = true then up2 v (cn w) (cn x) (valF so q) else v
def qB (w h x y : Int32) : Bool := isQb w h && (isFb x && isFb y)
def aHold (v : Nat → Nat → Int32) (w h x y : Int32) : Int32 := if qB w h x y = true then b2i (sdF v w h x y) else -1
def nHold (v : Nat → Nat → Int32) (lt w h x y : Int32) : Int32 := if qB w h x y = true then b2i (sdF v w h x y) else lt
def aDeny (v : Nat → Nat → Int32) (w h x y : Int32) : Int32 := if qB w h x y = true then b2i (!sdF v w h x y) else -1
def nDeny (v : Nat → Nat → Int32) (dn w h x y : Int32) : Int32 := if qB w h x y = true then (if sdF v w h x y = true then dn else dn + 1) else dn
def aPick (v : Nat → Nat → Int32) (w h x y : Int32) : Int32 := if qB w h x y = true then (if sdF v w h x y = true then x else y) else -1
def clF (v : Nat → Nat → Int32) (w : Nat) (h : Int32) : Nat → Nat → Nat
  | 0, k => k
  | n + 1, k => if stnF h (v w k) (v w (k + 1)) = true then clF v w h n (k + 1) else k
def aClim (v : Nat → Nat → Int32) (w h x : Int32) : Int32 := if (isQb w h && isSb x) = true then nI (clF v (cn w) h (31 - cn x) (cn x)) else -1
def fsF (v : Nat → Nat → Int32) (w : Nat) (h : Int32) (nb : Bool) : Nat → Nat → Int32
  | 0, _ => -1
  | n + 1, k => if (stnF h (v w k) (v w 32) != nb) = true then nI k else fsF v w h nb n (k + 1)
def aFirs (v : Nat → Nat → Int32) (w h x : Int32) (nb : Bool) : Int32 := if (isQb w h && isSb x) = true then fsF v (cn w) h nb (32 - cn x) (cn x) else -1
def bsF (v : Nat → Nat → Int32) (w : Nat) (h : Int32) (nb : Bool) : Nat → Nat → Nat → Nat
  | 0, _, f => f
  | n + 1, k, f => if (stnF h (v w k) (v w f) != nb) = true then bsF v w h nb n (k + 1) k else bsF v w h nb n (k + 1) f
def aBest (v : Nat → Nat → Int32) (w h : Int32) (nb : Bool) : Int32 := if isQb w h = true then nI (bsF v (cn w) h nb 31 1 0) else -1
def swp (v : Nat → Nat → Int32) (w k : Nat) : Nat → Nat → Int32 := up2 (up2 v w k (v w (k + 1))) w (k + 1) (v w k)
def psF (w : Nat) (h : Int32) : Nat → Nat → (Nat → Nat → Int32) → Nat → (Nat → Nat → Int32) × Nat
  | 0, _, v, c => (v, c)
  | n + 1, k, v, c => if stnF h (v w k) (v w (k + 1)) = true then psF w h n (k + 1) v c else psF w h n (k + 1) (swp v w k) (c + 1)
def pB (w h x y : Int32) : Bool := isQb w h && (isSb x && (isSb y && decide (x ≤ y)))
def rPass (v : Nat → Nat → Int32) (w h x y : Int32) : (Nat → Nat → Int32) × Nat := psF (cn w) h (cn y - cn x) (cn x) v 0
def aPass (v : Nat → Nat → Int32) (w h x y : Int32) : Int32 := if pB w h x y = true then nI (rPass v w h x y).2 else -1
def nPass (v : Nat → Nat → Int32) (w h x y : Int32) : Nat → Nat → Int32 := if pB w h x y = true then (rPass v w h x y).1 else v
def hPass (v : Nat → Nat → Int32) (ch w h x y : Int32) : Int32 := if pB w h x y = true then ch + nI (rPass v w h x y).2 else ch
def wB (w x y z : Int32) : Bool := isWb w && (isSb x && (isFb y && isFb z))
def w1F (v : Nat → Nat → Int32) (w x y z : Int32) : Int32 := if sdF v w 3 x y = true ∧ sdF v w 1 x z = true then 1 else 0
def w2F (v : Nat → Nat → Int32) (w x y z : Int32) : Int32 := if sdF v w 0 x y = false ∧ sdF v w 2 x z = false then 2 else 0
def w3F (v : Nat → Nat → Int32) (w x y z : Int32) : Int32 := if sdF v w 0 x y = true ∨ sdF v w 2 x z = true then 4 else 0
def w4F (v : Nat → Nat → Int32) (w x : Int32) : Int32 := if v (cn w) (cn x) = 40003 then 8 else 0
def aWith (v : Nat → Nat → Int32) (w x y z : Int32) : Int32 := if wB w x y z = true then ((w1F v w x y z + w2F v w x y z) + w3F v w x y z) + w4F v w x else -1
def nStri (v : Nat → Nat → Int32) (x : Int32) : Nat → Nat → Int32 := if isSb x = true then up2 (up2 v 0 32 (v 0 (cn x))) 1 32 (v 1 (cn x)) else v
theorem sd5_self (v : Nat → Nat → Int32) (w x : Int32) : sdF v w 5 x x = decide (v (cn w) (cn x) = 40003) := by
  by_cases h : v (cn w) (cn x) = 40003
  · simp [sdF, stnF, h]
  · simp [sdF, stnF, szsF, h]
