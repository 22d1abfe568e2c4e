/-! PURE: what the methods answer, as functions of numbers -/
abbrev cn (x : Int32) : Nat := x.toNatClampNeg
def b2i (b : Bool) : Int32 := if b = true then 1 else 0
theorem b2i_t : b2i true = 1 := rfl
theorem b2i_f : b2i false = 0 := rfl
theorem b2i_e {b : Bool} (h : b2i b = 0) : b = false := by cases b <;> simp [b2i] at h <;> rfl
theorem b2i_n {b : Bool} (h : ¬ b2i b = 0) : b = true := by cases b <;> simp [b2i] at h <;> rfl
theorem b2i_eq {a b : Bool} (h : b2i a = b2i b) : a = b := by cases a <;> cases b <;> simp [b2i] at h <;> rfl
theorem b2i_ne {a b : Bool} (h : ¬ b2i a = b2i b) : (a != b) = true := by cases a <;> cases b <;> simp [b2i] at h <;> rfl
theorem b2i_nar (b : Bool) : narrow .boolean (.int (b2i b)) = .int (b2i b) := by cases b <;> rfl
theorem b2i_fit (b : Bool) : fits .boolean (.int (b2i b)) = true := by cases b <;> rfl
theorem b2i_vp (b : Bool) : vp_nar .boolean (b2i b) = b2i b := by cases b <;> rfl
def isWb (x : Int32) : Bool := !(decide (x < 0)) && !(decide (2 ≤ x))
def isHb (x : Int32) : Bool := !(decide (x < 0)) && !(decide (5 < x))
def isQb (w h : Int32) : Bool := isWb w && isHb h
def isSb (x : Int32) : Bool := !(decide (x < 0)) && !(decide (32 ≤ x))
def isFb (x : Int32) : Bool := isSb x || decide (x = 32)
def isGb (x : Int32) : Bool := !(decide (x < 0)) && !(decide (8 ≤ x))
def isMb (x : Int32) : Bool := !(decide (x < 0)) && !(decide (2 < x))
def isVb (so q : Int32) : Bool := if so = 0 then !(decide (q < -40000)) && !(decide (40000 < q)) else !(decide (so < 1)) && !(decide (4 < so))
def valF (so q : Int32) : Int32 := if so = 0 then q else if so = 2 then 40002 else if so = 3 then 40001 else if so = 4 then -40001 else 40003
def srtF (x : Int32) : Int32 := if x = 40003 then 1 else if x = 40002 then 2 else if x = 40001 then 3 else if x = -40001 then 4 else 0
def qrtF (x : Int32) : Int32 := if srtF x = 0 then x else 0
def sizF (x : Int32) : Int32 := if x = 40002 then 0 else x
def szsF (h a b : Int32) : Bool := if h = 0 then decide (a < b) else if h = 1 then decide (a ≤ b) else if h = 2 then decide (b < a) else if h = 3 then decide (b ≤ a) else if h = 4 then decide (a = b) else !decide (a = b)
def stnF (h a b : Int32) : Bool := if a = 40003 ∨ b = 40003 then decide (h = 5) else szsF h (sizF a) (sizF b)
def rungF (mo : Int32) (st d : Bool) : Bool := if mo = 0 then st else if mo = 1 then !st else st != d
/-- the model's -/
def inB (k lo hi : Int32) : Bool := !(decide (k < lo)) && !(decide (hi < k))
def plcF (so q : Int32) : Int32 := if so = 0 then q else if so = 3 then 1000000 else if so = 4 then -1000000 else 0
def goF (h as aq bs bq : Int32) : Bool := if as = 1 ∨ bs = 1 then decide (h = 5) else if plcF as aq = plcF bs bq then decide (h = 1) || decide (h = 3) || decide (h = 4) else if h = 5 then true else if plcF as aq < plcF bs bq then decide (h = 0) || decide (h = 1) else decide (h = 2) || decide (h = 3)
/-- values that are: sorts and quarters in range -/
def okV (x : Int32) : Prop := -40001 ≤ x ∧ x ≤ 40003
theorem i32_le (x y : Int32) : x ≤ y ↔ x.toInt ≤ y.toInt := Int32.le_iff_toInt_le
theorem i32_lt (x y : Int32) : x < y ↔ x.toInt < y.toInt := Int32.lt_iff_toInt_lt
theorem i32_eq (x y : Int32) : x = y ↔ x.toInt = y.toInt := ⟨fun h => by rw [h], fun h => Int32.toInt_inj.mp h⟩
theorem in01 (x : Int32) : inB x 0 1 = isWb x := by
  have : (1 < x) ↔ (2 ≤ x) := by rw [i32_lt, i32_le]; simp; omega
  simp [inB, isWb, this]
theorem in05 (x : Int32) : inB x 0 5 = isHb x := rfl
theorem in31 (x : Int32) : inB x 0 31 = isSb x := by
  have : (31 < x) ↔ (32 ≤ x) := by rw [i32_lt, i32_le]; simp; omega
  simp [inB, isSb, this]
theorem in32 (x : Int32) : inB x 0 32 = isFb x := by
  rw [Bool.eq_iff_iff]
  simp only [inB, isFb, isSb, Bool.and_eq_true, Bool.or_eq_true, Bool.not_eq_true', decide_eq_false_iff_not, decide_eq_true_eq, i32_lt, i32_le, i32_eq, show (0 : Int32).toInt = 0 by decide, show (32 : Int32).toInt = 32 by decide]
  omega
theorem in07 (x : Int32) : inB x 0 7 = isGb x := by
  have : (7 < x) ↔ (8 ≤ x) := by rw [i32_lt, i32_le]; simp; omega
  simp [inB, isGb, this]
theorem in02 (x : Int32) : inB x 0 2 = isMb x := rfl
theorem isW_in {x : Int32} (h : isWb x = true) : vp_in x 2 := by
  rw [vp_in_iff]
  simp [isWb] at h
  rw [i32_lt, i32_le] at h
  simp at h
  omega
theorem isS_in {x : Int32} (h : isSb x = true) : vp_in x 32 := by
  rw [vp_in_iff]
  simp [isSb] at h
  rw [i32_lt, i32_le] at h
  simp at h
  omega
theorem isF_in {x : Int32} (h : isFb x = true) : vp_in x 33 := by
  rw [vp_in_iff]
  simp [isFb, isSb] at h
  rw [i32_lt, i32_le, i32_eq] at h
  simp at h
  omega
theorem isG_in {x : Int32} (h : isGb x = true) : vp_in x 8 := by
  rw [vp_in_iff]
  simp [isGb] at h
  rw [i32_lt, i32_le] at h
  simp at h
  omega
theorem isQ_w {w h : Int32} (q : isQb w h = true) : vp_in w 2 := by
  simp [isQb] at q
  exact isW_in q.1
theorem vp_in_mono {x : Int32} {a b : Nat} (h : vp_in x a) (hab : a ≤ b) : vp_in x b := by
  rw [vp_in_iff] at h ⊢
  omega
theorem vp_lt {x : Int32} {n : Nat} (h : vp_in x n) : cn x < n := Nat.not_le.mp fun q => h (Or.inr q)
theorem nI_cn {j : Nat} (h : j < 2 ^ 31) : cn (nI j) = j := nI_clamp h
theorem isS_F {x : Int32} (h : isSb x = true) : isFb x = true := by simp [isFb, h]
theorem vpk {n : Nat} (k N : Nat) (hk : k = n) (h : n < N) (hN : N < 2 ^ 31) : vp_in (nI k) N := by subst hk; exact vp_in_nI h hN
/-- the model's comparing, on sorts and quarters, is the class's, on values -/
theorem ts_lit (x : Int32) (h : okV x) : x = 40003 ∨ x = 40002 ∨ x = 40001 ∨ x = -40001 ∨ (srtF x = 0 ∧ -40000 ≤ x.toInt ∧ x.toInt ≤ 40000) := by
  by_cases h1 : x = 40003
  · exact Or.inl h1
  by_cases h2 : x = 40002
  · exact Or.inr (Or.inl h2)
  by_cases h3 : x = 40001
  · exact Or.inr (Or.inr (Or.inl h3))
  by_cases h4 : x = -40001
  · exact Or.inr (Or.inr (Or.inr (Or.inl h4)))
  refine Or.inr (Or.inr (Or.inr (Or.inr ⟨by simp [srtF, h1, h2, h3, h4], ?_⟩)))
  obtain ⟨ha, hb⟩ := h
  rw [i32_le] at ha hb
  rw [i32_eq] at h1 h2 h3 h4
  simp at ha hb h1 h2 h3 h4
  omega
/-- where a value lies: the model's place against the class's size -/
theorem plc_or (x : Int32) (h : okV x) (hn : ¬ x = 40003) : srtF x ≠ 1 ∧ ((x = 40001 ∧ plcF (srtF x) (qrtF x) = 1000000 ∧ sizF x = 40001) ∨ (x = -40001 ∧ plcF (srtF x) (qrtF x) = -1000000 ∧ sizF x = -40001) ∨ (plcF (srtF x) (qrtF x) = sizF x ∧ -40000 ≤ (sizF x).toInt ∧ (sizF x).toInt ≤ 40000)) := by
  rcases ts_lit x h with e | e | e | e | ⟨e, e2, e3⟩
  · exact absurd e hn
  · subst e; exact ⟨by decide, Or.inr (Or.inr (by decide))⟩
  · subst e; exact ⟨by decide, Or.inl (by decide)⟩
  · subst e; exact ⟨by decide, Or.inr (Or.inl (by decide))⟩
  · have h2 : ¬ x = 40002 := by
      intro q; subst q; exact absurd e (by decide)
    refine ⟨by rw [e]; decide, Or.inr (Or.inr ?_)⟩
    have : sizF x = x := by simp [sizF, h2]
    rw [this]
    exact ⟨by simp [plcF, qrtF, e], e2, e3⟩
theorem plc_cmp (a b : Int32) (ha : okV a) (hb : okV b) (na : ¬ a = 40003) (nb : ¬ b = 40003) :
    (plcF (srtF a) (qrtF a) = plcF (srtF b) (qrtF b) ↔ sizF a = sizF b) ∧ (plcF (srtF a) (qrtF a) < plcF (srtF b) (qrtF b) ↔ sizF a < sizF b) := by
  obtain ⟨-, ca⟩ := plc_or a ha na
  obtain ⟨-, cb⟩ := plc_or b hb nb
  have t1 : (1000000 : Int32).toInt = 1000000 := by decide
  have t2 : (-1000000 : Int32).toInt = -1000000 := by decide
  have t3 : (40001 : Int32).toInt = 40001 := by decide
  have t4 : (-40001 : Int32).toInt = -40001 := by decide
  rw [i32_eq, i32_eq, i32_lt, i32_lt]
  rcases ca with ⟨-, e1, e2⟩ | ⟨-, e1, e2⟩ | ⟨e1, e2, e3⟩ <;> rcases cb with ⟨-, f1, f2⟩ | ⟨-, f1, f2⟩ | ⟨f1, f2, f3⟩ <;> rw [e1, f1] <;> (try rw [e2]) <;> (try rw [f2]) <;> (try rw [t1]) <;> (try rw [t2]) <;> (try rw [t3]) <;> (try rw [t4]) <;> omega
theorem go_stn (h a b : Int32) (hh : isHb h = true) (ha : okV a) (hb : okV b) : goF h (srtF a) (qrtF a) (srtF b) (qrtF b) = stnF h a b := by
  by_cases na : a = 40003
  · subst na; simp [goF, stnF, show srtF 40003 = 1 by decide]
  by_cases nb : b = 40003
  · subst nb; simp [goF, stnF, show srtF 40003 = 1 by decide]
  obtain ⟨ce, cl⟩ := plc_cmp a b ha hb na nb
  have sa := (plc_or a ha na).1
  have sb := (plc_or b hb nb).1
  have hx : ¬ (srtF a = 1 ∨ srtF b = 1) := fun q => q.elim sa sb
  have hy : ¬ (a = 40003 ∨ b = 40003) := fun q => q.elim na nb
  unfold goF stnF
  rw [if_neg hx, if_neg hy]
  generalize plcF (srtF a) (qrtF a) = A at ce cl ⊢
  generalize plcF (srtF b) (qrtF b) = C at ce cl ⊢
  generalize sizF a = a' at ce cl ⊢
  generalize sizF b = b' at ce cl ⊢
  have h6 : h = 0 ∨ h = 1 ∨ h = 2 ∨ h = 3 ∨ h = 4 ∨ h = 5 := by
    simp [isHb] at hh
    simp only [i32_le] at hh
    simp only [i32_eq]
    simp at hh ⊢
    omega
  by_cases q1 : A = C
  · have q2 := ce.mp q1
    subst q2
    rcases h6 with e | e | e | e | e | e <;> subst e <;> simp [q1, szsF]
  · have q2 : ¬ a' = b' := fun q => q1 (ce.mpr q)
    have q5 : a' < b' ∨ b' < a' := by
      rw [i32_eq] at q2
      rw [i32_lt, i32_lt]
      omega
    by_cases q3 : A < C
    · have q4 := cl.mp q3
      have q6 : a' ≤ b' := by rw [i32_lt] at q4; rw [i32_le]; omega
      have q7 : ¬ b' < a' := by rw [i32_lt] at q4 ⊢; omega
      have q8 : ¬ b' ≤ a' := by rw [i32_lt] at q4; rw [i32_le]; omega
      rcases h6 with e | e | e | e | e | e <;> subst e <;> simp [q1, q2, q3, q4, q6, q7, q8, szsF]
    · have q4 : ¬ a' < b' := fun q => q3 (cl.mpr q)
      have q5 : b' < a' := q5.resolve_left q4
      have q6 : ¬ a' ≤ b' := by rw [i32_lt] at q5; rw [i32_le]; omega
      have q8 : b' ≤ a' := by rw [i32_lt] at q5; rw [i32_le]; omega
      rcases h6 with e | e | e | e | e | e <;> subst e <;> simp [q1, q2, q3, q4, q5, q6, q8, szsF]
theorem val_ok {so q : Int32} (h : isVb so q = true) : okV (valF so q) ∧ srtF (valF so q) = so ∧ qrtF (valF so q) = (if so = 0 then q else 0) := by
  by_cases e : so = 0
  · subst e
    simp [isVb] at h
    have h1 : ¬ q = 40003 := by intro e; subst e; exact absurd h (by decide)
    have h2 : ¬ q = 40002 := by intro e; subst e; exact absurd h (by decide)
    have h3 : ¬ q = 40001 := by intro e; subst e; exact absurd h (by decide)
    have h4 : ¬ q = -40001 := by intro e; subst e; exact absurd h (by decide)
    have hs : srtF q = 0 := by simp [srtF, h1, h2, h3, h4]
    refine ⟨?_, by simp [valF, hs], by simp [valF, qrtF, hs]⟩
    simp only [valF, if_pos]
    simp only [i32_le] at h
    unfold okV
    simp only [i32_le]
    simp at h ⊢
    omega
  · simp [isVb, e] at h
    have h5 : so = 1 ∨ so = 2 ∨ so = 3 ∨ so = 4 := by
      simp only [i32_le] at h
      simp only [i32_eq]
      simp at h ⊢
      omega
    have v1 : valF 1 q = 40003 := rfl
    have v2 : valF 2 q = 40002 := rfl
    have v3 : valF 3 q = 40001 := rfl
    have v4 : valF 4 q = -40001 := rfl
    rcases h5 with e5 | e5 | e5 | e5 <;> subst e5 <;> rw [if_neg e]
    · rw [v1]; exact ⟨by unfold okV; decide, by decide, by decide⟩
    · rw [v2]; exact ⟨by unfold okV; decide, by decide, by decide⟩
    · rw [v3]; exact ⟨by unfold okV; decide, by decide, by decide⟩
    · rw [v4]; exact ⟨by unfold okV; decide, by decide, by decide⟩
