/-! THE CLAIM OUT OF ONE WALK OF THE LAW'S BODY. Your part is whole_start (and what it stands on); all else here is the same for every law, but numbers. -/
def R_law : String := "TunerBenchLaw"
def lw_P (b : Addr) (xs : List Int32) (args : Array Value) (s : State) : Prop := args = #[.ref b] ∧ s.IntsAt b xs ∧ xs.length ≤ 3072 ∧ (Jvm.Cond.and given_1 narrow_1).before args s = true
def lw_Q (_ : Array Value) (s : State) (o : Outcome) (t : State) : Prop := o = .returned (some (.int 1)) ∧ Framed s o t [] room_1.cells room_1.slots
def lw_Z (below : List Frame) (a : Array Value) (s : State) : State → Prop := fun t => ∃ o, t.status = .running ∧ Ended t below o ∧ lw_Q a s o t
/-- the law's own end, with 1 on the stack, nothing written that was there before, its room as the claim has it -/
theorem lw_ret {p : Program} {l : Launch} {e : Env} {s : State} {m : MethodId} {below : List Frame} {meth : Method} {c : Code} {b : Nat} (hx : p.tables.exec = Jvm.exec) (hb : c.code = code) (hr : meth.sig.returnType = ret) (hlocks : meth.locks = false) {pc : Nat} {H : Heap} {ls : Array Slot} (hdg : decode code pc = .ok (.ireturn, 1)) : W p l e room_1 s m #[Value.ref b] below meth c H [] room_1.cells room_1.slots (lw_Z below #[Value.ref b] s) (F0 m pc ls [.int 1]) := by
  intro T hT X
  obtain ⟨fs, hret, hrun, hended, hW, hframe⟩ := X.leave (v := some (.int 1)) (hlocks := hlocks) (fun h => by rw [hr] at h; cases h)
  have hmeth' : T.vm.method? m = some meth := X.method'
  refine ⟨T.setFrames fs, ?_, .returned (some (.int 1)), hrun, hended, rfl, ⟨_, rfl⟩, hW, hframe⟩
  jvm_step X.here [X.here.top, hx, hb, hdg, hmeth', hr, ret, narrow_b1]
  (try refine ⟨rfl, ?_⟩); (try refine ⟨rfl, ?_⟩)
  first | (intro acts; rw [hret _ acts rfl rfl rfl]) | rw [hret _ _ rfl rfl rfl]
  exact Steps.refl _
/-- what holds at the law's entry: the machine, the code, the tables' words (any of lw_tbl by 'hts w (by decide +kernel)'), the script of L ints xs at the cell b, what the Statement gives of the start (any of its parts by flat_of_before) -/
def lw_At (p : Program) (s : State) (m : MethodId) (meth : Method) (c : Code) (b L : Nat) (xs : Nat → Int32) : Prop :=
  p.tables.exec = Jvm.exec ∧ c.code = code ∧ meth.sig.returnType = ret ∧ c.maxLocals = 4 ∧ s.vm.findClass R_law = some m.cls ∧ (∀ w ∈ lw_tbl, w.before #[Value.ref b] s = true) ∧ va_X b L xs s s.heap ∧ b < s.heap.size ∧ meth.locks = false ∧ (Jvm.Cond.and given_1 narrow_1).before #[Value.ref b] s = true
/-- what the law's run takes of the room, at the most 3090 cells and 18730 slots, is there -/
theorem rm_c : 4000 ≤ room_1.cells := Nat.le_of_ble_eq_true rfl
theorem rm_s : 20000 ≤ room_1.slots := Nat.le_of_ble_eq_true rfl
/-! the invariant of the law's loop -/
abbrev lT (cV cI cG cJ cZ : ClassId) : List (ClassId × FieldType) := [(cV, .array .int), (cI, .int), (cG, .object "TunerBench$Guard"), (cJ, .int), (cZ, .boolean)]
abbrev lww (a bm : Nat → Nat) (cV cI cG cJ cZ : ClassId) (v : Nat → Nat → Int32) (G : Nat → Option GT) (gg : Nat → Option Nat) (L : List Nat) (f : Nat → va_E) (dn lt ch : Int32) : va_W := cb a cV cI cG v gg dn lt ch ++ (va_pl L f ++ mb bm cJ cZ v G dn lt ch (nI (cntG G 8)))
def gOk (G : Nat → Option GT) : Prop := ∀ (g : Nat) (t : GT), g < 8 → G g = some t → vp_in t.1 2 ∧ isHb t.2.1 = true ∧ okV t.2.2.1
def lInv (s : State) (D : va_G) (a bm : Nat → Nat) (cV cI cG cJ cZ : ClassId) (v : Nat → Nat → Int32) (G : Nat → Option GT) (gg : Nat → Option Nat) (L : List Nat) (f : Nat → va_E) (dn lt ch : Int32) (H : Heap) (locs : List Loc) : Prop :=
  va_P D vwCl (lww a bm cV cI cG cJ cZ v G gg L f dn lt ch) H ∧ va_D (fun q : Nat => s.heap.size ≤ q) (lww a bm cV cI cG cJ cZ v G gg L f dn lt ch) ∧ va_S (fun q : Nat => s.heap.size ≤ q) s.heap H locs ∧ GR G gg L f ∧ (∀ i j : Nat, okV (v i j)) ∧ gOk G
def lNext (p : Program) (l : Launch) (e : Env) (s : State) (m : MethodId) (below : List Frame) (meth : Method) (c : Code) (D : va_G) (a bm : Nat → Nat) (cV cI cG cJ cZ : ClassId) (b i ce se : Nat) : Prop :=
  ∀ (v : Nat → Nat → Int32) (G : Nat → Option GT) (gg : Nat → Option Nat) (L : List Nat) (f : Nat → va_E) (dn lt ch : Int32) (H : Heap) (locs : List Loc) (ls : Array Slot), lInv s D a bm cV cI cG cJ cZ v G gg L f dn lt ch H locs → lv_has ls 4 [(3, .int (nI i)), (0, .ref b), (1, .ref (a 0)), (2, .ref (bm 0))] → W p l e room_1 s m #[Value.ref b] below meth c H locs ce se (lw_Z below #[Value.ref b] s) (F0 m 812 ls [])
theorem ok_up {v : Nat → Nat → Int32} {w k : Nat} {x : Int32} (h : ∀ i j : Nat, okV (v i j)) (hx : okV x) : ∀ i j : Nat, okV (up2 v w k x i j) := by
  intro i j
  unfold up2
  by_cases h1 : i = w ∧ j = k
  · rw [if_pos h1]; exact hx
  · rw [if_neg h1]; exact h i j
theorem ok_put {v : Nat → Nat → Int32} {w x so q : Int32} (h : ∀ i j : Nat, okV (v i j)) : ∀ i j : Nat, okV (nPut v w x so q i j) := by
  unfold nPut
  by_cases h1 : aPut w x so q = true
  · rw [if_pos h1]
    simp [aPut] at h1
    exact ok_up h (val_ok h1.2.2).1
  · rw [if_neg h1]; exact h
theorem ok_ps {w : Nat} {h0 : Int32} : ∀ (n k : Nat) (v : Nat → Nat → Int32) (c : Nat), (∀ i j : Nat, okV (v i j)) → ∀ i j : Nat, okV ((psF w h0 n k v c).1 i j)
  | 0, _, _, _, h => h
  | n + 1, k, v, c, h => by
    unfold psF
    by_cases h1 : stnF h0 (v w k) (v w (k + 1)) = true
    · rw [if_pos h1]; exact ok_ps n (k + 1) v c h
    · rw [if_neg h1]; exact ok_ps n (k + 1) _ (c + 1) (okS h trivial)
theorem ok_pass {v : Nat → Nat → Int32} {w h0 x y : Int32} (h : ∀ i j : Nat, okV (v i j)) : ∀ i j : Nat, okV (nPass v w h0 x y i j) := by
  unfold nPass
  by_cases h1 : pB w h0 x y = true
  · rw [if_pos h1]; exact ok_ps _ _ v 0 h
  · rw [if_neg h1]; exact h
theorem ok_stri {v : Nat → Nat → Int32} {x : Int32} (h : ∀ i j : Nat, okV (v i j)) : ∀ i j : Nat, okV (nStri v x i j) := by
  unfold nStri
  by_cases h1 : isSb x = true
  · rw [if_pos h1]; exact ok_up (ok_up h (h _ _)) (h _ _)
  · rw [if_neg h1]; exact h
theorem gs_of {G : Nat → Option GT} {gg : Nat → Option Nat} {L : List Nat} {f : Nat → va_E} (h : GR G gg L f) : ∀ k : Nat, k < 8 → (gg k).isSome = (G k).isSome := fun k hk => by
  rcases h.1 k hk with ⟨h1, h2⟩ | ⟨t, x, h1, h2, -⟩
  · rw [h1, h2]; rfl
  · rw [h1, h2]; rfl
theorem cnt_up (G : Nat → Option GT) (k : Nat) (t : GT) : ∀ n : Nat, cntG (va_up G k (some t)) n = cntG G n + (if k < n ∧ (G k).isSome = false then 1 else 0)
  | 0 => by simp [cntG]
  | n + 1 => by
    have ih := cnt_up G k t n
    unfold cntG
    rw [ih]
    by_cases e : n = k
    · subst e
      cases hG : (G n).isSome <;> simp [va_up, hG]
    · have h1 : va_up G k (some t) n = G n := by simp [va_up, e]
      rw [h1]
      by_cases h2 : k < n
      · simp [h2, show k < n + 1 by omega]; omega
      · simp [h2, show ¬ k < n + 1 by omega]
theorem cnt_lk (v : Nat → Nat → Int32) (G : Nat → Option GT) (m : Nat) : ∀ n : Nat, cntG (lkG v G m) n = cntG G n
  | 0 => rfl
  | n + 1 => by
    have h1 : (lkG v G m n).isSome = (G n).isSome := by
      unfold lkG
      by_cases h : n < m
      · rw [if_pos h]; cases G n <;> rfl
      · rw [if_neg h]
    unfold cntG
    rw [cnt_lk v G m n, h1]
theorem gn_gua (v : Nat → Nat → Int32) (G : Nat → Option GT) (g w h x mo : Int32) : hGua G (nI (cntG G 8)) g w h x mo = nI (cntG (nGua v G g w h x mo) 8) := by
  unfold hGua nGua
  by_cases h1 : gB g w h x mo = true
  · rw [if_pos h1, if_pos h1, cnt_up]
    have h2 : isGb g = true := by simp [gB] at h1; exact h1.1
    have h3 := vp_lt (isG_in h2)
    cases hG : (G (cn g)).isSome
    · simp [h3, nI_1]
    · simp
  · rw [if_neg h1, if_neg h1]
theorem gok_gua {v : Nat → Nat → Int32} {G : Nat → Option GT} {g w h x mo : Int32} (hv : ∀ i j : Nat, okV (v i j)) (hG : gOk G) : gOk (nGua v G g w h x mo) := by
  unfold nGua
  by_cases h1 : gB g w h x mo = true
  · rw [if_pos h1]
    have h2 : isQb w h = true := by simp [gB] at h1; exact h1.2.1
    intro j t hj ht
    by_cases e : j = cn g
    · subst e
      rw [va_up_self] at ht
      cases ht
      exact ⟨isQ_w h2, isQ_h h2, hv _ _⟩
    · rw [va_up_ne _ _ e] at ht
      exact hG j t hj ht
  · rw [if_neg h1]; exact hG
theorem gok_lk {v : Nat → Nat → Int32} {G : Nat → Option GT} (hG : gOk G) : gOk (lkG v G 8) := by
  intro g t hg ht
  have : lkG v G 8 g = (G g).map (lnx v) := by simp [lkG, hg]
  rw [this] at ht
  cases h : G g with
  | none => rw [h] at ht; cases ht
  | some t0 =>
    rw [h] at ht
    cases ht
    exact hG g t0 hg h
theorem gr_gua {G : Nat → Option GT} {gg : Nat → Option Nat} {L : List Nat} {f : Nat → va_E} {k u : Nat} {t : GT} (hG : GR G gg L f) (hu : u ∉ L) (hk : k < 8) : GR (va_up G k (some t)) (va_up gg k (some u)) (L ++ [u]) (va_up f u (gE t)) := by
  have hno : ∀ (i x : Nat), i < 8 → gg i = some x → x ∈ L := fun i x hi hx => by
    rcases hG.1 i hi with ⟨-, h2⟩ | ⟨t', x', -, h2, h3, -⟩
    · rw [hx] at h2; cases h2
    · rw [hx] at h2; cases h2; exact h3
  refine ⟨fun g hg => ?_, fun i j x hi hj h1 h2 => ?_⟩
  · by_cases e : g = k
    · subst e
      exact Or.inr ⟨t, u, va_up_self _ _ _, va_up_self _ _ _, List.mem_append_right _ (List.mem_singleton.mpr rfl), va_up_self _ _ _⟩
    · rw [va_up_ne _ _ e, va_up_ne _ _ e]
      rcases hG.1 g hg with q | ⟨t', x', q1, q2, q3, q4⟩
      · exact Or.inl q
      · refine Or.inr ⟨t', x', q1, q2, List.mem_append_left _ q3, ?_⟩
        rw [va_up_ne _ _ (fun q => hu (by rw [← q]; exact q3))]
        exact q4
  · by_cases e1 : i = k
    · subst e1
      rw [va_up_self] at h1
      cases h1
      by_cases e2 : j = i
      · exact e2.symm
      · rw [va_up_ne _ _ e2] at h2
        exact absurd (hno j _ hj h2) hu
    · rw [va_up_ne _ _ e1] at h1
      by_cases e2 : j = k
      · subst e2
        rw [va_up_self] at h2
        cases h2
        exact absurd (hno i _ hi h1) hu
      · rw [va_up_ne _ _ e2] at h2
        exact hG.2 i j x hi hj h1 h2
