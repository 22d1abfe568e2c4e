/-! new int[2][33]: the machine's 'multianewarray' of two dimensions, unrolled for two rows -/
theorem xn_arr {E : CtlPost} {e : Env} {d : Bool} {acts : List Action} {s : State} {c comp : ClassId} {k : Class} {ty : FieldType} {n : Nat} {z : Value} {Q : Addr → Pre} (hk : s.vm.classes[c]? = some k) (hkind : k.kind = .array comp ty) (hl : ¬ n > e.platform.arrayLengthLimit) (hh : ¬ n * componentBytes ty > e.platform.maxHeapBytes) (hfit : fits ty z = true) (hdef : z.isDefault = true) (h1 : s.heap.size < e.platform.maxCells) (h2 : s.slotsUsed + n ≤ e.platform.maxSlots)
    (hq : Q s.heap.size d acts (s.pushCell { cls := c, slots := Array.replicate n z, vm := .none })) : wp (Jvm.newArray c n z) Q E e d acts s := by
  have hf : ∀ i v, (Array.replicate n z)[i]? = some v → s.fitsSlot c .none i v = true := by
    intro i v hv
    rw [Array.getElem?_replicate] at hv
    split at hv
    · cases hv
      simp [State.fitsSlot, State.slotType?, hk, hkind, hfit]
    · cases hv
  have ha : allocActs (Array.replicate n z) s.heap.size acts = acts := by
    have h9 : ((Array.replicate n z).all (·.isDefault)) = true := by
      rw [Array.all_replicate]
      split <;> simp [hdef]
    unfold allocActs
    rw [if_pos h9]
  simp only [Jvm.newArray, Jvm.arrayFits, wp_bind', W.ask, W.ite, hl, if_false, wp_pure', W.theClass, hk, hkind, hh, W.alloc, W.stop, Option.some.injEq, exists_eq_left', Array.size_replicate, ha]
  rw [if_neg (by omega)]
  exact ⟨h1, h2, hf, hq⟩
def mO (cA : ClassId) : Cell := { cls := cA, slots := Array.replicate 2 .null, vm := .none }
def mI (cI : ClassId) : Cell := { cls := cI, slots := Array.replicate 33 (.int 0), vm := .none }
def mS (T : State) (cA cI : ClassId) : State := ((((T.pushCell (mO cA)).pushCell (mI cI)).setCell T.heap.size ((mO cA).setSlot 0 (.ref (T.heap.size + 1)))).pushCell (mI cI)).setCell T.heap.size (((mO cA).setSlot 0 (.ref (T.heap.size + 1))).setSlot 1 (.ref (T.heap.size + 2)))
theorem mS_top (T : State) (g : JFrame) (cA cI : ClassId) : mS (T.setTop g) cA cI = (mS T cA cI).setTop g := by
  simp only [mS, State.heap_setTop, State.pushCell_setTop, State.setCell_setTop]
theorem xn_make {E : CtlPost} {e : Env} {d : Bool} {acts : List Action} {s : State} {cA cI cc : ClassId} {kA kI : Class} {Q : Addr → Pre} (hkA : s.vm.classes[cA]? = some kA) (hkindA : kA.kind = .array cI (.array .int)) (hkI : s.vm.classes[cI]? = some kI) (hkindI : kI.kind = .array cc .int)
    (hlim : e.platform.arrayLengthLimit = 2147483645 ∨ 33 ≤ e.platform.arrayLengthLimit) (hhp : 536870912 ≤ e.platform.maxHeapBytes) (h1 : s.heap.size + 3 ≤ e.platform.maxCells) (h2 : s.slotsUsed + 68 ≤ e.platform.maxSlots)
    (hq : ∀ d' acts', Q s.heap.size d' acts' (mS s cA cI)) : wp (multianewarray.make cA [2, 33]) Q E e d acts s := by
  have hl33 : 33 ≤ e.platform.arrayLengthLimit := by rcases hlim with h | h <;> omega
  have c2 : (2 : Int32).toNatClampNeg = 2 := by decide
  have c33 : (33 : Int32).toNatClampNeg = 33 := by decide
  have one : ∀ {s' : State} {Q' : Addr → Pre} {d' : Bool} {acts' : List Action}, s'.vm = s.vm → s'.heap.size < e.platform.maxCells → s'.slotsUsed + 33 ≤ e.platform.maxSlots → Q' s'.heap.size d' acts' (s'.pushCell (mI cI)) → wp (multianewarray.make cI [33]) Q' E e d' acts' s' := by
    intro s' Q' d' acts' hvm h3 h4 h5
    rw [multianewarray.make]
    simp only [wp_bind', W.ite, show ¬ (33 : Int32) < 0 by decide, if_false, wp_pure', W.theClass, hvm, hkI, hkindI, Option.some.injEq, exists_eq_left']
    rw [c33]
    exact xn_arr (by rw [hvm]; exact hkI) hkindI (by omega) (by show ¬ 33 * 4 > _; omega) rfl rfl h3 h4 h5
  rw [multianewarray.make]
  simp only [wp_bind', W.ite, show ¬ (2 : Int32) < 0 by decide, if_false, wp_pure', W.theClass, hkA, hkindA, Option.some.injEq, exists_eq_left']
  rw [c2]
  refine xn_arr hkA hkindA (by omega) (by show ¬ 2 * 4 > _; omega) rfl rfl (by omega) (by omega) ?_
  rw [show ({ cls := cA, slots := Array.replicate 2 Value.null, vm := .none } : Cell) = mO cA from rfl]
  rw [if_neg (by decide)]
  rw [wp_bind', Std.Legacy.Range.forIn_eq_forIn_range']
  show wp (forIn (List.range' 0 2 1) PUnit.unit _) _ E e d acts _
  rw [show List.range' 0 2 1 = [0, 1] from rfl]
  have hz0 : s.heap.size < (s.pushCell (mO cA)).heap.size := by simp
  have g1 : ((s.pushCell (mO cA)).pushCell (mI cI)).heap[s.heap.size]? = some (mO cA) := by
    rw [State.heap_pushCell_of_lt (h := hz0)]
    exact State.heap_pushCell_size _ _
  have g2 := State.heap_setCell_self g1 (x := (mO cA).setSlot 0 (.ref (s.heap.size + 1)))
  have hz1 : s.heap.size < (((s.pushCell (mO cA)).pushCell (mI cI)).setCell s.heap.size ((mO cA).setSlot 0 (.ref (s.heap.size + 1)))).heap.size := by simp [State.setCell]; omega
  simp only [List.forIn_cons, List.forIn_nil, wp_bind', wp_pure']
  refine one (by simp) (by simp; omega) (by simp [mO]; omega) ?_
  simp only [wp_bind', W.writeLoc, wp_pure']
  refine ⟨mO cA, g1, by simp [mO], by simp [mO], by simp [State.fitsSlot, State.slotType?, mO, hkA, hkindA, fits], ?_⟩
  refine one (by simp) (by simp [State.setCell]; omega) (by simp [mI, mO]; omega) ?_
  simp only [wp_bind', W.writeLoc, wp_pure']
  refine ⟨(mO cA).setSlot 0 (.ref (s.heap.size + 1)), ?_, by simp [mO, Cell.setSlot], by simp [mO, Cell.setSlot], by simp [State.fitsSlot, State.slotType?, mO, Cell.setSlot, hkA, hkindA, fits], ?_⟩
  · rw [State.heap_pushCell_of_lt (h := by simpa using hz1)]
    simpa using g2
  · have z1 : (s.pushCell (mO cA)).heap.size = s.heap.size + 1 := by simp
    have z2 : (((s.pushCell (mO cA)).pushCell (mI cI)).setCell s.heap.size ((mO cA).setSlot 0 (.ref (s.heap.size + 1)))).heap.size = s.heap.size + 2 := by simp [State.setCell]
    simp only [z1]
    simp only [z2]
    exact hq _ _
theorem mS_heap (T : State) (cA cI : ClassId) : (mS T cA cI).heap.size = T.heap.size + 3 ∧ (∀ q : Nat, q < T.heap.size → (mS T cA cI).heap[q]? = T.heap[q]?) ∧ (mS T cA cI).heap[T.heap.size]? = some (arrV cA 2 (fun i => va_rf (some (T.heap.size + 1 + i)))) ∧ (mS T cA cI).heap[T.heap.size + 1]? = some (arrV cI 33 (fun _ => .int 0)) ∧ (mS T cA cI).heap[T.heap.size + 2]? = some (arrV cI 33 (fun _ => .int 0)) := by
  have hO : ((mO cA).setSlot 0 (.ref (T.heap.size + 1))).setSlot 1 (.ref (T.heap.size + 2)) = arrV cA 2 (fun i => va_rf (some (T.heap.size + 1 + i))) := by
    simp [mO, Cell.setSlot, arrV, va_rf, Array.ofFn]
    rfl
  have hI : mI cI = arrV cI 33 (fun _ => .int 0) := arrV_new _ _ _
  have z1 : (T.pushCell (mO cA)).heap.size = T.heap.size + 1 := by simp
  have z2 : ((T.pushCell (mO cA)).pushCell (mI cI)).heap.size = T.heap.size + 2 := by simp
  have hz0 : T.heap.size < (T.pushCell (mO cA)).heap.size := by omega
  have g1 : ((T.pushCell (mO cA)).pushCell (mI cI)).heap[T.heap.size]? = some (mO cA) := by
    rw [State.heap_pushCell_of_lt (h := hz0)]
    exact State.heap_pushCell_size _ _
  have g1' : ((T.pushCell (mO cA)).pushCell (mI cI)).heap[T.heap.size + 1]? = some (mI cI) := by
    rw [← z1]
    exact State.heap_pushCell_size _ _
  have g0 : ∀ q : Nat, q < T.heap.size → ((T.pushCell (mO cA)).pushCell (mI cI)).heap[q]? = T.heap[q]? := fun q hq => by
    rw [State.heap_pushCell_of_lt (h := show q < (T.pushCell (mO cA)).heap.size by omega), State.heap_pushCell_of_lt (h := hq)]
  unfold mS
  generalize ((T.pushCell (mO cA)).pushCell (mI cI)) = S2 at z2 g1 g1' g0 ⊢
  have g2 := State.heap_setCell_self g1 (x := (mO cA).setSlot 0 (.ref (T.heap.size + 1)))
  have z3 : (S2.setCell T.heap.size ((mO cA).setSlot 0 (.ref (T.heap.size + 1)))).heap.size = T.heap.size + 2 := by simp [State.setCell, z2]
  have g3 : ∀ q : Nat, q ≠ T.heap.size → (S2.setCell T.heap.size ((mO cA).setSlot 0 (.ref (T.heap.size + 1)))).heap[q]? = S2.heap[q]? := fun q hq => State.heap_setCell_other (Ne.symm hq)
  rw [← hO, ← hI]
  generalize S2.setCell T.heap.size ((mO cA).setSlot 0 (.ref (T.heap.size + 1))) = S3 at z3 g2 g3 ⊢
  have g4 : (S3.pushCell (mI cI)).heap[T.heap.size]? = some ((mO cA).setSlot 0 (.ref (T.heap.size + 1))) := by
    rw [State.heap_pushCell_of_lt (h := show T.heap.size < S3.heap.size by omega)]
    exact g2
  refine ⟨by simp [State.setCell, z3], fun q hq => ?_, State.heap_setCell_self g4, ?_, ?_⟩
  · rw [State.heap_setCell_other (show T.heap.size ≠ q by omega), State.heap_pushCell_of_lt (h := show q < S3.heap.size by omega), g3 q (by omega)]
    exact g0 q hq
  · rw [State.heap_setCell_other (show T.heap.size ≠ T.heap.size + 1 by omega), State.heap_pushCell_of_lt (h := show T.heap.size + 1 < S3.heap.size by omega), g3 _ (by omega)]
    exact g1'
  · rw [State.heap_setCell_other (show T.heap.size ≠ T.heap.size + 2 by omega), ← z3]
    exact State.heap_pushCell_size _ _
section XMN
variable {p : Program} {l : Launch} {e : Env} {R : Room} {s : State} {m : MethodId} {args : Array Value} {below : List Frame} {meth : Method} {c : Code} {H H0 : Heap} {locs : List Loc} {cells slots : Nat} {Q : State → Prop}
variable {cc : ByteArray} {pc : Nat} {ls : Array Slot} {rest : List Value} {D : va_G} {cl : List vw_C} {A : Nat → Prop} {tys : List (ClassId × FieldType)} {wd : va_W}
theorem xw_mna (hexec : p.tables.exec = Jvm.exec) (hb : c.code = cc) {own : String} {index : Nat} (hown : s.vm.findClass own = some m.cls) (hclink : (Cond.classLink own index "[[I").before args s = true) (hover : (Cond.arrayOver (.array .int)).before #[] s = true) (harr : (Cond.arrayClass .int).before args s = true)
    (hcells : cells + 3 ≤ R.cells) (hslots : slots + 68 ≤ R.slots) (hdg : decode cc pc = .ok (.multianewarray index 2, 4))
    (kk : ∀ (cA cI : ClassId) (T1 : State) (L : List Loc), s.vm.findClass "[[I" = some cA → ArrOfT s cA (.array .int) → s.vm.findClass "[I" = some cI → ArrOfT s cI .int → T1.heap = H → (∀ q ∈ L, q.base = H.size) →
      W p l e R s m args below meth c (mS T1 cA cI).heap (locs ++ L) (cells + 3) (slots + 68) Q (F0 m (pc + 4) ls (.ref H.size :: rest))) : W p l e R s m args below meth c H locs cells slots Q (F0 m pc ls (.int 33 :: .int 2 :: rest)) := by
  intro T hT X
  subst hT; subst hb
  have hpl : e.platform.magicAccessors = ({} : Platform).magicAccessors := by rw [X.admits.platform]
  obtain ⟨cI, cA, kA, hcI, -, hkA, hkindA, hnameA⟩ := arrayOverA_spec (args := #[]) (first := s) (o := none) (idx := []) hover
  obtain ⟨cI', kI, cc', hcI', hkI, hkindI⟩ := Cond.arrayClass_spec harr
  have ec : cI' = cI := Option.some.inj (hcI'.symm.trans hcI)
  subst ec
  obtain ⟨c0, hfc0, hcl⟩ := Cond.classLink_spec hown hclink e.platform hpl
  have e0 : c0 = cA := Option.some.inj (hfc0.symm.trans hnameA)
  subst e0
  obtain ⟨hg₁, hwarm₁, hready₁⟩ := State.classEntry (e := e) X.warmed hcl
  generalize T.vm.noted m.cls index (.cls c0) = vm₁ at hg₁ hwarm₁ hready₁
  have hal : s.vm.Alike vm₁ := hwarm₁.alike
  obtain ⟨kA₁, hkA₁, heA⟩ := hal.2.2 _ _ hkA
  obtain ⟨kI₁, hkI₁, heI⟩ := hal.2.2 _ _ hkI
  have hkindA₁ : kA₁.kind = .array cI' (.array .int) := by rw [heA]; exact hkindA
  have hkindI₁ : kI₁.kind = .array cc' .int := by rw [heI]; exact hkindI
  have X₁ := X.noted hwarm₁
  obtain ⟨hr1, hr2⟩ := X.roomAbove hcells hslots
  have hlim : 33 ≤ e.platform.arrayLengthLimit := by rw [Launch.admits_arrayLengthLimit X.admits]; omega
  have hhp : 536870912 ≤ e.platform.maxHeapBytes := by rw [Launch.admits_maxHeapBytes X.admits]; omega
  have Xa := (X₁.pushed (mO c0)).pushed (mI cI')
  have hz0 : T.heap.size < ((T.setVm vm₁).pushCell (mO c0)).heap.size := by simp
  have g1 : (((T.setVm vm₁).pushCell (mO c0)).pushCell (mI cI')).heap[T.heap.size]? = some (mO c0) := by
    rw [State.heap_pushCell_of_lt (h := hz0)]
    exact State.heap_pushCell_size (T.setVm vm₁) _
  have Xb := (Xa.stored g1 0 (.ref (T.heap.size + 1))).pushed (mI cI')
  have g2 := State.heap_setCell_self g1 (x := (mO c0).setSlot 0 (.ref (T.heap.size + 1)))
  have hz1 : T.heap.size < ((((T.setVm vm₁).pushCell (mO c0)).pushCell (mI cI')).setCell T.heap.size ((mO c0).setSlot 0 (.ref (T.heap.size + 1)))).heap.size := by simp [State.setCell]; omega
  have Xc := Xb.stored (by rw [State.heap_pushCell_of_lt (h := hz1)]; exact g2) 1 (.ref (T.heap.size + 2))
  have hArrA : ArrOfT s c0 (.array .int) := fun n z => ⟨fun k h => (by cases h), kA, hkA, cI', hkindA⟩
  have hArrI : ArrOfT s cI' .int := fun n z => ⟨fun k h => (by cases h), kI, hkI, cc', hkindI⟩
  obtain ⟨t, a1, b1⟩ := kk c0 cI' (T.setVm vm₁) [⟨T.heap.size, 0⟩, ⟨T.heap.size, 1⟩] hnameA hArrA hcI hArrI rfl (fun q hq => by simp at hq; rcases hq with rfl | rfl <;> rfl) (mS (T.setVm vm₁) c0 cI') rfl (by
    have e1 : (mO c0).slots.size = 2 := by simp [mO]
    have e2 : (mI cI').slots.size = 33 := by simp [mI]
    rw [e1, e2, show slots + 2 + 33 + 33 = slots + 68 by omega, show cells + 1 + 1 + 1 = cells + 3 by omega, List.append_assoc] at Xc
    exact Xc)
  refine ⟨t, ?_, b1⟩
  have hTop : (mS (T.setVm vm₁) c0 cI').topJava?.isSome := Xc.here.top
  jvm_step X.here [hexec, hdg]
  simp only [multianewarray.sem, wp_bind', W.resolveClassAt_links (State.method?_setTop (F0 m pc ls (.int 33 :: .int 2 :: rest)) X.here.top) hg₁]
  rw [W.popN, if_neg (by decide)]
  refine ⟨F0 m pc ls (.int 33 :: .int 2 :: rest), State.topJava?_setTop' (s := T.setVm vm₁) _ X.here.top, [.int 2, .int 33], rest, rfl, rfl, ?_⟩
  simp only [List.mapM_cons, List.mapM_nil, wp_bind', wp_pure']
  refine xn_make (kA := kA₁) (kI := kI₁) (cI := cI') (cc := cc') hkA₁ hkindA₁ hkI₁ hkindI₁ (Or.inr hlim) hhp hr1 hr2 (fun d' acts' => ?_)
  have eS : ((T.setTop (F0 m pc ls (.int 33 :: .int 2 :: rest))).setVm vm₁).setTop { (F0 m pc ls (.int 33 :: .int 2 :: rest)) with stack := rest } = (T.setVm vm₁).setTop { (F0 m pc ls (.int 33 :: .int 2 :: rest)) with stack := rest } := by
    show ((T.setVm vm₁).setTop _).setTop _ = _
    rw [State.setTop_setTop]
  rw [eS, mS_top]
  simp only [wp_bind', W.mark, W.pushRef, State.topJava?_setTop' _ hTop, Option.some.injEq, exists_eq_left', State.setTop_setTop, State.heap_setTop]
  intro acts
  simp [jvm, hTop]
  exact a1
theorem xa_mna (hexec : p.tables.exec = Jvm.exec) (hb : c.code = cc) {own : String} {index : Nat} (hown : s.vm.findClass own = some m.cls) (hclink : (Cond.classLink own index "[[I").before args s = true) (hover : (Cond.arrayOver (.array .int)).before #[] s = true) (harr : (Cond.arrayClass .int).before args s = true)
    (hK : va_K D cl tys s) (hP : va_P D cl wd H) (hD : va_D A wd) (hS : va_S A H0 H locs) (hA : ∀ q, H0.size ≤ q → A q) (hcells : cells + 3 ≤ R.cells) (hslots : slots + 68 ≤ R.slots) (hdg : decode cc pc = .ok (.multianewarray index 2, 4))
    (kk : ∀ (q : Nat) (cA cI : ClassId) (H1 : Heap) (locs1 : List Loc), va_K D cl (tys ++ [(cA, .array .int), (cI, .int)]) s → va_P D cl (wd ++ [(q, .inl (cA, 2, .inr (.inr (.inr (.inr (fun i => some (q + 1 + i))))))), (q + 1, .inl (cI, 33, .inl (fun _ => 0))), (q + 2, .inl (cI, 33, .inl (fun _ => 0)))]) H1 → va_D A (wd ++ [(q, .inl (cA, 2, .inr (.inr (.inr (.inr (fun i => some (q + 1 + i))))))), (q + 1, .inl (cI, 33, .inl (fun _ => 0))), (q + 2, .inl (cI, 33, .inl (fun _ => 0)))]) → va_S A H0 H1 locs1 →
      W p l e R s m args below meth c H1 locs1 (cells + 3) (slots + 68) Q (F0 m (pc + 4) ls (.ref q :: rest))) : W p l e R s m args below meth c H locs cells slots Q (F0 m pc ls (.int 33 :: .int 2 :: rest)) := by
  refine xw_mna hexec hb hown hclink hover harr hcells hslots hdg (fun cA cI T1 L fA kA fI kI hT1 hL => ?_)
  obtain ⟨z, o, g0, g1, g2⟩ := mS_heap T1 cA cI
  rw [hT1] at z o g0 g1 g2
  generalize (mS T1 cA cI).heap = H1 at z o g0 g1 g2 ⊢
  have hlt : ∀ (k : Nat) (x : Nat × va_E), wd[k]? = some x → x.1 < H.size := fun k x hx => (hP k x hx).lt
  have hP0 : va_P D cl wd H1 := hP.kept (fun k x hx => o x.1 (hlt k x hx))
  refine kk H.size cA cI H1 (locs ++ L) ⟨hK.1, fun k x hx => ?_⟩ (hP0.app (fun k x hx => ?_)) (va_D.app hD ⟨fun i j x y hi hj hxy => ?_, fun k x hx => ?_⟩ (fun i j x y hi hj => ?_)) ⟨by have := hS.1; omega, fun x h1 h2 => (o x (Nat.lt_of_lt_of_le h1 hS.1)).trans (hS.2.1 x h1 h2), fun x hx => ?_⟩
  · by_cases hl : k < tys.length
    · rw [List.getElem?_append_left hl] at hx
      exact hK.2 k x hx
    · rw [List.getElem?_append_right (by omega)] at hx
      generalize k - tys.length = j at hx
      match j, hx with
      | 0, hx => cases hx; exact ⟨kA, fA⟩
      | 1, hx => cases hx; exact ⟨kI, fI⟩
      | j + 2, hx => simp at hx
  · match k, hx with
    | 0, hx => cases hx; exact g0
    | 1, hx => cases hx; exact g1
    | 2, hx => cases hx; exact g2
    | k + 3, hx => simp at hx
  · have hx9 : ∀ (k : Nat) (x : Nat × va_E), ([(H.size, .inl (cA, 2, .inr (.inr (.inr (.inr (fun i => some (H.size + 1 + i))))))), (H.size + 1, .inl (cI, 33, .inl (fun _ => 0))), (H.size + 2, .inl (cI, 33, .inl (fun _ => 0)))] : va_W)[k]? = some x → x.1 = H.size + k := fun k x hx => by
      match k, hx with
      | 0, hx => cases hx; rfl
      | 1, hx => cases hx; rfl
      | 2, hx => cases hx; rfl
      | k + 3, hx => simp at hx
    have := hx9 i x hi
    have := hx9 j y hj
    omega
  · match k, hx with
    | 0, hx => cases hx; exact hA _ hS.1
    | 1, hx => cases hx; exact hA _ (by have := hS.1; omega)
    | 2, hx => cases hx; exact hA _ (by have := hS.1; omega)
    | k + 3, hx => simp at hx
  · have h1 := hlt i x hi
    match j, hj with
    | 0, hj => cases hj; omega
    | 1, hj => cases hj; omega
    | 2, hj => cases hj; omega
    | j + 3, hj => simp at hj
  · rcases List.mem_append.mp hx with h | h
    · exact hS.2.2 x h
    · rw [hL x h]; exact hA _ hS.1
end XMN
