/-! BASE: entries, ends and calls of readers and writers, over any world -/
def xMv (B : State → Prop) : Prop := (∀ u U : State, u.vm = U.vm → B u → B U) ∧ (∀ u U : State, u.WarmedH U.vm → B u → B U)
def xB0 : State → Prop := fun _ => True
theorem xMv0 : xMv xB0 := ⟨fun _ _ _ _ => trivial, fun _ _ _ _ => trivial⟩
def xR (D : va_G) (cl : List vw_C) (wd : va_W) (tys : List (ClassId × FieldType)) (B : State → Prop) (av : List Value) : Array Value → State → Prop := va_Pc av (fun U => va_P D cl wd U.heap ∧ va_K D cl tys U ∧ B U)
def xW (D : va_G) (cl : List vw_C) (wd : va_W) (tys : List (ClassId × FieldType)) (B : State → Prop) (sz : Nat) (av : List Value) : Array Value → State → Prop := va_Pc av (fun U => U.heap.size = sz ∧ va_P D cl wd U.heap ∧ va_K D cl tys U ∧ va_D (fun _ => True) wd ∧ B U)
def xQ {S : Type} (D : va_G) (cl : List vw_C) (post : Int32 → S → Prop) (ws' : S → va_W) (tys' : S → List (ClassId × FieldType)) (A : Nat → Prop) : Array Value → State → Outcome → State → Prop := va_Qi post (fun u t => va_P D cl (ws' u) t.heap ∧ va_K D cl (tys' u) t ∧ va_D A (ws' u)) A
def xQv {S : Type} (D : va_G) (cl : List vw_C) (post : S → Prop) (ws' : S → va_W) (tys' : S → List (ClassId × FieldType)) (A : Nat → Prop) : Array Value → State → Outcome → State → Prop := va_Qv post (fun u t => va_P D cl (ws' u) t.heap ∧ va_K D cl (tys' u) t ∧ va_D A (ws' u)) A
theorem xT_fb {av : List Value} : FrameBlind (va_Pc av (fun _ => True)) := fun _ _ _ _ q => q
theorem xR_fb {D : va_G} {cl : List vw_C} {wd : va_W} {tys : List (ClassId × FieldType)} {B : State → Prop} {av : List Value} (hB : xMv B) : FrameBlind (xR D cl wd tys B av) := fun a U g mk q => ⟨q.1, q.2.1, va_K.moved (u := U) (U := U.calling g mk a) (Vm.Alike.refl U.vm) q.2.2.1, hB.1 U (U.calling g mk a) rfl q.2.2.2⟩
theorem xW_fb {D : va_G} {cl : List vw_C} {wd : va_W} {tys : List (ClassId × FieldType)} {B : State → Prop} {sz : Nat} {av : List Value} (hB : xMv B) : FrameBlind (xW D cl wd tys B sz av) := fun a U g mk q => ⟨q.1, q.2.1, q.2.2.1, va_K.moved (u := U) (U := U.calling g mk a) (Vm.Alike.refl U.vm) q.2.2.2.1, q.2.2.2.2.1, hB.1 U (U.calling g mk a) rfl q.2.2.2.2.2⟩
section XBI
variable {l : Launch} {y : MethodName} {ws ws0 : List Cond} {rm : Room} {cc : ByteArray} {maxL mc ms sz : Nat} {ret : Option FieldType} {D : va_G} {cl : List vw_C} {wd : va_W} {tys : List (ClassId × FieldType)} {B : State → Prop} {av : List Value}
/-- a method that reads nothing -/
theorem xs_in {Qc : Array Value → State → Outcome → State → Prop} (hy : plainName y.cls = true) (hw : ws = Cond.code y cc maxL ret :: ws0) (hlen : (lg_sl av).length ≤ maxL)
    (body : ∀ (p : Program) (e : Env) (s : State) (m : MethodId) (below : List Frame) (meth : Method) (c : Code) (ls : Array Slot), p.tables.exec = Jvm.exec → c.code = cc → meth.sig.returnType = ret → c.maxLocals = maxL → (∀ w ∈ ws, w.before av.toArray s = true) → s.vm.findClass y.cls = some m.cls → meth.locks = false → lv_has ls maxL (lv_args 0 av) →
      W p l e rm s m av.toArray below meth c s.heap [] 0 0 (MQ below Qc av.toArray s 0 0 (fun _ => False)) (F0 m 0 ls [])) : Met l y ws rm (va_Pc av (fun _ => True)) Qc 0 0 (fun _ => False) := by
  refine Met.ofW (cc := cc) (maxL := maxL) (ret := ret) hy hw ?_
  intro p e s m args below meth c s₁ Bd hml hv
  obtain ⟨rfl, -⟩ := hv
  rw [lg_entry_eq]
  exact body p e s m below meth c _ Bd.exec Bd.bytes Bd.returns hml (atoms_spec (ws := ws) Bd.pre) (findClass_of_methodNamed Bd.named) Bd.notSynchronized (lv_entry av (n := maxL) hlen)
/-- a method that reads a world -/
theorem xr_in {Qc : Array Value → State → Outcome → State → Prop} (hy : plainName y.cls = true) (hw : ws = Cond.code y cc maxL ret :: ws0) (hlen : (lg_sl av).length ≤ maxL)
    (body : ∀ (p : Program) (e : Env) (s : State) (m : MethodId) (below : List Frame) (meth : Method) (c : Code) (ls : Array Slot), p.tables.exec = Jvm.exec → c.code = cc → meth.sig.returnType = ret → c.maxLocals = maxL → (∀ w ∈ ws, w.before av.toArray s = true) → s.vm.findClass y.cls = some m.cls → meth.locks = false → va_P D cl wd s.heap → va_K D cl tys s → B s → lv_has ls maxL (lv_args 0 av) →
      W p l e rm s m av.toArray below meth c s.heap [] 0 0 (MQ below Qc av.toArray s 0 0 (fun _ => False)) (F0 m 0 ls [])) : Met l y ws rm (xR D cl wd tys B av) Qc 0 0 (fun _ => False) := by
  refine Met.ofW (cc := cc) (maxL := maxL) (ret := ret) hy hw ?_
  intro p e s m args below meth c s₁ Bd hml hv
  obtain ⟨rfl, hP, hK, hB⟩ := hv
  rw [lg_entry_eq]
  exact body p e s m below meth c _ Bd.exec Bd.bytes Bd.returns hml (atoms_spec (ws := ws) Bd.pre) (findClass_of_methodNamed Bd.named) Bd.notSynchronized hP hK hB (lv_entry av (n := maxL) hlen)
/-- a method that writes in a world -/
theorem xw_in {Qf : (Nat → Prop) → Array Value → State → Outcome → State → Prop} (hy : plainName y.cls = true) (hw : ws = Cond.code y cc maxL ret :: ws0) (hlen : (lg_sl av).length ≤ maxL)
    (body : ∀ (p : Program) (e : Env) (s : State) (m : MethodId) (below : List Frame) (meth : Method) (c : Code) (ls : Array Slot) (A : Nat → Prop), p.tables.exec = Jvm.exec → c.code = cc → meth.sig.returnType = ret → c.maxLocals = maxL → (∀ w ∈ ws, w.before av.toArray s = true) → s.vm.findClass y.cls = some m.cls → meth.locks = false → meth.name = y.name → (∀ q : Nat, s.heap.size ≤ q → A q) → va_P D cl wd s.heap → va_K D cl tys s → va_D A wd → va_S A s.heap s.heap [] → B s → lv_has ls maxL (lv_args 0 av) →
      W p l e rm s m av.toArray below meth c s.heap [] 0 0 (MQ below (Qf A) av.toArray s mc ms A) (F0 m 0 ls [])) : Met l y ws rm (xW D cl wd tys B sz av) (Qf (va_A wd sz)) mc ms (va_A wd sz) := by
  refine Met.ofW (cc := cc) (maxL := maxL) (ret := ret) hy hw ?_
  intro p e s m args below meth c s₁ Bd hml hv
  obtain ⟨rfl, hsz, hP, hK, hD0, hB⟩ := hv
  subst hsz
  rw [lg_entry_eq]
  exact body p e s m below meth c _ (va_A wd s.heap.size) Bd.exec Bd.bytes Bd.returns hml (atoms_spec (ws := ws) Bd.pre) (findClass_of_methodNamed Bd.named) Bd.notSynchronized (name_of_methodNamed Bd.named Bd.method).1 (fun q h => Or.inr h) hP hK (hD0.self (sz := s.heap.size)) va_S.rf hB (lv_entry av (n := maxL) hlen)
end XBI
section XBC
variable {p : Program} {l : Launch} {e : Env} {R : Room} {s : State} {m : MethodId} {args : Array Value} {below : List Frame} {meth : Method} {c : Code} {H H0 : Heap} {locs : List Loc} {cells slots : Nat} {Q : State → Prop}
variable {cc : ByteArray} {pc : Nat} {ls : Array Slot} {st0 rest : List Value} {D : va_G} {cl : List vw_C} {A : Nat → Prop} {a : Nat} {tys : List (ClassId × FieldType)} {wd : va_W} {B : State → Prop}
variable {y : MethodName} {ws Ts : List Cond} {rm : Room} {bytes : ByteArray} {maxL nL mc ms n index : Nat} {ret : Option FieldType} {own C : String} {As : List Value} {r v : Int32} {b : Nat}
/-- the end of a reader -/
theorem xr_i (hx : p.tables.exec = Jvm.exec) (hb : c.code = cc) (hr : meth.sig.returnType = some .int) (hlk : meth.locks = false) (hdg : decode cc pc = .ok (.ireturn, 1)) (hv : v = r) : W p l e R s m args below meth c s.heap [] 0 0 (MQ below (QcRead r) args s 0 0 (fun _ => False)) (F0 m pc ls [.int v]) := by
  subst hv
  exact W.iret hx hb hr (fun t ht _ => ⟨rfl, ht⟩) (fun q h => by cases h) hdg hlk
theorem xr_z (hx : p.tables.exec = Jvm.exec) (hb : c.code = cc) (hr : meth.sig.returnType = some .boolean) (hlk : meth.locks = false) (hdg : decode cc pc = .ok (.ireturn, 1)) (hn : narrow .boolean (.int r) = .int r) (hv : v = r) : W p l e R s m args below meth c s.heap [] 0 0 (MQ below (QcRead r) args s 0 0 (fun _ => False)) (F0 m pc ls [.int v]) := by
  subst hv
  exact W.zret hx hb hr hn (fun t ht _ => ⟨rfl, ht⟩) (fun q h => by cases h) hdg hlk
theorem xw_i {S : Type} {post : Int32 → S → Prop} {ws' : S → va_W} {tys' : S → List (ClassId × FieldType)} (u : S) (hx : p.tables.exec = Jvm.exec) (hb : c.code = cc) (hr : meth.sig.returnType = some .int) (hlk : meth.locks = false) (hdg : decode cc pc = .ok (.ireturn, 1)) (hP : va_P D cl (ws' u) H) (hK : va_K D cl (tys' u) s) (hD : va_D A (ws' u)) (hS : va_S A s.heap H locs) (hv : post v u) : W p l e R s m args below meth c H locs cells slots (MQ below (xQ D cl post ws' tys' A) args s cells slots A) (F0 m pc ls [.int v]) :=
  W.iret hx hb hr (fun t ht hW => ⟨⟨v, u, rfl, hv, by rw [ht]; exact hP, va_K.moved hW.alike hK, hD⟩, hS.F ht⟩) hS.2.2 hdg hlk
theorem xw_z {S : Type} {post : Int32 → S → Prop} {ws' : S → va_W} {tys' : S → List (ClassId × FieldType)} (u : S) (hx : p.tables.exec = Jvm.exec) (hb : c.code = cc) (hr : meth.sig.returnType = some .boolean) (hlk : meth.locks = false) (hdg : decode cc pc = .ok (.ireturn, 1)) (hn : narrow .boolean (.int v) = .int v) (hP : va_P D cl (ws' u) H) (hK : va_K D cl (tys' u) s) (hD : va_D A (ws' u)) (hS : va_S A s.heap H locs) (hv : post v u) : W p l e R s m args below meth c H locs cells slots (MQ below (xQ D cl post ws' tys' A) args s cells slots A) (F0 m pc ls [.int v]) :=
  W.zret hx hb hr hn (fun t ht hW => ⟨⟨v, u, rfl, hv, by rw [ht]; exact hP, va_K.moved hW.alike hK, hD⟩, hS.F ht⟩) hS.2.2 hdg hlk
theorem xw_v {S : Type} {post : S → Prop} {ws' : S → va_W} {tys' : S → List (ClassId × FieldType)} (u : S) (hx : p.tables.exec = Jvm.exec) (hb : c.code = cc) (hr : meth.sig.returnType = none) (hlk : meth.locks = false) (hdg : decode cc pc = .ok (.return_, 1)) (hP : va_P D cl (ws' u) H) (hK : va_K D cl (tys' u) s) (hD : va_D A (ws' u)) (hS : va_S A s.heap H locs) (hv : post u) : W p l e R s m args below meth c H locs cells slots (MQ below (xQv D cl post ws' tys' A) args s cells slots A) (F0 m pc ls []) :=
  W.vret hx hb hr (fun t ht hW => ⟨⟨u, rfl, hv, by rw [ht]; exact hP, va_K.moved hW.alike hK, hD⟩, hS.F ht⟩) hS.2.2 hdg hlk
/-- a static method that reads nothing is called -/
theorem xc_T (S : CallFix p m c cc nL s args Ts own) (hM : Met l y ws rm (va_Pc As (fun _ => True)) (QcRead r) 0 0 (fun _ => False)) (cw : CallB R s args own index y bytes maxL ret ws rm 0 0 n ∧ (Cond.static y).before args s = true) (hn : As.length = n) (hsize : ls.size = nL) (hstack : st0 = As.reverse ++ rest) (hW : (rest.map fun v => v.category).sum ≤ 8) (hdg : decode cc pc = .ok (.invokestatic index, 3)) (hf : cells ≤ R.cells ∧ slots ≤ R.slots)
    (kk : W p l e R s m args below meth c H locs cells slots Q (F0 m (pc + 3) ls (.int r :: rest))) : W p l e R s m args below meth c H locs cells slots Q (F0 m pc ls st0) :=
  W.callR (W.runS (g := F0 m pc ls st0) S hM cw ⟨xT_fb, fun U _ _ => ⟨rfl, trivial⟩⟩ rfl hn hsize hstack (lv_room hW) hdg hf) kk
/-- a method of an object that reads a world is called -/
theorem xc_R (S : CallFix p m c cc nL s args Ts own) (hM : Met l y ws rm (xR D cl wd tys B (Value.ref b :: As)) (QcRead r) 0 0 (fun _ => False)) (cw : CallW R s args own C index y bytes maxL ret ws rm 0 0 n) (hmv : xMv B) (hB : B s) (hP : va_P D cl wd H) (hK : va_K D cl tys s) (hrc : ∃ cell : Cell, H[b]? = some cell ∧ cell.vm.isStatics = false ∧ s.vm.findClass C = some cell.cls) (hn : As.length = n) (hsize : ls.size = nL) (hstack : st0 = As.reverse ++ .ref b :: rest) (hW : (rest.map fun v => v.category).sum ≤ 8) (hdg : decode cc pc = .ok (.invokevirtual index, 3)) (hf : cells ≤ R.cells ∧ slots ≤ R.slots)
    (kk : W p l e R s m args below meth c H locs cells slots Q (F0 m (pc + 3) ls (.int r :: rest))) : W p l e R s m args below meth c H locs cells slots Q (F0 m pc ls st0) :=
  W.callR (W.runV (g := F0 m pc ls st0) S hM cw ⟨xR_fb hmv, hrc, fun U hU hW => ⟨rfl, by rw [hU]; exact hP, va_K.moved hW.alike hK, hmv.2 s U hW hB⟩⟩ rfl hn hsize hstack (lv_room hW) hdg hf) kk
/-- a part of a world -/
theorem xp_l {w1 w2 : va_W} (h : va_P D cl (w1 ++ w2) H) : va_P D cl w1 H := fun k q hk => h k q (by rw [List.getElem?_append_left (List.getElem?_eq_some_iff.mp hk).1]; exact hk)
theorem xd_l {w1 w2 : va_W} (h : va_D A (w1 ++ w2)) : va_D A w1 := by
  refine ⟨fun i j p q hi hj e => h.1 i j p q ?_ ?_ e, fun k q hk => h.2 k q ?_⟩
  · rw [List.getElem?_append_left (List.getElem?_eq_some_iff.mp hi).1]; exact hi
  · rw [List.getElem?_append_left (List.getElem?_eq_some_iff.mp hj).1]; exact hj
  · rw [List.getElem?_append_left (List.getElem?_eq_some_iff.mp hk).1]; exact hk
theorem xp_c {w1 w2 : va_W} (h : va_P D cl (w1 ++ w2) H) : va_P D cl (w2 ++ w1) H := va_P.swap (a := []) h
theorem xd_c {w1 w2 : va_W} (h : va_D A (w1 ++ w2)) : va_D A (w2 ++ w1) := va_D.swap (a := []) h
theorem x_rng (X : va_W) : (List.range X.length).map (fun i => X[i]?) = X.map some := by
  apply List.ext_getElem?
  intro i
  by_cases h : i < X.length
  · simp [h]
  · simp [h]
theorem x_fr {w rw : va_W} (hD : va_D A (w ++ rw)) (hS : va_S A H0 H locs) (hA : ∀ q, H0.size ≤ q → A q) : ∀ q, va_A w H.size q → A q := by
  rintro q (⟨k, e, hk⟩ | h)
  · exact (xd_l hD).2 k _ hk
  · exact hA q (Nat.le_trans hS.1 h)
/-- behind a call on a part of the world -/
theorem xj {A0 : Nat → Prop} {w w1 rw : va_W} {H1 : Heap} (hP : va_P D cl (w ++ rw) H) (hD : va_D A0 (w ++ rw)) (hk : ∀ q : Nat, q < H.size → ¬ va_A w H.size q → H1[q]? = H[q]?) (hF : ∀ q, va_A w H.size q → A0 q) (hP1 : va_P D cl w1 H1) (hD1 : va_D (va_A w H.size) w1) : va_P D cl (w1 ++ rw) H1 ∧ va_D A0 (w1 ++ rw) :=
  va_joinQ (X := w) (cx := w) (wr := []) (pl := rw) hP hD (List.range w.length) [] (x_rng w) rfl rfl (fun i h => by cases h) hk hF hP1 hD1
/-- a method of an object that writes in a part of the world is called -/
theorem xc_W {S0 : Type} {post : Int32 → S0 → Prop} {ws' : S0 → va_W} {tys' : S0 → List (ClassId × FieldType)} {rw : va_W} (S : CallFix p m c cc nL s args Ts own) (hM : Met l y ws rm (xW D cl wd tys B H.size (Value.ref b :: As)) (xQ D cl post ws' tys' (va_A wd H.size)) mc ms (va_A wd H.size)) (cw : CallW R s args own C index y bytes maxL ret ws rm mc ms n) (hmv : xMv B) (hB : B s) (hP : va_P D cl (wd ++ rw) H) (hK : va_K D cl tys s) (hD : va_D A (wd ++ rw)) (hS : va_S A H0 H locs) (hA : ∀ q, H0.size ≤ q → A q) (hrc : ∃ cell : Cell, H[b]? = some cell ∧ cell.vm.isStatics = false ∧ s.vm.findClass C = some cell.cls) (hn : As.length = n) (hsize : ls.size = nL) (hstack : st0 = As.reverse ++ .ref b :: rest) (hW : (rest.map fun v => v.category).sum ≤ 8) (hdg : decode cc pc = .ok (.invokevirtual index, 3)) (hf : cells + mc ≤ R.cells ∧ slots + ms ≤ R.slots)
    (kk : ∀ (r : Int32) (u : S0) (H1 : Heap) (locs1 : List Loc), post r u → va_P D cl (ws' u ++ rw) H1 → va_D A (ws' u ++ rw) → va_K D cl (tys' u) s → va_S A H0 H1 locs1 → W p l e R s m args below meth c H1 locs1 (cells + mc) (slots + ms) Q (F0 m (pc + 3) ls (.int r :: rest))) : W p l e R s m args below meth c H locs cells slots Q (F0 m pc ls st0) := by
  have hF := x_fr hD hS hA
  refine va_calli (va_runV (g := F0 m pc ls st0) S hM cw ⟨xW_fb hmv, hrc, fun U hU hW => ⟨rfl, by rw [hU], by rw [hU]; exact xp_l hP, va_K.moved hW.alike hK, (xd_l hD).weaken (fun _ _ _ _ => trivial), hmv.2 s U hW hB⟩⟩ rfl hn hsize hstack (lv_room hW) hdg hf) hS (fun q _ h => hF q h) hF (fun r u t H1 locs1 ht hvm hw hBu hz1 hk1 hS1 => ?_)
  obtain ⟨hP1, hK1, hD1⟩ := hBu
  rw [ht] at hP1
  obtain ⟨hP2, hD2⟩ := xj hP hD hk1 hF hP1 hD1
  exact kk r u H1 locs1 hw hP2 hD2 (va_K.moved hvm.symm hK1) hS1
theorem xc_Wv {S0 : Type} {post : S0 → Prop} {ws' : S0 → va_W} {tys' : S0 → List (ClassId × FieldType)} {rw : va_W} (S : CallFix p m c cc nL s args Ts own) (hM : Met l y ws rm (xW D cl wd tys B H.size (Value.ref b :: As)) (xQv D cl post ws' tys' (va_A wd H.size)) mc ms (va_A wd H.size)) (cw : CallW R s args own C index y bytes maxL ret ws rm mc ms n) (hmv : xMv B) (hB : B s) (hP : va_P D cl (wd ++ rw) H) (hK : va_K D cl tys s) (hD : va_D A (wd ++ rw)) (hS : va_S A H0 H locs) (hA : ∀ q, H0.size ≤ q → A q) (hrc : ∃ cell : Cell, H[b]? = some cell ∧ cell.vm.isStatics = false ∧ s.vm.findClass C = some cell.cls) (hn : As.length = n) (hsize : ls.size = nL) (hstack : st0 = As.reverse ++ .ref b :: rest) (hW : (rest.map fun v => v.category).sum ≤ 8) (hdg : decode cc pc = .ok (.invokevirtual index, 3)) (hf : cells + mc ≤ R.cells ∧ slots + ms ≤ R.slots)
    (kk : ∀ (u : S0) (H1 : Heap) (locs1 : List Loc), post u → va_P D cl (ws' u ++ rw) H1 → va_D A (ws' u ++ rw) → va_K D cl (tys' u) s → va_S A H0 H1 locs1 → W p l e R s m args below meth c H1 locs1 (cells + mc) (slots + ms) Q (F0 m (pc + 3) ls rest)) : W p l e R s m args below meth c H locs cells slots Q (F0 m pc ls st0) := by
  have hF := x_fr hD hS hA
  refine va_callv (va_runV (g := F0 m pc ls st0) S hM cw ⟨xW_fb hmv, hrc, fun U hU hW => ⟨rfl, by rw [hU], by rw [hU]; exact xp_l hP, va_K.moved hW.alike hK, (xd_l hD).weaken (fun _ _ _ _ => trivial), hmv.2 s U hW hB⟩⟩ rfl hn hsize hstack (lv_room hW) hdg hf) hS (fun q _ h => hF q h) hF (fun u t H1 locs1 ht hvm hw hBu hz1 hk1 hS1 => ?_)
  obtain ⟨hP1, hK1, hD1⟩ := hBu
  rw [ht] at hP1
  obtain ⟨hP2, hD2⟩ := xj hP hD hk1 hF hP1 hD1
  exact kk u H1 locs1 hw hP2 hD2 (va_K.moved hvm.symm hK1) hS1
/-- a constructor is called -/
theorem xc_I {S0 : Type} {post : S0 → Prop} {ws' : S0 → va_W} {tys' : S0 → List (ClassId × FieldType)} {rw : va_W} (S : CallFix p m c cc nL s args Ts own) (hM : Met l y ws rm (xW D cl wd tys B H.size (Value.ref b :: As)) (xQv D cl post ws' tys' (va_A wd H.size)) mc ms (va_A wd H.size)) (cw : CallB R s args own index y bytes maxL none ws rm mc ms n ∧ y.name = "<init>" ∧ (Cond.instanceMethod y).before args s = true) (hmv : xMv B) (hB : B s) (hP : va_P D cl (wd ++ rw) H) (hK : va_K D cl tys s) (hD : va_D A (wd ++ rw)) (hS : va_S A H0 H locs) (hA : ∀ q, H0.size ≤ q → A q) (hn : As.length = n) (hsize : ls.size = nL) (hstack : st0 = As.reverse ++ .ref b :: rest) (hW : (rest.map fun v => v.category).sum ≤ 8) (hdg : decode cc pc = .ok (.invokespecial index, 3)) (hf : cells + mc ≤ R.cells ∧ slots + ms ≤ R.slots)
    (kk : ∀ (u : S0) (H1 : Heap) (locs1 : List Loc), post u → va_P D cl (ws' u ++ rw) H1 → va_D A (ws' u ++ rw) → va_K D cl (tys' u) s → va_S A H0 H1 locs1 → W p l e R s m args below meth c H1 locs1 (cells + mc) (slots + ms) Q (F0 m (pc + 3) ls rest)) : W p l e R s m args below meth c H locs cells slots Q (F0 m pc ls st0) := by
  have hF := x_fr hD hS hA
  refine va_callv (va_runI (g := F0 m pc ls st0) S hM cw ⟨xW_fb hmv, fun U hU hW => ⟨rfl, by rw [hU], by rw [hU]; exact xp_l hP, va_K.moved hW.alike hK, (xd_l hD).weaken (fun _ _ _ _ => trivial), hmv.2 s U hW hB⟩⟩ rfl hn hsize hstack (lv_room hW) hdg hf) hS (fun q _ h => hF q h) hF (fun u t H1 locs1 ht hvm hw hBu hz1 hk1 hS1 => ?_)
  obtain ⟨hP1, hK1, hD1⟩ := hBu
  rw [ht] at hP1
  obtain ⟨hP2, hD2⟩ := xj hP hD hk1 hF hP1 hD1
  exact kk u H1 locs1 hw hP2 hD2 (va_K.moved hvm.symm hK1) hS1
/-- a constructor of a nest mate is called -/
theorem xc_IN {S0 : Type} {post : S0 → Prop} {ws' : S0 → va_W} {tys' : S0 → List (ClassId × FieldType)} {rw : va_W} {host : String} (S : CallFix p m c cc nL s args Ts own) (hM : Met l y ws rm (xW D cl wd tys B H.size (Value.ref b :: As)) (xQv D cl post ws' tys' (va_A wd H.size)) mc ms (va_A wd H.size)) (cw : va_CN R s args own index y host bytes maxL none ws rm mc ms n ∧ y.name = "<init>" ∧ (Cond.instanceMethod y).before args s = true) (hmv : xMv B) (hB : B s) (hP : va_P D cl (wd ++ rw) H) (hK : va_K D cl tys s) (hD : va_D A (wd ++ rw)) (hS : va_S A H0 H locs) (hA : ∀ q, H0.size ≤ q → A q) (hn : As.length = n) (hsize : ls.size = nL) (hstack : st0 = As.reverse ++ .ref b :: rest) (hW : (rest.map fun v => v.category).sum ≤ 8) (hdg : decode cc pc = .ok (.invokespecial index, 3)) (hf : cells + mc ≤ R.cells ∧ slots + ms ≤ R.slots)
    (kk : ∀ (u : S0) (H1 : Heap) (locs1 : List Loc), post u → va_P D cl (ws' u ++ rw) H1 → va_D A (ws' u ++ rw) → va_K D cl (tys' u) s → va_S A H0 H1 locs1 → W p l e R s m args below meth c H1 locs1 (cells + mc) (slots + ms) Q (F0 m (pc + 3) ls rest)) : W p l e R s m args below meth c H locs cells slots Q (F0 m pc ls st0) := by
  have hF := x_fr hD hS hA
  refine va_callv (va_runIN (g := F0 m pc ls st0) S hM cw ⟨xW_fb hmv, fun U hU hW => ⟨rfl, by rw [hU], by rw [hU]; exact xp_l hP, va_K.moved hW.alike hK, (xd_l hD).weaken (fun _ _ _ _ => trivial), hmv.2 s U hW hB⟩⟩ rfl hn hsize hstack (lv_room hW) hdg hf) hS (fun q _ h => hF q h) hF (fun u t H1 locs1 ht hvm hw hBu hz1 hk1 hS1 => ?_)
  obtain ⟨hP1, hK1, hD1⟩ := hBu
  rw [ht] at hP1
  obtain ⟨hP2, hD2⟩ := xj hP hD hk1 hF hP1 hD1
  exact kk u H1 locs1 hw hP2 hD2 (va_K.moved hvm.symm hK1) hS1
/-- a static method that writes in a part of the world is called -/
theorem xc_Sv {S0 : Type} {post : S0 → Prop} {ws' : S0 → va_W} {tys' : S0 → List (ClassId × FieldType)} {rw : va_W} (S : CallFix p m c cc nL s args Ts own) (hM : Met l y ws rm (xW D cl wd tys B H.size As) (xQv D cl post ws' tys' (va_A wd H.size)) mc ms (va_A wd H.size)) (cw : CallB R s args own index y bytes maxL ret ws rm mc ms n ∧ (Cond.static y).before args s = true) (hmv : xMv B) (hB : B s) (hP : va_P D cl (wd ++ rw) H) (hK : va_K D cl tys s) (hD : va_D A (wd ++ rw)) (hS : va_S A H0 H locs) (hA : ∀ q, H0.size ≤ q → A q) (hn : As.length = n) (hsize : ls.size = nL) (hstack : st0 = As.reverse ++ rest) (hW : (rest.map fun v => v.category).sum ≤ 8) (hdg : decode cc pc = .ok (.invokestatic index, 3)) (hf : cells + mc ≤ R.cells ∧ slots + ms ≤ R.slots)
    (kk : ∀ (u : S0) (H1 : Heap) (locs1 : List Loc), post u → va_P D cl (ws' u ++ rw) H1 → va_D A (ws' u ++ rw) → va_K D cl (tys' u) s → va_S A H0 H1 locs1 → W p l e R s m args below meth c H1 locs1 (cells + mc) (slots + ms) Q (F0 m (pc + 3) ls rest)) : W p l e R s m args below meth c H locs cells slots Q (F0 m pc ls st0) := by
  have hF := x_fr hD hS hA
  refine va_callv (va_runS (g := F0 m pc ls st0) S hM cw ⟨xW_fb hmv, fun U hU hW => ⟨rfl, by rw [hU], by rw [hU]; exact xp_l hP, va_K.moved hW.alike hK, (xd_l hD).weaken (fun _ _ _ _ => trivial), hmv.2 s U hW hB⟩⟩ rfl hn hsize hstack (lv_room hW) hdg hf) hS (fun q _ h => hF q h) hF (fun u t H1 locs1 ht hvm hw hBu hz1 hk1 hS1 => ?_)
  obtain ⟨hP1, hK1, hD1⟩ := hBu
  rw [ht] at hP1
  obtain ⟨hP2, hD2⟩ := xj hP hD hk1 hF hP1 hD1
  exact kk u H1 locs1 hw hP2 hD2 (va_K.moved hvm.symm hK1) hS1
/-- a row out of an array of arrays -/
theorem xa_ald (hx : p.tables.exec = Jvm.exec) (hb : c.code = cc) (hK : va_K D cl tys s) (hP : va_P D cl wd H) (q0 t0 : Nat) {cA : ClassId} {t : FieldType} {n : Nat} {f : Nat → Nat} (ha : wd[q0]? = some (a, .inl (cA, n, .inr (.inr (.inr (.inr (fun i => some (f i)))))))) (ht : tys[t0]? = some (cA, .array t)) {i : Int32} (hin : vp_in i n) (hdg : decode cc pc = .ok (.aaload, 1))
    (kk : W p l e R s m args below meth c H locs cells slots Q (F0 m (pc + 1) ls (.ref (f i.toNatClampNeg) :: rest))) : W p l e R s m args below meth c H locs cells slots Q (F0 m pc ls (.int i :: .ref a :: rest)) := by
  have hlt : i.toNatClampNeg < n := Nat.not_le.mp fun q => hin (Or.inr q)
  exact W.aald (v := va_rf (some (f i.toNatClampNeg))) (ty := .array t) hx hb (hP q0 _ ha) ((hK.2 t0 _ ht).1 n (fun j => va_rf (some (f j)))) rfl (fun q => by cases q) (by show ¬ (i < 0 ∨ (arrV _ _ _).slots.size ≤ _); rw [arrV_size]; exact hin) (by show (arrV _ _ _).slots[_]? = _; rw [arrV_read _ _ hlt]) rfl rfl hdg kk
end XBC
