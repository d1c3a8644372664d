theorem zz_self2 (vm : Vm) (c : ClassId) : vm.assignable c c = true := by
  show vm.assignableAux (255 + 1) c c = true
  rw [Vm.assignableAux, Bool.or_eq_true, beq_iff_eq]
  exact Or.inl rfl
section
variable {e : Env} {s T' : State} {m : MethodId} {meth : Method} {c : Code} {own cls : String} {args : Array Value} {g : JFrame} {x : Addr} {ce : Cell}
/-- the first entry takes it -/
theorem zt_first (hpl : e.platform.magicAccessors = ({} : Platform).magicAccessors) (hW : s.WarmedH T'.vm) (hg : g.method = m) (hm : T'.vm.method? m = some meth) (hc : meth.code = some c) {x1 : ExceptionTableEntry} {rest : List ExceptionTableEntry} (hs : c.exceptionTable.toList = x1 :: rest) (hx : covers x1 g.pc = true) (h0 : x1.catchType ≠ 0)
    (hown : s.vm.findClass own = some m.cls) (hl : (Cond.classLink own x1.catchType cls).before args s = true) (hce : T'.heap[x]? = some ce) (hv : ce.vm = .none) (hcl : s.vm.findClass cls = some ce.cls) :
    ∃ vm' : Vm, s.WarmedH vm' ∧ zt_F e ((T'.setTop g).pushFrame (.throwing x)) g x x1.handlerPc vm' := by
  subst hg
  obtain ⟨c', hfc', hlinks⟩ := Cond.classLink_spec hown hl e.platform hpl
  obtain rfl : ce.cls = c' := Option.some.inj (hcl.symm.trans hfc')
  obtain ⟨hgv, hW', hr⟩ := State.classEntry (e := e) hW hlinks
  have hu := Stand.throwing_vm T' g x
  have hh := Stand.throwing_heap T' g x
  refine ⟨_, hW', fun Q E d acts => ?_⟩
  have hk2 : ∃ k, (((T'.setTop g).pushFrame (.throwing x)).setVm (T'.vm.noted g.method.cls x1.catchType (.cls ce.cls))).vm.classes[ce.cls]? = some k := Vm.classAt_of_findClass (vm := T'.vm.noted g.method.cls x1.catchType (.cls ce.cls)) (name := cls) (by rw [hW'.alike.findClass]; exact hcl)
  rw [W.findHandler_eq (meth := meth) (code := c) (by rw [hu]; exact hm) hc, hs, zt_go (vm' := T'.vm.noted g.method.cls x1.catchType (.cls ce.cls)) hx h0 (by rw [hu]; exact hgv) hr (by rw [hu]; no_record), W.findHandler_go_class (s := ((T'.setTop g).pushFrame (.throwing x)).setVm (T'.vm.noted g.method.cls x1.catchType (.cls ce.cls))) hx h0 hr (cell := ce) (by show ((T'.setTop g).pushFrame (.throwing x)).heap[x]? = some ce; rw [hh]; exact hce) (fun k => by rw [hv]; exact fun q => by cases q) hk2 hk2, if_pos (zz_self2 _ _)]
/-- the first entry's class is another one, the second takes it -/
theorem zt_second (hpl : e.platform.magicAccessors = ({} : Platform).magicAccessors) (hW : s.WarmedH T'.vm) (hg : g.method = m) (hm : T'.vm.method? m = some meth) (hc : meth.code = some c) {x1 x2 : ExceptionTableEntry} {rest : List ExceptionTableEntry} (hs : c.exceptionTable.toList = x1 :: x2 :: rest) (hx : covers x1 g.pc = true) (h0 : x1.catchType ≠ 0) (hx2 : covers x2 g.pc = true) (h02 : x2.catchType ≠ 0) {cls1 : String}
    (hown : s.vm.findClass own = some m.cls) (hl1 : (Cond.classLink own x1.catchType cls1).before args s = true) (hl : (Cond.classLink own x2.catchType cls).before args s = true) (hno : va_Nc cls cls1 s) (hce : T'.heap[x]? = some ce) (hv : ce.vm = .none) (hcl : s.vm.findClass cls = some ce.cls) :
    ∃ vm' : Vm, s.WarmedH vm' ∧ zt_F e ((T'.setTop g).pushFrame (.throwing x)) g x x2.handlerPc vm' := by
  subst hg
  obtain ⟨c1, hfc1, hlinks1⟩ := Cond.classLink_spec hown hl1 e.platform hpl
  obtain ⟨c', hfc', hlinks⟩ := Cond.classLink_spec hown hl e.platform hpl
  obtain rfl : ce.cls = c' := Option.some.inj (hcl.symm.trans hfc')
  obtain ⟨hgv1, hW1, hr1⟩ := State.classEntry (e := e) hW hlinks1
  obtain ⟨hgv, hW', hr⟩ := State.classEntry (e := e) hW1 hlinks
  have hu := Stand.throwing_vm T' g x
  have hh := Stand.throwing_heap T' g x
  have hno1 : (T'.vm.noted g.method.cls x1.catchType (.cls c1)).assignable ce.cls c1 = false := by
    obtain ⟨a, b, ha, hb, hab⟩ := va_Nc.moved (U := { T' with vm := T'.vm.noted g.method.cls x1.catchType (.cls c1) }) hW1.alike hno
    have ha2 : (T'.vm.noted g.method.cls x1.catchType (.cls c1)).findClass cls = some ce.cls := by rw [hW1.alike.findClass]; exact hcl
    have hb2 : (T'.vm.noted g.method.cls x1.catchType (.cls c1)).findClass cls1 = some c1 := by rw [hW1.alike.findClass]; exact hfc1
    obtain rfl : a = ce.cls := Option.some.inj (ha.symm.trans ha2)
    obtain rfl : b = c1 := Option.some.inj (hb.symm.trans hb2)
    exact hab
  refine ⟨_, hW', fun Q E d acts => ?_⟩
  have hk1 : ∃ k, (((T'.setTop g).pushFrame (.throwing x)).setVm (T'.vm.noted g.method.cls x1.catchType (.cls c1))).vm.classes[ce.cls]? = some k := Vm.classAt_of_findClass (vm := T'.vm.noted g.method.cls x1.catchType (.cls c1)) (name := cls) (by rw [hW1.alike.findClass]; exact hcl)
  have hk3 : ∃ k, (((T'.setTop g).pushFrame (.throwing x)).setVm (T'.vm.noted g.method.cls x1.catchType (.cls c1))).vm.classes[c1]? = some k := Vm.classAt_of_findClass (vm := T'.vm.noted g.method.cls x1.catchType (.cls c1)) (name := cls1) (by rw [hW1.alike.findClass]; exact hfc1)
  have hk2 : ∃ k, ((((T'.setTop g).pushFrame (.throwing x)).setVm (T'.vm.noted g.method.cls x1.catchType (.cls c1))).setVm ((T'.vm.noted g.method.cls x1.catchType (.cls c1)).noted g.method.cls x2.catchType (.cls ce.cls))).vm.classes[ce.cls]? = some k := Vm.classAt_of_findClass (vm := (T'.vm.noted g.method.cls x1.catchType (.cls c1)).noted g.method.cls x2.catchType (.cls ce.cls)) (name := cls) (by rw [hW'.alike.findClass]; exact hcl)
  rw [W.findHandler_eq (meth := meth) (code := c) (by rw [hu]; exact hm) hc, hs, zt_go (vm' := T'.vm.noted g.method.cls x1.catchType (.cls c1)) hx h0 (by rw [hu]; exact hgv1) hr1 (by rw [hu]; no_record), W.findHandler_go_class (s := ((T'.setTop g).pushFrame (.throwing x)).setVm (T'.vm.noted g.method.cls x1.catchType (.cls c1))) hx h0 hr1 (cell := ce) (by show ((T'.setTop g).pushFrame (.throwing x)).heap[x]? = some ce; rw [hh]; exact hce) (fun k => by rw [hv]; exact fun q => by cases q) hk1 hk3, if_neg (by rw [show (((T'.setTop g).pushFrame (.throwing x)).setVm (T'.vm.noted g.method.cls x1.catchType (.cls c1))).vm.assignable ce.cls c1 = false from hno1]; decide),
    zt_go (vm' := (T'.vm.noted g.method.cls x1.catchType (.cls c1)).noted g.method.cls x2.catchType (.cls ce.cls)) hx2 h02 hgv hr (by show ((T'.vm.noted g.method.cls x1.catchType (.cls c1)).noted g.method.cls x2.catchType (.cls ce.cls)).classes.size ≤ (T'.vm.noted g.method.cls x1.catchType (.cls c1)).classes.size; no_record), W.findHandler_go_class (s := (((T'.setTop g).pushFrame (.throwing x)).setVm (T'.vm.noted g.method.cls x1.catchType (.cls c1))).setVm ((T'.vm.noted g.method.cls x1.catchType (.cls c1)).noted g.method.cls x2.catchType (.cls ce.cls))) hx2 h02 hr (cell := ce) (by show ((T'.setTop g).pushFrame (.throwing x)).heap[x]? = some ce; rw [hh]; exact hce) (fun k => by rw [hv]; exact fun q => by cases q) hk2 hk2, if_pos (zz_self2 _ _)]
  exact Iff.rfl
end
/-- statics that a run doesn't touch -/
theorem zz_Zs {s U : State} {C n d : String} {args args' : Array Value} (hl : (Cond.laysStatic C n d).before args s = true) (h : (Cond.isRef (.static C n d)).before args s = true) (hvm : s.vm.Alike U.vm) (hk : ∀ (a : Nat) (cell : Cell), s.heap[a]? = some cell → cell.vm.isStatics = true → U.heap[a]? = some cell) :
    (Cond.isRef (.static C n d)).before args' U = true ∧ (Cond.laysStatic C n d).before args' U = true := by
  obtain ⟨c, k, i, f, a, cell, hc, hi, hst, ha, hcell, hs, hcls, hlt, hty⟩ := Cond.laysStatic_spec hl
  obtain ⟨k', hi', hek⟩ := State.fieldFound?_setVm hvm hi
  have hi2 : U.fieldFound? C n d = some (c, k', i, f) := hi'
  obtain ⟨v, hv, hr⟩ := Cond.isRef_spec h
  obtain ⟨-, a', cell', ha', hcell', -, hslot⟩ := Term.static_spec hi hv
  cases ha.symm.trans ha'
  cases hcell.symm.trans hcell'
  have hU := hk a cell hcell hs
  have ha2 : k'.statics = some a := by rw [hek]; exact ha
  refine ⟨?_, Cond.laysStatic_of (s := U) (by rw [hvm.findClass]; exact hc) hi2 hst ha2 hU hs hcls hlt (by rw [hek]; exact hty)⟩
  have hev : (Term.static C n d).eval args' U none [] U = some v := by
    simp [Term.eval, State.fieldNamed?, hi2, hst, ha2, hU, hs, hslot]
  simp only [Cond.before, Cond.holds, Cond.value, hev]
  cases v <;> simp [Value.isRef] at hr ⊢
theorem zz_Z.kept {s U : State} (h : zz_Z s) (hvm : s.vm.Alike U.vm) (hk : ∀ (a : Nat) (cell : Cell), s.heap[a]? = some cell → cell.vm.isStatics = true → U.heap[a]? = some cell) : zz_Z U := ⟨fun args =>
  have h1 := zz_Zs (args' := args) (h.1 #[]).2.2.1 (h.1 #[]).1 hvm hk
  have h2 := zz_Zs (args' := args) (h.1 #[]).2.2.2 (h.1 #[]).2.1 hvm hk
  ⟨h1.1, h2.1, h1.2, h2.2⟩, h.2.moved hvm⟩
theorem zz_nost {D : va_G} {ad : Nat → Nat} {F : Nat → va_E} {H : Heap} (hP : va_P D zz_cl (zz_w ad F) H) {k : Nat} (hk : k < 42) {cell : Cell} (h : H[ad k]? = some cell) : cell.vm.isStatics = false := by
  have h1 := hP k _ (zz_get hk)
  unfold va_at at h1
  cases hF : F k with
  | inl a =>
    rw [hF] at h1
    have h2 : H[ad k]? = some (vp_cell a.1 a.2) := h1
    rw [h2] at h
    cases h
    obtain ⟨c, n, f | f | f | f | f⟩ := a <;> rfl
  | inr o =>
    rw [hF] at h1
    obtain ⟨r, -, cell2, h2, -, h3, -⟩ := h1
    rw [show H[ad k]? = some cell2 from h2] at h
    cases h
    rw [h3]
    rfl
