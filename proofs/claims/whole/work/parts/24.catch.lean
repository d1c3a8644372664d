/-- the search for a handler from u ends at pc, the tables then being vm' -/
def zt_F (e : Env) (u : State) (f : JFrame) (a : Addr) (pc : Nat) (vm' : Vm) : Prop := ∀ (Q : Handler → Pre) (E : CtlPost) (d : Bool) (acts : List Action), wp (findHandler f a) Q E e d acts u ↔ Q (.found pc) d acts (u.setVm vm')
/-- an entry that covers the pc and whose class isn't resolved yet: as from the tables that resolution leaves -/
theorem zt_go {e : Env} {u : State} {f : JFrame} {a : Addr} {vm' : Vm} {x : ExceptionTableEntry} {t : List ExceptionTableEntry} {c : ClassId} {Q : Handler → Pre} {E : CtlPost} {d : Bool} {acts : List Action} (hx : covers x f.pc = true) (h0 : x.catchType ≠ 0)
    (hg : (resolveClass f.method.cls x.catchType).Gives e.toSetting u.vm (.ok c) vm') (hr : vm'.classReady f.method.cls x.catchType c) (hsz : vm'.classes.size ≤ u.vm.classes.size) :
    wp (findHandler.go f a (x :: t)) Q E e d acts u ↔ wp (findHandler.go f a (x :: t)) Q E e d acts (u.setVm vm') := by
  simp only [covers] at hx
  obtain ⟨ha, ht⟩ := hg.op (op := VmOp.resolveClass f.method.cls x.catchType) rfl
  obtain ⟨k, hk, hres⟩ := hr
  obtain ⟨ha2, ht2⟩ := resolveClass_memo (vm := (u.setVm vm').vm) e hk hres
  have e1 : ∀ {P : Except LinkFail ClassId → Pre}, wp (vmOp (.resolveClass f.method.cls x.catchType)) P E e d acts u ↔ P (.ok c) ((VmOp.resolveClass f.method.cls x.catchType).dirties d) ((VmOp.resolveClass f.method.cls x.catchType).acts acts) (u.setVm vm') := by
    intro P
    rw [W.vmOp_same _ (by rw [ht]; exact hsz), ha, ht]
  have e2 : ∀ {P : Except LinkFail ClassId → Pre}, wp (vmOp (.resolveClass f.method.cls x.catchType)) P E e d acts (u.setVm vm') ↔ P (.ok c) ((VmOp.resolveClass f.method.cls x.catchType).dirties d) ((VmOp.resolveClass f.method.cls x.catchType).acts acts) (u.setVm vm') := by
    intro P
    rw [W.vmOp_same _ (by rw [ht2]; exact Nat.le_refl _), ha2, ht2]
    exact Iff.rfl
  simp only [findHandler.go, hx, if_true, h0, beq_iff_eq, if_false, wp_bind', e1, e2]
theorem zt_caught {tb : Tables} {e : Env} {u target : State} {g : JFrame} {c : Code} {below : List Frame} {a : Addr} {pc : Nat} {vm' : Vm} (h : At u g.method c below) (hf : zt_F e ((u.setTop g).pushFrame (.throwing a)) g a pc vm')
    (hrest : Steps tb e below ((u.setVm vm').setTop { g with pc := pc, stack := [.ref a] }) target) : Steps tb e below ((u.setTop g).pushFrame (.throwing a)) target := by
  obtain ⟨hgo, hw⟩ := h.throwing a
  refine Steps.head hgo hw ?_
  have hs : (stepThrowing e ((u.setTop g).pushFrame (.throwing a)) a (.java g :: u.frames.tail)).Is ((((u.setTop g).pushFrame (.throwing a)).setVm vm').setFrames (.java { g with pc := pc, stack := [.ref a] } :: u.frames.tail)) [] := by
    simp only [stepThrowing, searchFrame, vmDo]
    generalize hr : Sem.go _ e false [] ((u.setTop g).pushFrame (.throwing a)) = res
    obtain ⟨as, rfl, ha⟩ := Sem.eq_ok_of hr (a := Handler.found pc) (s' := ((u.setTop g).pushFrame (.throwing a)).setVm vm') (acts' := []) (by simp [hf _ _ _ _])
    exact ⟨rfl, ha⟩
  rw [stepThread_throwing (frames_entered h.top _), hs.1]
  obtain ⟨g₀, hg⟩ := Option.isSome_iff_exists.mp h.top
  obtain ⟨r, hr⟩ := State.topJava?_eq_some.mp hg
  have e3 : (((u.setTop g).pushFrame (.throwing a)).setVm vm').setFrames (.java { g with pc := pc, stack := [.ref a] } :: u.frames.tail) = (u.setVm vm').setTop { g with pc := pc, stack := [.ref a] } := by
    have hr' : (u.setVm vm').frames = .java g₀ :: r := hr
    rw [State.setTop_of_frames _ hr', State.setTop_of_frames _ hr, State.pushFrame, State.setFrames_setFrames, hr]
    show ((u.setVm vm').setFrames _).setFrames _ = _
    rw [State.setFrames_setFrames]
    rfl
  rw [e3]
  exact hrest
/-- what a callee that throws leaves: the note over the caller's frame, one new cell, nothing else changed -/
theorem zt_back {p : Program} {l : Launch} {e : Env} {R : Room} {s : State} {m : MethodId} {sargs : Array Value} {below : List Frame} {meth : Method} {c : Code} {U : State} {Ls : List Loc} {c0 s0 : Nat} (Y : Stand p l e R s m sargs below meth c U Ls c0 s0)
    {g : JFrame} (hg : g.method = m) (hsize : g.locals.size = c.maxLocals) {ig : Instr} {len : Nat} (hdg : decode c.code g.pc = .ok (ig, len)) {y : MethodName} {mk : MethodId} (hn : U.methodNamed? y = some mk) {a : Array Value} {ws : List Cond} {rm : Room} {P : Array Value → State → Prop} {cls : String} {bytes : ByteArray} {maxL : Nat} {ret : Option FieldType}
    (hM : MetFree l y (headSpec ws rm) P (fun _ _ _ _ _ => True) (zz_TP cls)) (hcode : (Cond.code y bytes maxL ret).before a U = true) (hini : (Cond.initialized y.cls).before a U = true) (hpre : ∀ w ∈ ws, w.before a U = true)
    (hfr : rm.frames + 1 ≤ R.frames) (hlo : 2 * g.monitorRoom + (g.stack.map fun v => v.category).sum + (maxL + 11) + rm.locals ≤ R.locals) (hce : c0 + rm.cells ≤ R.cells) (hsl : s0 + rm.slots ≤ R.slots) (hP : P a (U.calling g mk a)) :
    ∃ (x : Addr) (ce : Cell) (T' : State), Stand p l e R s m sargs below meth c T' Ls (c0 + 1) (s0 + 6) ∧ U.heap.size ≤ T'.heap.size ∧ (∀ q : Nat, q < U.heap.size → T'.heap[q]? = U.heap[q]?) ∧ T'.heap[x]? = some ce ∧ ce.vm = .none ∧ U.vm.findClass cls = some ce.cls ∧
      Steps p.tables e below (doInvoke e (U.setTop g) [] mk a).1 ((T'.setTop g).pushFrame (.throwing x)) := by
  obtain ⟨methY, cY, hmY, hcY, -, hlY, -, -, -, -⟩ := Cond.code_spec hn hcode
  obtain ⟨kY, hkY, -⟩ := className_of_methodNamed hn
  have hinitY : kY.init = .initialized := Cond.initialized_spec (findClass_of_methodNamed hn) hkY hini
  have h : At U g.method c below := by rw [hg]; exact Y.here
  have happ : (headSpec ws rm).appliesLoose y e.platform (U.calling g mk a) = true :=
    Spec.appliesLoose_calling (g := g) h hdg hn hkY hinitY (Y.room_calling (g := g) (R' := rm) hsize hmY hcY hfr (by rw [hlY]; exact hlo) hce hsl) (atoms_intro fun w hw => hpre w hw)
  obtain ⟨mid, hmid⟩ := h.above
  have hfr2 : (U.setTop g).frames = (.java g :: mid) ++ below := by rw [State.frames_setTop' g h.top, hmid]; rfl
  obtain ⟨o, s₂, hsteps, -, hend, hq⟩ := Jvm.Free.Steps.callFree hM p Y.admits Y.cas Y.clock (acts := []) hfr2 happ hP trivial
  obtain ⟨x, ce, rfl, hW, hsame, hx, hv, hc⟩ := hq
  rw [State.frames_setTop' g h.top] at hend
  have hf₂ : s₂.frames = .throwing x :: .java g :: U.frames.tail := hend
  have hW' : U.WarmedH s₂.vm := hW
  obtain ⟨e2, q2, q3, q4, q5, q6⟩ := hsame
  have e3 : s₂ = ({ (U.calling g mk a).setFrames s₂.frames with heap := s₂.heap, slotsUsed := s₂.slotsUsed } : State).setVm s₂.vm := by
    have h1 : s₂ = ({ s₂ with vm := (U.calling g mk a).vm } : State).setVm s₂.vm := rfl
    rw [show ({ s₂ with vm := (U.calling g mk a).vm } : State) = _ from e2] at h1
    exact h1
  obtain ⟨g₀, hg0⟩ := Option.isSome_iff_exists.mp h.top
  obtain ⟨r, hr⟩ := State.topJava?_eq_some.mp hg0
  have hs₂ : s₂ = ((({ U with heap := s₂.heap, slotsUsed := s₂.slotsUsed } : State).setVm s₂.vm).setTop g).pushFrame (.throwing x) := by
    have hr' : (({ U with heap := s₂.heap, slotsUsed := s₂.slotsUsed } : State).setVm s₂.vm).frames = .java g₀ :: r := hr
    refine e3.trans ?_
    rw [hf₂, State.calling_eq h.top, State.setFrames_setFrames, State.pushFrame, State.frames_setTop _ hr', State.setTop_of_frames _ hr', State.setFrames_setFrames, hr]
    rfl
  have hsame2 : U.sameButNew ({ U with heap := s₂.heap, slotsUsed := s₂.slotsUsed } : State) [] 1 6 := by
    refine ⟨?_, q2, q3, q4, q5, q6⟩
    obtain ⟨t, ht, -⟩ := State.frames_cons hr
    show ({ U with heap := s₂.heap, slotsUsed := s₂.slotsUsed } : State) = { U.setFrames U.frames with heap := s₂.heap, slotsUsed := s₂.slotsUsed }
    rw [State.setFrames_self ht]
  subst hg
  have hS2 := Y.same.trans (hsame2.setVm s.vm)
  rw [List.append_nil] at hS2
  refine ⟨x, ce, (({ U with heap := s₂.heap, slotsUsed := s₂.slotsUsed } : State).setVm s₂.vm), ⟨Y.admits, Y.cas, Y.clock, Y.frames, Y.room, Y.hears, Y.method, Y.code, (Y.here.setHeapUsed s₂.heap s₂.slotsUsed).setVm hW'.alike, Y.tail, State.WarmedH.trans Y.warmed hW', Y.limits, Y.bytes, hS2⟩, q2, fun q hq => ?_, hx, hv, hc, by rw [← hs₂]; exact hsteps⟩
  show s₂.heap[q]? = U.heap[q]?
  obtain ⟨cell, hcell⟩ : ∃ cell, U.heap[q]? = some cell := ⟨_, Array.getElem?_eq_getElem hq⟩
  obtain ⟨c', h1, h2, h3, h4⟩ := q6 q cell hcell
  have hsl2 : c'.slots = cell.slots := Array.ext_getElem? (fun i => h4 i (by simp))
  rw [hcell, show s₂.heap[q]? = some c' from h1, h2, hsl2]
