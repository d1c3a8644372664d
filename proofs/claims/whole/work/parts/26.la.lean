def zz_KZ (X : zz_X) (A : Nat → Prop) : Prop := zz_Z X.2.2.2.2.1 ∧ ∀ (a : Nat) (cell : Cell), X.2.2.2.2.1.heap[a]? = some cell → cell.vm.isStatics = true → ¬ A a
theorem zz_KZ.at {X : zz_X} {A : Nat → Prop} (h : zz_KZ X A) {U : State} {locs : List Loc} (hS : va_S A X.2.2.2.2.1.heap U.heap locs) (hW : X.2.2.2.2.1.WarmedH U.vm) : zz_Z U :=
  h.1.kept hW.alike (fun a cell hc hs => by rw [hS.2.1 a (Array.getElem?_eq_some_iff.mp hc).1 (h.2 a cell hc hs)]; exact hc)
theorem zz_blindZ (as : List Value) (G : zz_G) (F : Nat → va_E) (a : Array Value) (U : State) (g : JFrame) (mk : MethodId) (q : va_Pc as (fun U => zz_I G F U ∧ zz_Z U) a U) : va_Pc as (fun U => zz_I G F U ∧ zz_Z U) a (U.calling g mk a) :=
  ⟨q.1, (zz_blind as G F a U g mk ⟨q.1, q.2.1⟩).2, q.2.2.kept (U := U.calling g mk a) (Vm.Alike.refl U.vm) (fun _ _ h _ => h)⟩
theorem zz_C.grow {X : zz_X} {G : zz_G} {A : Nat → Prop} {nL fr lo kc ks kc' ks' : Nat} {cc : ByteArray} {own : String} (h : zz_C X G A nL cc own fr lo kc ks) (hc : kc' ≤ X.2.2.2.1.cells) (hs : ks' ≤ X.2.2.2.1.slots) : zz_C X G A nL cc own fr lo kc' ks' :=
  ⟨h.1, h.2.1, h.2.2.1, h.ow, h.wd, h.K, h.dis, h.inA, h.nolock, ⟨h.room.1, h.room.2.1, hc, hs⟩, h.J⟩
/-- a contract of a method with handlers: it may make mc cells of ms slots -/
def zz_MW (l : Launch) (y : MethodName) (cc : ByteArray) (nL : Nat) (ret : Option FieldType) (hh : List (Nat × Nat × Nat × Nat)) (fr lo mc ms : Nat) (G : zz_G) (as : List Value) (F : Nat → va_E) (r : Option Value) (F' : Nat → va_E) : Prop :=
  Met l y (.codeWith y cc nL ret hh :: zz_TB) { frames := fr, cells := mc, slots := ms, locals := lo } (va_Pc as (fun U => zz_I G F U ∧ zz_Z U)) (zz_Q G r F') mc ms (zz_A G.2.2)
def zz_EW (X : zz_X) (G : zz_G) (r : Option Value) (F' : Nat → va_E) (mc ms : Nat) : State → Prop := MQ X.2.2.2.2.2.2.2.1 (zz_Q G r F') X.2.2.2.2.2.2.1 X.2.2.2.2.1 mc ms (zz_A G.2.2)
def zz_hh (c : Code) : List (Nat × Nat × Nat × Nat) := c.exceptionTable.toList.map (fun h => (h.startPc, h.endPc, h.handlerPc, h.catchType))
theorem zz_MW.of {l : Launch} {y : MethodName} {cc : ByteArray} {nL : Nat} {ret : Option FieldType} {hh : List (Nat × Nat × Nat × Nat)} {fr lo mc ms : Nat} {G : zz_G} {as : List Value} {F : Nat → va_E} {r : Option Value} {F' : Nat → va_E} (hy : plainName y.cls = true) (hl : (lg_sl as).length ≤ nL)
    (body : ∀ X : zz_X, X.2.1 = l → zz_C X G (zz_A G.2.2) nL cc y.cls fr lo 0 0 → zz_KZ X (zz_A G.2.2) → X.2.2.2.2.2.2.2.2.1.sig.returnType = ret → (mc ≤ X.2.2.2.1.cells ∧ ms ≤ X.2.2.2.1.slots) → zz_hh X.2.2.2.2.2.2.2.2.2 = hh → zz_W X G (zz_A G.2.2) nL 0 0 (zz_EW X G r F' mc ms) F 0 (lv_args 0 as) []) : zz_MW l y cc nL ret hh fr lo mc ms G as F r F' := by
  refine va_MetW (cc := cc) (maxL := nL) (ret := ret) (hh := hh) hy rfl ?_
  intro p e s m args below meth c s₁ B hml hv
  obtain ⟨rfl, ⟨hP, hK, hd, hJ⟩, hZ⟩ := hv
  have hl2 := lv_entry as (n := nL) hl
  rw [lg_entry_eq]
  obtain ⟨m', meth', c', h1, h2, h3, -, -, h4, -⟩ := Cond.codeWith_spec (atoms_spec (ws := .codeWith y cc nL ret hh :: zz_TB) B.pre _ List.mem_cons_self)
  obtain rfl : m' = m := Option.some.inj (h1.symm.trans B.named)
  obtain rfl : meth' = meth := Option.some.inj (h2.symm.trans B.method)
  obtain rfl : c' = c := Option.some.inj (h3.symm.trans (Stand.of_body B).code)
  exact body (p, l, e, (headSpec (.codeWith y cc nL ret hh :: zz_TB) { frames := fr, cells := mc, slots := ms, locals := lo }).room, s, m', as.toArray, below, meth', c') rfl ⟨B.exec, B.bytes, hml, findClass_of_methodNamed B.named, fun w hw => atoms_spec (ws := .codeWith y cc nL ret hh :: zz_TB) B.pre w (List.mem_cons_of_mem _ hw), hK, hd, fun k hk => ⟨k, hk, rfl⟩, B.notSynchronized, ⟨Nat.le_refl _, Nat.le_refl _, Nat.zero_le _, Nat.zero_le _⟩, hJ⟩
    ⟨hZ, fun a cell hc hs ⟨k, hk, e⟩ => by subst e; rw [zz_nost hP hk hc] at hs; cases hs⟩ B.returns ⟨Nat.le_refl _, Nat.le_refl _⟩ h4 s.heap [] _ hP va_S.rf hl2
theorem zi_ireturnW {X : zz_X} {G : zz_G} {nL fr lo kc ks : Nat} {cc : ByteArray} {own : String} {F F' : Nat → va_E} {pc : Nat} {L : List (Nat × Value)} {r : Option Value} (h : zz_C X G (zz_A G.2.2) nL cc own fr lo kc ks) (hr : X.2.2.2.2.2.2.2.2.1.sig.returnType = some .int) {v : Int32} (hd : decode cc pc = .ok (.ireturn, 1)) (he : some (.int v) = r) (hF : F = F') : zz_W X G (zz_A G.2.2) nL kc ks (zz_EW X G r F' kc ks) F pc L [.int v] := by
  subst he
  subst hF
  intro H locs ls hP hS hl
  exact W.iret h.exec h.code hr (fun t ht hW => ⟨rfl, by rw [ht]; exact hP, hS.F ht⟩) hS.2.2 hd h.nolock
section
variable {X : zz_X} {G : zz_G} {A : Nat → Prop} {nL kc ks fr lo : Nat} {cc : ByteArray} {own : String} {Q : State → Prop} {F F' : Nat → va_E} {pc : Nat} {L : List (Nat × Value)} {st : List Value}
/-- a call of a method that throws what this frame catches -/
theorem zi_callT (h : zz_C X G A nL cc own fr lo kc ks) (hZ : zz_KZ X A) {y : MethodName} {bytes : ByteArray} {maxL fr' lo' index ci N hpc : Nat} {ret : Option FieldType} {T : u_T} {ty0 : Nat → FieldType} {fs As S0 : List Value} {k : Nat} {cls : String} (hM : zz_T X.2.1 y bytes maxL ret fr' lo' G (.ref (G.2.2 k) :: As) F cls) (hy : zz_Yv y bytes maxL ret As.length) (hl : Cond.methodLink own index y ∈ zz_TB) (hp : zz_cp ci y.cls T N ty0) (hk : k < 42) (hF : F k = .inr (ci, fs)) (hR : fr' + 1 ≤ fr ∧ 8 + (maxL + 11) + lo' ≤ lo) (hc : kc + 1 ≤ X.2.2.2.1.cells ∧ ks + 6 ≤ X.2.2.2.1.slots) (hd : decode cc pc = .ok (.invokevirtual index, 3)) (hst : (st.map fun v => v.category).sum ≤ 8) (hS0 : S0 = As.reverse ++ .ref (G.2.2 k) :: st)
    (hH : ∀ (T' : State) (ls : Array Slot) (x : Addr) (ce : Cell), X.2.2.1.platform.magicAccessors = ({} : Platform).magicAccessors → X.2.2.2.2.1.WarmedH T'.vm → T'.vm.method? X.2.2.2.2.2.1 = some X.2.2.2.2.2.2.2.2.1 → X.2.2.2.2.2.2.2.2.1.code = some X.2.2.2.2.2.2.2.2.2 → T'.heap[x]? = some ce → ce.vm = .none → X.2.2.2.2.1.vm.findClass cls = some ce.cls → ∃ vm' : Vm, X.2.2.2.2.1.WarmedH vm' ∧ zt_F X.2.2.1 ((T'.setTop (F0 X.2.2.2.2.2.1 pc ls st)).pushFrame (.throwing x)) (F0 X.2.2.2.2.2.1 pc ls st) x hpc vm')
    (kk : ∀ x : Nat, zz_W X G A nL (kc + 1) (ks + 6) Q F hpc L [.ref x]) : zz_W X G A nL kc ks Q F pc L S0 := by
  subst hS0
  intro H locs ls hP hS hl2 T0 hT Y
  obtain ⟨mk, methM, hnamed, hmethM, hstM, habM⟩ := Cond.instanceMethod_spec (h.wd _ hy.2.1)
  obtain ⟨methM', cM, hmethM', -, -, -, -, -, -, hsigM⟩ := Cond.code_spec hnamed (h.wd _ hy.1)
  cases hmethM.symm.trans hmethM'
  obtain ⟨cellB, hcB, hoB, hclB⟩ := va_recv h.K hP hp.1 ((zz_get hk).trans (by rw [hF]))
  obtain ⟨c2, r2, m2, q1, q2, q3, q4, kP, hkP, hkPi⟩ := Cond.selects_spec (h.wd _ hy.2.2.1)
  have hclB2 : X.2.2.2.2.1.vm.findClass y.cls = some cellB.cls := hclB
  cases hclB2.symm.trans q1
  cases (State.methodFound?_of_named hnamed ⟨hy.2.2.2.2.1, hy.2.2.2.2.2.1⟩).symm.trans q2
  cases hnamed.symm.trans q3
  have hselP : selectMethod X.2.2.1.platform X.2.2.2.2.1.vm cellB.cls mk = .method mk := by rw [Launch.admits_selectMethod Y.admits]; exact q4
  have hpl : X.2.2.1.platform.magicAccessors = ({} : Platform).magicAccessors := by rw [Y.admits.platform]
  have hlen : As.length = methM.sig.parameters.length := by
    have h2 := hy.2.2.2.2.2.2
    rw [hsigM] at h2
    exact (Option.some.inj h2).symm
  obtain ⟨vm₁, Y₁, hstep₁⟩ := Y.invokevirtual h.exec h.ow (h.wd _ hl) hnamed hmethM hstM hkP hkPi ⟨hy.2.2.2.2.1, hy.2.2.2.2.2.1⟩ (a := G.2.2 k) (cell := cellB) (by rw [hT]; exact hcB)
    (fun z h9 => by rw [h9] at hoB; cases hoB) hselP hmethM habM hkP hkPi (g := F0 X.2.2.2.2.2.1 pc ls (As.reverse ++ .ref (G.2.2 k) :: st)) rfl (argsL := As) (rest := st) hlen rfl (by rw [h.code]; exact hd)
  have hW₁ := Y₁.warmed
  have hwd : ∀ w ∈ (Cond.code y bytes maxL ret :: zz_TB), ∀ a' : Array Value, w.before a' (T0.setVm vm₁) = true := fun w hw a' => (pay_in h.wd (zz_good hy.1)) w hw a' (T0.setVm vm₁) hW₁
  have hn1 : (T0.setVm vm₁).methodNamed? y = some mk := by
    have q : (X.2.2.2.2.1.setVm vm₁).methodNamed? y = some mk := by rw [State.methodNamed?_setVm (show X.2.2.2.2.1.vm.Alike vm₁ from hW₁.alike)]; exact hnamed
    exact q
  obtain ⟨x, ce, T', Y', z1, z2, z3, z4, z5, hsteps⟩ := zt_back Y₁ (g := F0 X.2.2.2.2.2.1 pc ls st) rfl (hl2.1.trans h.2.2.1.symm) (by rw [h.code]; exact hd) hn1 (a := (Value.ref (G.2.2 k) :: As).toArray) hM (hwd _ List.mem_cons_self _) (hwd _ (List.mem_cons_of_mem _ hy.2.2.2.1) _) (fun w hw => hwd w hw _)
    (Nat.le_trans hR.1 h.room.1) (Nat.le_trans (by have := hst; show 2 * 0 + (st.map fun v => v.category).sum + (maxL + 11) + lo' ≤ lo; have h3 := hR.2; omega) h.room.2.1) hc.1 hc.2
    (zz_blindZ _ G F _ _ _ _ ⟨rfl, ⟨by show va_P _ _ _ T0.heap; rw [hT]; exact hP, va_K.moved hW₁.alike h.K, h.dis, h.J.warm hW₁⟩, hZ.at (by show va_S A _ T0.heap locs; rw [hT]; exact hS) hW₁⟩)
  have hz4 : X.2.2.2.2.1.vm.findClass cls = some ce.cls := by rw [← (show X.2.2.2.2.1.vm.Alike vm₁ from hW₁.alike).findClass]; exact z5
  have hheap : (T0.setVm vm₁).heap = H := hT
  obtain ⟨vm', hW', hF'⟩ := hH T' ls x ce hpl Y'.warmed Y'.method' Y'.code z3 z4 hz4
  have hP' : va_P G.1 zz_cl (zz_w G.2.2 F) T'.heap := hP.kept (fun k2 q hq => by
    obtain ⟨h7, h8⟩ := List.getElem?_eq_some_iff.mp hq
    exact (z2 q.1 (by rw [hheap]; exact (hP k2 q hq).lt)).trans (by rw [hheap]))
  obtain ⟨t2, a1, b1⟩ := kk x T'.heap locs ls hP' ⟨Nat.le_trans hS.1 (by rw [← hheap]; exact z1), fun q h1 h2 => by rw [z2 q (by rw [hheap]; exact Nat.lt_of_lt_of_le h1 hS.1), hheap]; exact hS.2.1 q h1 h2, hS.2.2⟩ hl2 (T'.setVm vm') rfl (Y'.noted hW')
  refine ⟨t2, hstep₁ _ (fun acts => ?_), b1⟩
  rw [doInvoke_state]
  exact hsteps.trans (zt_caught Y'.here hF' a1)
/-- a call of a static method that has handlers -/
theorem zi_callSW (h : zz_C X G A nL cc own fr lo kc ks) (hZ : zz_KZ X A) {y : MethodName} {bytes : ByteArray} {maxL fr' lo' mc ms index : Nat} {ret : Option FieldType} {hh : List (Nat × Nat × Nat × Nat)} {As S0 : List Value} {v : Value} (hM : zz_MW X.2.1 y bytes maxL ret hh fr' lo' mc ms G As F (some v) F') (hw : Cond.codeWith y bytes maxL ret hh ∈ zz_TB) (hsta : Cond.static y ∈ zz_TB) (hini : Cond.initialized y.cls ∈ zz_TB) (hy : y.cls ≠ "java/lang/invoke/MethodHandle" ∧ y.cls ≠ "java/lang/invoke/VarHandle") (hpd : (parseMethodDescriptor y.desc).map (fun d => d.parameters.length) = some As.length) (hl : Cond.methodLink own index y ∈ zz_TB) (hR : fr' + 1 ≤ fr ∧ 8 + (maxL + 11) + lo' ≤ lo) (hc : kc + mc ≤ X.2.2.2.1.cells ∧ ks + ms ≤ X.2.2.2.1.slots) (hd : decode cc pc = .ok (.invokestatic index, 3)) (hst : (st.map fun v => v.category).sum ≤ 8) (hS0 : S0 = As.reverse ++ st)
    (kk : zz_W X G A nL (kc + mc) (ks + ms) Q F' (pc + 3) L (v :: st)) : zz_W X G A nL kc ks Q F pc L S0 := by
  subst hS0
  intro H locs ls hP hS hl2 T0 hT Y
  obtain ⟨mk, methM, cM, hnamed, hmethM, -, -, -, -, -, -, hsigM⟩ := Cond.codeWith_spec (h.wd _ hw)
  have hstatic : methM.isStatic = true := Cond.static_spec hnamed hmethM (h.wd _ hsta)
  obtain ⟨kP, hkP, -⟩ := className_of_methodNamed hnamed
  have hinitP : kP.init = .initialized := Cond.initialized_spec (findClass_of_methodNamed hnamed) hkP (h.wd _ hini)
  have hlen : As.length = methM.sig.parameters.length := by
    have h2 := hpd
    rw [hsigM] at h2
    exact (Option.some.inj h2).symm
  obtain ⟨vm₁, Y₁, hstep₁⟩ := Y.invokestatic h.exec h.ow (h.wd _ hl) hnamed hmethM hstatic hkP hinitP hy (g := F0 X.2.2.2.2.2.1 pc ls (As.reverse ++ st)) rfl (argsL := As) (rest := st) hlen rfl (by rw [h.code]; exact hd)
  have hW₁ := Y₁.warmed
  have hn1 : (T0.setVm vm₁).methodNamed? y = some mk := by
    have q : (X.2.2.2.2.1.setVm vm₁).methodNamed? y = some mk := by rw [State.methodNamed?_setVm (show X.2.2.2.2.1.vm.Alike vm₁ from hW₁.alike)]; exact hnamed
    exact q
  have hK := va_backW (R := X.2.2.2.1) (p := X.1) (e := X.2.2.1) (below := X.2.2.2.2.2.2.2.1) (s := X.2.2.2.2.1) (sargs := X.2.2.2.2.2.2.1) (len := 3) (W := 8) (bytes := bytes) (maxL := maxL) (ret := ret) (hh := hh) hM (zz_blindZ As G F) rfl rfl (Nat.le_trans hR.1 h.room.1) (Nat.le_trans hR.2 h.room.2.1) (pay_in h.wd (zz_good hw)) List.mem_cons_self (fun a' U hW => word_at hW (Or.inl (by first | rfl | simp [Cond.onTables, Cond.keeps, Cond.steady])) (h.wd _ hini))
  have hheap : (T0.setVm vm₁).heap = H := hT
  obtain ⟨v2, ⟨U', l2, c2, s2⟩, Y', ⟨g', mk', t, L2, e1, e2, hq, h1, hL, h2, h3⟩, st1⟩ := hK _ _ _ ⟨T0.setVm vm₁, locs, kc, ks⟩ (F0 X.2.2.2.2.2.1 pc ls st) (.invokestatic index) mk As.toArray Y₁ rfl (hl2.1.trans h.2.2.1.symm) (by rw [h.code]; exact hd) (lv_room hst) hn1
    ⟨hc.1, hc.2, rfl, ⟨by show va_P _ _ _ T0.heap; rw [hT]; exact hP, va_K.moved hW₁.alike h.K, h.dis, h.J.warm hW₁⟩, hZ.at (by show va_S A _ T0.heap locs; rw [hT]; exact hS) hW₁⟩
  dsimp only [Pt.U, Pt.locs, Pt.cells, Pt.slots] at Y' e1 e2 h1 h2 h3 st1
  subst h1
  subst h2
  subst h3
  obtain ⟨hv, hP1, hz, hkk⟩ := hq
  cases hv
  have hA : ∀ q : Nat, zz_A G.2.2 q → A q := fun q ⟨k, hk, e⟩ => e ▸ h.inA k hk
  have hz' : H.size ≤ t.heap.size := by rw [← hheap]; exact hz
  have hkk' : ∀ q : Nat, q < H.size → ¬ zz_A G.2.2 q → t.heap[q]? = H[q]? := by rw [← hheap]; exact hkk
  obtain ⟨t2, a1, b1⟩ := kk U'.heap (locs ++ L2) ls (by rw [e1]; exact hP1)
    ⟨Nat.le_trans hS.1 (by rw [e1]; exact hz'), fun q h1 h2 => by rw [e1, hkk' q (Nat.lt_of_lt_of_le h1 hS.1) (fun z => h2 (hA q z))]; exact hS.2.1 q h1 h2, fun q hq => by
      rcases List.mem_append.mp hq with h5 | h5
      · exact hS.2.2 q h5
      · exact hA _ (hL q h5)⟩ hl2 U' rfl Y'
  refine ⟨t2, hstep₁ _ (fun acts => ?_), b1⟩
  rw [doInvoke_state]
  exact st1.trans a1
end
theorem zz_one {c : Code} {a b d f : Nat} (h : zz_hh c = [(a, b, d, f)]) : ∃ x : ExceptionTableEntry, c.exceptionTable.toList = [x] ∧ x.startPc = a ∧ x.endPc = b ∧ x.handlerPc = d ∧ x.catchType = f := by
  unfold zz_hh at h
  obtain ⟨x, l, h1, h2, h3⟩ := List.map_eq_cons_iff.mp h
  have h4 := List.map_eq_nil_iff.mp h3
  simp only [Prod.mk.injEq] at h2
  exact ⟨x, by rw [h1, h4], h2.1, h2.2.1, h2.2.2.1, h2.2.2.2⟩
theorem zz_two {c : Code} {a b d f a2 b2 d2 f2 : Nat} (h : zz_hh c = [(a, b, d, f), (a2, b2, d2, f2)]) : ∃ x y : ExceptionTableEntry, c.exceptionTable.toList = [x, y] ∧ (x.startPc = a ∧ x.endPc = b ∧ x.handlerPc = d ∧ x.catchType = f) ∧ (y.startPc = a2 ∧ y.endPc = b2 ∧ y.handlerPc = d2 ∧ y.catchType = f2) := by
  unfold zz_hh at h
  obtain ⟨x, l, h1, h2, h3⟩ := List.map_eq_cons_iff.mp h
  obtain ⟨y, l2, h5, h6, h7⟩ := List.map_eq_cons_iff.mp h3
  have h4 := List.map_eq_nil_iff.mp h7
  simp only [Prod.mk.injEq] at h2 h6
  exact ⟨x, y, by rw [h1, h5, h4], ⟨h2.1, h2.2.1, h2.2.2.1, h2.2.2.2⟩, h6.1, h6.2.1, h6.2.2.1, h6.2.2.2⟩
