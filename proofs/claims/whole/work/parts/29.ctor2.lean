def zz_QI (E : zz_E2) (h0 : Nat) (e0 : va_E) (wf : (Nat → Nat) → va_W) (sz : Nat) : Array Value → State → Outcome → State → Prop := fun _ st oc t => (oc = .returned none ∧ ∃ qs : Nat → Nat, va_P E.1 zz_cl (wf qs) t.heap ∧ va_D (va_A [(h0, e0)] sz) (wf qs)) ∧ va_F (va_A [(h0, e0)] sz) st t
/-- a constructor's contract: from the cell (h0, e0) to the cells wf qs, the addresses qs being new -/
def zz_Mi (l : Launch) (y : MethodName) (cc : ByteArray) (nL fr lo mc ms : Nat) (E : zz_E2) (h0 : Nat) (e0 : va_E) (wf : (Nat → Nat) → va_W) : Prop :=
  ∀ sz : Nat, Met l y (.code y cc nL none :: zz_TB) { frames := fr, cells := mc, slots := ms, locals := lo } (va_Pc [.ref h0] (fun U => U.heap.size = sz ∧ va_P E.1 zz_cl [(h0, e0)] U.heap ∧ va_K E.1 zz_cl (zz_ty E.2) U ∧ zz_NJ U)) (zz_QI E h0 e0 wf sz) mc ms (va_A [(h0, e0)] sz)
def zz_EI (X : zz_X) (E : zz_E2) (h0 : Nat) (e0 : va_E) (wf : (Nat → Nat) → va_W) (mc ms : Nat) : State → Prop := MQ X.2.2.2.2.2.2.2.1 (zz_QI E h0 e0 wf X.2.2.2.2.1.heap.size) X.2.2.2.2.2.2.1 X.2.2.2.2.1 mc ms (va_A [(h0, e0)] X.2.2.2.2.1.heap.size)
theorem zz_D1 {A : Nat → Prop} {a : Nat} {e0 : va_E} (h : A a) : va_D A [(a, e0)] := by
  refine ⟨fun i j p q hi hj _ => ?_, fun k q hk => ?_⟩
  · have h1 := (List.getElem?_eq_some_iff.mp hi).1
    have h2 := (List.getElem?_eq_some_iff.mp hj).1
    simp at h1 h2
    omega
  · have h1 := (List.getElem?_eq_some_iff.mp hk).1
    simp at h1
    subst h1
    cases hk
    exact h
theorem zz_P1 {D : va_G} {a : Nat} {e0 : va_E} {H : Heap} {ws : va_W} {i : Nat} (hP : va_P D zz_cl ws H) (hw : ws[i]? = some (a, e0)) : va_P D zz_cl [(a, e0)] H := by
  intro k q hk
  have h1 := (List.getElem?_eq_some_iff.mp hk).1
  simp at h1
  subst h1
  cases hk
  exact hP i _ hw
theorem zz_Mi.of {l : Launch} {y : MethodName} {cc : ByteArray} {nL fr lo mc ms : Nat} {E : zz_E2} {h0 : Nat} {e0 : va_E} {wf : (Nat → Nat) → va_W} (hy : plainName y.cls = true) (hyn : y.name = "<init>") (hl : 1 ≤ nL)
    (body : ∀ X : zz_X, X.2.1 = l → zz_Cc X E (va_A [(h0, e0)] X.2.2.2.2.1.heap.size) nL cc y.cls fr lo → (mc ≤ X.2.2.2.1.cells ∧ ms ≤ X.2.2.2.1.slots) → X.2.2.2.2.2.2.2.2.1.sig.returnType = none → X.2.2.2.2.2.2.2.2.1.name = "<init>" → zz_U X E (va_A [(h0, e0)] X.2.2.2.2.1.heap.size) nL 0 0 (zz_EI X E h0 e0 wf mc ms) [(h0, e0)] 0 [(0, .ref h0)] []) : zz_Mi l y cc nL fr lo mc ms E h0 e0 wf := by
  intro sz
  refine Met.ofW (cc := cc) (maxL := nL) (ret := none) hy rfl ?_
  intro p e s m args below meth c s₁ B hml hv
  obtain ⟨rfl, rfl, hP, hK, hJ⟩ := hv
  have hl2 := lv_entry [.ref h0] (n := nL) (show (lg_sl [.ref h0]).length ≤ nL from hl)
  rw [lg_entry_eq]
  exact body (p, l, e, (headSpec (.code y cc nL none :: zz_TB) { frames := fr, cells := mc, slots := ms, locals := lo }).room, s, m, [Value.ref h0].toArray, below, meth, c) rfl ⟨B.exec, B.bytes, hml, findClass_of_methodNamed B.named, fun w hw => atoms_spec (ws := .code y cc nL none :: zz_TB) B.pre w (List.mem_cons_of_mem _ hw), hK, fun q hq => Or.inr hq, B.notSynchronized, ⟨Nat.le_refl _, Nat.le_refl _⟩, hJ⟩ ⟨Nat.le_refl _, Nat.le_refl _⟩ B.returns ((name_of_methodNamed B.named B.method).1.trans hyn) s.heap [] _ hP (zz_D1 (Or.inl ⟨0, e0, rfl⟩)) va_S.rf hl2
section
variable {X : zz_X} {E : zz_E2} {A : Nat → Prop} {nL kc ks fr lo : Nat} {cc : ByteArray} {own : String} {Q : State → Prop} {ws ws' : va_W} {pc : Nat} {L L' : List (Nat × Value)} {st : List Value}
theorem zy_vreturn {h0 : Nat} {e0 : va_E} {wf : (Nat → Nat) → va_W} {mc ms : Nat} (h : zz_Cc X E (va_A [(h0, e0)] X.2.2.2.2.1.heap.size) nL cc own fr lo) (hr : X.2.2.2.2.2.2.2.2.1.sig.returnType = none) (hd : decode cc pc = .ok (.return_, 1)) (hk : kc ≤ mc) (hs : ks ≤ ms) (qs : Nat → Nat) (hw : ws = wf qs) : zz_U X E (va_A [(h0, e0)] X.2.2.2.2.1.heap.size) nL kc ks (zz_EI X E h0 e0 wf mc ms) ws pc L [] := by
  subst hw
  intro H locs ls hP hD hS hl
  refine W.widen (k := mc) (n := ms) hk hs ?_
  exact W.vret h.exec h.code hr (fun t ht hW => ⟨⟨rfl, qs, by rw [ht]; exact hP, hD⟩, hS.F ht⟩) hS.2.2 hd h.nolock
theorem zy_objInit (h : zz_Cc X E A nL cc own fr lo) {a index : Nat} (hl : Cond.methodLink own index Lib.objectInit ∈ zz_TB) (hi : Cond.instanceMethod Lib.objectInit ∈ zz_TB) (hc : Cond.code Lib.objectInit ⟨#[0xb1]⟩ 1 none ∈ zz_TB) (hd : decode cc pc = .ok (.invokespecial index, 3)) (hst : (st.map fun v => v.category).sum ≤ 8) (hR : 1 ≤ fr ∧ 20 ≤ lo) (kk : zz_U X E A nL kc ks Q ws (pc + 3) L st) : zz_U X E A nL kc ks Q ws pc L (.ref a :: st) := by
  intro H locs ls hP hD hS hl2
  exact W.objInit h.exec h.code h.ow (h.wd _ hl) (h.wd _ hi) (h.wd _ hc) rfl (hl2.1.trans h.2.2.1.symm) rfl hd (Nat.le_trans hR.1 h.room.1) (Nat.le_trans (by show 2 * 0 + (st.map fun v => v.category).sum + 12 ≤ lo; have := hR.2; omega) h.room.2) (kk H locs ls hP hD hS hl2)
theorem zy_perm (is : List Nat) (hn : va_nd is = true) (h1 : is.filterMap (fun i => ws[i]?) = ws') (h2 : is.map (fun i => ws[i]?) = ws'.map some) (kk : zz_U X E A nL kc ks Q ws' pc L st) : zz_U X E A nL kc ks Q ws pc L st :=
  fun H locs ls hP hD hS hl => kk H locs ls (hP.sub is h1) (hD.sub is hn h2) hS hl
theorem zy_cell (q0 : Nat) {a : Nat} {cA : ClassId} {a0 a1 : vp_A} (hw : ws[q0]? = some (a, .inl (cA, a0))) (he : vp_cell cA a0 = vp_cell cA a1) (hws : ws.set q0 (a, .inl (cA, a1)) = ws') (kk : zz_U X E A nL kc ks Q ws' pc L st) : zz_U X E A nL kc ks Q ws pc L st := by
  subst hws
  intro H locs ls hP hD hS hl
  refine kk H locs ls (hP.set hD hw ?_ (fun _ _ => rfl)) (hD.set hw) hS hl
  show H[a]? = some (vp_cell cA a1)
  rw [← he]
  exact hP q0 _ hw
theorem zy_anew (h : zz_Cc X E A nL cc own fr lo) {index : Nat} {n : Int32} {N : Nat} {C : String} (t0 : Nat) (hcl : Cond.classLink own index C ∈ zz_TB) (hov : va_AO C X.2.2.2.2.1) (ht : (zz_ty E.2)[t0]? = some (E.2 t0, .object C)) (hn : ¬ n < 0) (hN : n.toNatClampNeg = N) (hb : N ≤ 48) (hc : kc + 1 ≤ X.2.2.2.1.cells ∧ ks + N ≤ X.2.2.2.1.slots) (hd : decode cc pc = .ok (.anewarray index, 3)) (kk : ∀ q : Nat, zz_U X E A nL (kc + 1) (ks + N) Q (ws ++ [(q, .inl (E.2 t0, N, .inr (.inr (.inr (.inr (fun _ => none))))))]) (pc + 3) L (.ref q :: st)) : zz_U X E A nL kc ks Q ws pc L (.int n :: st) := by
  intro H locs ls hP hD hS hl2
  refine va_newq h.exec h.code h.ow (h.wd _ hcl) hov h.K hP hD hS h.up hn hN (by omega) hc.1 hc.2 hd (fun q cA H1 hK1 hP1 hD1 hS1 => ?_)
  obtain ⟨_, _, _, _, _, h1⟩ := (hK1.2 5 (cA, .object C) rfl).2
  obtain ⟨_, _, _, _, _, h2⟩ := (h.K.2 t0 _ ht).2
  obtain rfl : cA = E.2 t0 := Option.some.inj (h1.symm.trans h2)
  exact kk q H1 locs ls hP1 hD1 hS1 hl2
theorem zy_callI (h : zz_Cc X E A nL cc own fr lo) {y : MethodName} {bytes : ByteArray} {maxL fr' lo' mc ms index a : Nat} {e0 : va_E} {wf : (Nat → Nat) → va_W} {wr : va_W} (hM : zz_Mi X.2.1 y bytes maxL fr' lo' mc ms E a e0 wf) (hw : Cond.code y bytes maxL none ∈ zz_TB) (hi : Cond.instanceMethod y ∈ zz_TB) (hini : Cond.initialized y.cls ∈ zz_TB) (hyn : y.name = "<init>") (hy : y.cls ≠ "java/lang/invoke/MethodHandle" ∧ y.cls ≠ "java/lang/invoke/VarHandle" ∧ (parseMethodDescriptor y.desc).map (fun d => d.parameters.length) = some 0) (hl : Cond.methodLink own index y ∈ zz_TB) (i : Nat) (hwi : ws[i]? = some (a, e0)) (isR : List Nat) (hR : isR.map (fun j => ws[j]?) = wr.map some) (hn : va_nd isR = true) (hdis : ∀ j ∈ isR, j ∉ [i]) (hRm : fr' + 1 ≤ fr ∧ 8 + (maxL + 11) + lo' ≤ lo) (hc : kc + mc ≤ X.2.2.2.1.cells ∧ ks + ms ≤ X.2.2.2.1.slots) (hd : decode cc pc = .ok (.invokespecial index, 3)) (hst : (st.map fun v => v.category).sum ≤ 8)
    (kk : ∀ qs : Nat → Nat, zz_U X E A nL (kc + mc) (ks + ms) Q (wr ++ wf qs) (pc + 3) L st) : zz_U X E A nL kc ks Q ws pc L (.ref a :: st) := by
  intro H locs ls hP hD hS hl2
  have hC : [i].map (fun j => ws[j]?) = [(a, e0)].map some := by simp [hwi]
  have hFc := va_free (wc := [(a, e0)]) hD hS h.up [i] hC
  have hPc := zz_P1 hP hwi
  have hr := va_runI (H := H) (locs := locs) (cells := kc) (slots := ks) (p := X.1) (e := X.2.2.1) (R := X.2.2.2.1) (below := X.2.2.2.2.2.2.2.1) (meth := X.2.2.2.2.2.2.2.2.1) (ws := .code y bytes maxL none :: zz_TB) (rm := { frames := fr', cells := mc, slots := ms, locals := lo' }) (n := 0) (g := F0 X.2.2.2.2.2.1 pc ls (.ref a :: st)) (As := []) (rest := st) (b := a) (S := ⟨h.exec, h.code, h.2.2.1, h.ow, h.wd⟩) (hM H.size) ⟨callB_of 0 h.wd (zz_good hw) rfl rfl rfl (h.wd _ hini) (h.wd _ hl) hy ⟨Nat.le_trans hRm.1 h.room.1, Nat.le_trans hRm.2 h.room.2⟩, hyn, h.wd _ hi⟩
    ⟨fun a2 U g mk q => by obtain ⟨q0, q1, qP, qK, qJ⟩ := q; exact ⟨q0, q1, qP, va_K.moved (u := U) (U := U.calling g mk a2) (Vm.Alike.refl U.vm) qK, zz_NJ.same (s := U) (U := U.calling g mk a2) rfl qJ⟩, fun U hU hW => ⟨rfl, by rw [hU], by rw [hU]; exact hPc, va_K.moved hW.alike h.K, h.NJ.warm hW⟩⟩ rfl rfl hl2.1 rfl (lv_room hst) hd hc
  intro T hT Y
  obtain ⟨v2, st₀, t, T', L2, h0, Y', hL, e1, e2, ⟨⟨hv, qs, hP1, hD1⟩, hz, hk⟩, st1⟩ := hr T hT Y
  cases hv
  rw [h0] at hz hk
  have hk1 : ∀ q : Nat, q < H.size → ¬ va_A [(a, e0)] H.size q → T'.heap[q]? = H[q]? := fun q h1 h2 => by rw [e1]; exact hk q h1 h2
  obtain ⟨hP2, hD2⟩ := va_join (wc := [(a, e0)]) (wr := wr) (w1 := wf qs) (H1 := T'.heap) hP hD [i] isR hC hR hn hdis hk1 hFc (by rw [e1]; exact hP1) hD1
  obtain ⟨t2, a1, b1⟩ := kk qs T'.heap (locs ++ L2) ls hP2 hD2
    ⟨Nat.le_trans hS.1 (by rw [e1]; exact hz), fun q h1 h2 => by rw [hk1 q (Nat.lt_of_lt_of_le h1 hS.1) (fun z => h2 (hFc q z))]; exact hS.2.1 q h1 h2, fun q hq => by
      rcases List.mem_append.mp hq with h5 | h5
      · exact hS.2.2 q h5
      · exact hFc _ (hL q h5)⟩ hl2 T' rfl Y'
  exact ⟨t2, st1 t2 a1, b1⟩
theorem zy_callIN (h : zz_Cc X E A nL cc own fr lo) {y : MethodName} {bytes : ByteArray} {maxL fr' lo' mc ms index a : Nat} {e0 : va_E} {wf : (Nat → Nat) → va_W} {wr : va_W} {host : String} (hM : zz_Mi X.2.1 y bytes maxL fr' lo' mc ms E a e0 wf) (hw : Cond.code y bytes maxL none ∈ zz_TB) (hi : Cond.instanceMethod y ∈ zz_TB) (hini : Cond.initialized y.cls ∈ zz_TB) (hyn : y.name = "<init>") (hy : y.cls ≠ "java/lang/invoke/MethodHandle" ∧ y.cls ≠ "java/lang/invoke/VarHandle" ∧ (parseMethodDescriptor y.desc).map (fun d => d.parameters.length) = some 0) (hl : Cond.methodLinkNest own index y host ∈ zz_NW) (i : Nat) (hwi : ws[i]? = some (a, e0)) (isR : List Nat) (hR : isR.map (fun j => ws[j]?) = wr.map some) (hn : va_nd isR = true) (hdis : ∀ j ∈ isR, j ∉ [i]) (hRm : fr' + 1 ≤ fr ∧ 8 + (maxL + 11) + lo' ≤ lo) (hc : kc + mc ≤ X.2.2.2.1.cells ∧ ks + ms ≤ X.2.2.2.1.slots) (hd : decode cc pc = .ok (.invokespecial index, 3)) (hst : (st.map fun v => v.category).sum ≤ 8)
    (kk : ∀ qs : Nat → Nat, zz_U X E A nL (kc + mc) (ks + ms) Q (wr ++ wf qs) (pc + 3) L st) : zz_U X E A nL kc ks Q ws pc L (.ref a :: st) := by
  intro H locs ls hP hD hS hl2
  have hC : [i].map (fun j => ws[j]?) = [(a, e0)].map some := by simp [hwi]
  have hFc := va_free (wc := [(a, e0)]) hD hS h.up [i] hC
  have hPc := zz_P1 hP hwi
  have hr := va_runIN (H := H) (locs := locs) (cells := kc) (slots := ks) (p := X.1) (e := X.2.2.1) (R := X.2.2.2.1) (below := X.2.2.2.2.2.2.2.1) (meth := X.2.2.2.2.2.2.2.2.1) (ws := .code y bytes maxL none :: zz_TB) (rm := { frames := fr', cells := mc, slots := ms, locals := lo' }) (n := 0) (g := F0 X.2.2.2.2.2.1 pc ls (.ref a :: st)) (As := []) (rest := st) (b := a) (S := ⟨h.exec, h.code, h.2.2.1, h.ow, h.wd⟩) (hM H.size) ⟨va_cnB 0 h.wd (zz_good hw) rfl rfl rfl (h.NJ.2.2 _ hl) (h.wd _ hini) hy ⟨Nat.le_trans hRm.1 h.room.1, Nat.le_trans hRm.2 h.room.2⟩, hyn, h.wd _ hi⟩
    ⟨fun a2 U g mk q => by obtain ⟨q0, q1, qP, qK, qJ⟩ := q; exact ⟨q0, q1, qP, va_K.moved (u := U) (U := U.calling g mk a2) (Vm.Alike.refl U.vm) qK, zz_NJ.same (s := U) (U := U.calling g mk a2) rfl qJ⟩, fun U hU hW => ⟨rfl, by rw [hU], by rw [hU]; exact hPc, va_K.moved hW.alike h.K, h.NJ.warm hW⟩⟩ rfl rfl hl2.1 rfl (lv_room hst) hd hc
  intro T hT Y
  obtain ⟨v2, st₀, t, T', L2, h0, Y', hL, e1, e2, ⟨⟨hv, qs, hP1, hD1⟩, hz, hk⟩, st1⟩ := hr T hT Y
  cases hv
  rw [h0] at hz hk
  have hk1 : ∀ q : Nat, q < H.size → ¬ va_A [(a, e0)] H.size q → T'.heap[q]? = H[q]? := fun q h1 h2 => by rw [e1]; exact hk q h1 h2
  obtain ⟨hP2, hD2⟩ := va_join (wc := [(a, e0)]) (wr := wr) (w1 := wf qs) (H1 := T'.heap) hP hD [i] isR hC hR hn hdis hk1 hFc (by rw [e1]; exact hP1) hD1
  obtain ⟨t2, a1, b1⟩ := kk qs T'.heap (locs ++ L2) ls hP2 hD2
    ⟨Nat.le_trans hS.1 (by rw [e1]; exact hz), fun q h1 h2 => by rw [hk1 q (Nat.lt_of_lt_of_le h1 hS.1) (fun z => h2 (hFc q z))]; exact hS.2.1 q h1 h2, fun q hq => by
      rcases List.mem_append.mp hq with h5 | h5
      · exact hS.2.2 q h5
      · exact hFc _ (hL q h5)⟩ hl2 T' rfl Y'
  exact ⟨t2, st1 t2 a1, b1⟩
end
