abbrev zz_E2 : Type := va_G × (Nat → ClassId)
def zz_NW : List Cond := [(Jvm.Cond.methodLinkNest "PortTranslator" (9 : Nat) ({ cls := "PortTranslator$Packet", name := "<init>", desc := "()V" } : Jvm.MethodName) "PortTranslator"), (Jvm.Cond.methodLinkNest "PortTranslator" (21 : Nat) ({ cls := "PortTranslator$Subject", name := "<init>", desc := "()V" } : Jvm.MethodName) "PortTranslator"), (Jvm.Cond.methodLinkNest "PortTranslator$FlowTable" (17 : Nat) ({ cls := "PortTranslator$Flow", name := "<init>", desc := "()V" } : Jvm.MethodName) "PortTranslator"), (Jvm.Cond.methodLinkNest "PortTranslator$RuleList" (15 : Nat) ({ cls := "PortTranslator$Rule", name := "<init>", desc := "()V" } : Jvm.MethodName) "PortTranslator")]
theorem zj_25 : (Jvm.Cond.methodLinkNest "PortTranslator" (9 : Nat) ({ cls := "PortTranslator$Packet", name := "<init>", desc := "()V" } : Jvm.MethodName) "PortTranslator") ∈ zz_NW := List.mem_of_getElem? (i := 0) rfl
theorem zj_42 : (Jvm.Cond.methodLinkNest "PortTranslator" (21 : Nat) ({ cls := "PortTranslator$Subject", name := "<init>", desc := "()V" } : Jvm.MethodName) "PortTranslator") ∈ zz_NW := List.mem_of_getElem? (i := 1) rfl
theorem zj_87 : (Jvm.Cond.methodLinkNest "PortTranslator$FlowTable" (17 : Nat) ({ cls := "PortTranslator$Flow", name := "<init>", desc := "()V" } : Jvm.MethodName) "PortTranslator") ∈ zz_NW := List.mem_of_getElem? (i := 2) rfl
theorem zj_146 : (Jvm.Cond.methodLinkNest "PortTranslator$RuleList" (15 : Nat) ({ cls := "PortTranslator$Rule", name := "<init>", desc := "()V" } : Jvm.MethodName) "PortTranslator") ∈ zz_NW := List.mem_of_getElem? (i := 3) rfl
def zz_NJ (U : State) : Prop := va_AO "PortTranslator$Flow" U ∧ va_AO "PortTranslator$Rule" U ∧ ∀ w ∈ zz_NW, va_Nw w U
theorem zz_NJ.warm {s U : State} (hW : s.WarmedH U.vm) (h : zz_NJ s) : zz_NJ U := by
  refine ⟨h.1.moved hW.alike, h.2.1.moved hW.alike, fun w hw => ?_⟩
  have h2 := h.2.2 w hw
  simp only [zz_NW, List.mem_cons, List.not_mem_nil, or_false] at hw
  rcases hw with rfl | rfl | rfl | rfl <;> exact va_Nw.warmM hW h2
theorem zz_NJ.same {s U : State} (hv : s.vm = U.vm) (h : zz_NJ s) : zz_NJ U := by
  have ha : s.vm.Alike U.vm := by rw [hv]; exact Vm.Alike.refl _
  refine ⟨h.1.moved ha, h.2.1.moved ha, fun w hw => ?_⟩
  have h2 := h.2.2 w hw
  simp only [zz_NW, List.mem_cons, List.not_mem_nil, or_false] at hw
  rcases hw with rfl | rfl | rfl | rfl <;> exact va_Nw.same rfl hv h2
def zz_U (X : zz_X) (E : zz_E2) (A : Nat → Prop) (nL kc ks : Nat) (Q : State → Prop) (ws : va_W) (pc : Nat) (L : List (Nat × Value)) (st : List Value) : Prop :=
  ∀ (H : Heap) (locs : List Loc) (ls : Array Slot), va_P E.1 zz_cl ws H → va_D A ws → va_S A X.2.2.2.2.1.heap H locs → lv_has ls nL L → W X.1 X.2.1 X.2.2.1 X.2.2.2.1 X.2.2.2.2.1 X.2.2.2.2.2.1 X.2.2.2.2.2.2.1 X.2.2.2.2.2.2.2.1 X.2.2.2.2.2.2.2.2.1 X.2.2.2.2.2.2.2.2.2 H locs kc ks Q (F0 X.2.2.2.2.2.1 pc ls st)
def zz_Cc (X : zz_X) (E : zz_E2) (A : Nat → Prop) (nL : Nat) (cc : ByteArray) (own : String) (fr lo : Nat) : Prop :=
  X.1.tables.exec = Jvm.exec ∧ X.2.2.2.2.2.2.2.2.2.code = cc ∧ X.2.2.2.2.2.2.2.2.2.maxLocals = nL ∧ X.2.2.2.2.1.vm.findClass own = some X.2.2.2.2.2.1.cls ∧ (∀ w ∈ zz_TB, w.before X.2.2.2.2.2.2.1 X.2.2.2.2.1 = true) ∧ va_K E.1 zz_cl (zz_ty E.2) X.2.2.2.2.1 ∧ (∀ q : Nat, X.2.2.2.2.1.heap.size ≤ q → A q) ∧ X.2.2.2.2.2.2.2.2.1.locks = false ∧ (fr ≤ X.2.2.2.1.frames ∧ lo ≤ X.2.2.2.1.locals) ∧ zz_NJ X.2.2.2.2.1
section
variable {X : zz_X} {E : zz_E2} {A : Nat → Prop} {nL kc ks fr lo : Nat} {cc : ByteArray} {own : String} {Q : State → Prop} {ws ws' : va_W} {pc : Nat} {L L' : List (Nat × Value)} {st : List Value}
theorem zz_Cc.exec (h : zz_Cc X E A nL cc own fr lo) : X.1.tables.exec = Jvm.exec := h.1
theorem zz_Cc.code (h : zz_Cc X E A nL cc own fr lo) : X.2.2.2.2.2.2.2.2.2.code = cc := h.2.1
theorem zz_Cc.ow (h : zz_Cc X E A nL cc own fr lo) : X.2.2.2.2.1.vm.findClass own = some X.2.2.2.2.2.1.cls := h.2.2.2.1
theorem zz_Cc.wd (h : zz_Cc X E A nL cc own fr lo) : ∀ w ∈ zz_TB, w.before X.2.2.2.2.2.2.1 X.2.2.2.2.1 = true := h.2.2.2.2.1
theorem zz_Cc.K (h : zz_Cc X E A nL cc own fr lo) : va_K E.1 zz_cl (zz_ty E.2) X.2.2.2.2.1 := h.2.2.2.2.2.1
theorem zz_Cc.up (h : zz_Cc X E A nL cc own fr lo) : ∀ q : Nat, X.2.2.2.2.1.heap.size ≤ q → A q := h.2.2.2.2.2.2.1
theorem zz_Cc.nolock (h : zz_Cc X E A nL cc own fr lo) : X.2.2.2.2.2.2.2.2.1.locks = false := h.2.2.2.2.2.2.2.1
theorem zz_Cc.room (h : zz_Cc X E A nL cc own fr lo) : fr ≤ X.2.2.2.1.frames ∧ lo ≤ X.2.2.2.1.locals := h.2.2.2.2.2.2.2.2.1
theorem zz_Cc.NJ (h : zz_Cc X E A nL cc own fr lo) : zz_NJ X.2.2.2.2.1 := h.2.2.2.2.2.2.2.2.2
theorem zy_iconst (h : zz_Cc X E A nL cc own fr lo) {n : Int} {v : Int32} (hd : decode cc pc = .ok (.iconst n, 1)) (hv : Int32.ofInt n = v) (kk : zz_U X E A nL kc ks Q ws (pc + 1) L (.int v :: st)) : zz_U X E A nL kc ks Q ws pc L st := fun H locs ls hP hD hS hl => lv_iconst h.exec h.code hd hv (kk H locs ls hP hD hS hl)
theorem zy_bipush (h : zz_Cc X E A nL cc own fr lo) {n : Int} {v : Int32} (hd : decode cc pc = .ok (.bipush n, 2)) (hv : (Int8.ofInt n).toInt32 = v) (kk : zz_U X E A nL kc ks Q ws (pc + 2) L (.int v :: st)) : zz_U X E A nL kc ks Q ws pc L st := fun H locs ls hP hD hS hl => lv_bipush h.exec h.code hd hv (kk H locs ls hP hD hS hl)
theorem zy_dup (h : zz_Cc X E A nL cc own fr lo) {va : Value} (hd : decode cc pc = .ok (.dup, 1)) (hva : va.category = 1) (kk : zz_U X E A nL kc ks Q ws (pc + 1) L (va :: va :: st)) : zz_U X E A nL kc ks Q ws pc L (va :: st) := fun H locs ls hP hD hS hl => lv_dup h.exec h.code hd hva (kk H locs ls hP hD hS hl)
theorem zy_iload_n (h : zz_Cc X E A nL cc own fr lo) {k : Fin 4} {i : Nat} {x : Int32} (hd : decode cc pc = .ok (.iload_n k, 1)) (hi : (k : Nat) = i) (q : Nat) (hq : L[q]? = some (i, .int x)) (kk : zz_U X E A nL kc ks Q ws (pc + 1) L (.int x :: st)) : zz_U X E A nL kc ks Q ws pc L st := fun H locs ls hP hD hS hl => lv_iload_n h.exec h.code hd hi (lv_at hl q hq) (kk H locs ls hP hD hS hl)
theorem zy_aload_n (h : zz_Cc X E A nL cc own fr lo) {k : Fin 4} {i : Nat} {x : Nat} (hd : decode cc pc = .ok (.aload_n k, 1)) (hi : (k : Nat) = i) (q : Nat) (hq : L[q]? = some (i, .ref x)) (kk : zz_U X E A nL kc ks Q ws (pc + 1) L (.ref x :: st)) : zz_U X E A nL kc ks Q ws pc L st := fun H locs ls hP hD hS hl => lv_aload_n h.exec h.code hd hi (lv_at hl q hq) (kk H locs ls hP hD hS hl)
theorem zy_istore_n (h : zz_Cc X E A nL cc own fr lo) {k : Fin 4} {i : Nat} {x : Int32} (hd : decode cc pc = .ok (.istore_n k, 1)) (hi : (k : Nat) = i) (hn : i < nL) (hl : (i, Value.int x) :: L.filter (fun q => !(q.1 == i) && !(q.1 + 1 == i && q.2.category == 2)) = L') (kk : zz_U X E A nL kc ks Q ws (pc + 1) L' st) : zz_U X E A nL kc ks Q ws pc L (Value.int x :: st) := fun H locs ls hP hD hS hl2 => lv_istore_n h.exec h.code hd hi hl2 hn hl (fun ls2 h2 => kk H locs ls2 hP hD hS h2)
theorem zy_astore_n (h : zz_Cc X E A nL cc own fr lo) {k : Fin 4} {i : Nat} {x : Nat} (hd : decode cc pc = .ok (.astore_n k, 1)) (hi : (k : Nat) = i) (hn : i < nL) (hl : (i, Value.ref x) :: L.filter (fun q => !(q.1 == i) && !(q.1 + 1 == i && q.2.category == 2)) = L') (kk : zz_U X E A nL kc ks Q ws (pc + 1) L' st) : zz_U X E A nL kc ks Q ws pc L (Value.ref x :: st) := fun H locs ls hP hD hS hl2 => lv_astore_n h.exec h.code hd hi hl2 hn hl (fun ls2 h2 => kk H locs ls2 hP hD hS h2)
theorem zy_iinc (h : zz_Cc X E A nL cc own fr lo) {i : Nat} {n : Int} {x v : Int32} (hd : decode cc pc = .ok (.iinc i n, 3)) (q : Nat) (hq : L[q]? = some (i, .int x)) (hv : x + Int32.ofInt n = v) (hn : i < nL) (hl : (i, Value.int v) :: L.filter (fun q => !(q.1 == i) && !(q.1 + 1 == i && q.2.category == 2)) = L') (kk : zz_U X E A nL kc ks Q ws (pc + 3) L' st) : zz_U X E A nL kc ks Q ws pc L st := fun H locs ls hP hD hS hl2 => lv_iinc (k := q) h.exec h.code hd hl2 hq hv hn hl (fun ls2 h2 => kk H locs ls2 hP hD hS h2)
theorem zy_icmp_ge_t (h : zz_Cc X E A nL cc own fr lo) {x y : Int32} {off : Int} {tgt : Nat} (hd : decode cc pc = .ok (.if_icmp .ge off, 3)) (ht : (pc : Int) + off = (tgt : Int)) (hb : y ≤ x) (kt : zz_U X E A nL kc ks Q ws tgt L st) : zz_U X E A nL kc ks Q ws pc L (.int y :: .int x :: st) := fun H locs ls hP hD hS hl => lv_icmp_ge h.exec h.code hd ht (fun _ => kt H locs ls hP hD hS hl) (fun b => absurd hb b)
theorem zy_icmp_ge_f (h : zz_Cc X E A nL cc own fr lo) {x y : Int32} {off : Int} {tgt : Nat} (hd : decode cc pc = .ok (.if_icmp .ge off, 3)) (ht : (pc : Int) + off = (tgt : Int)) (hb : ¬ y ≤ x) (kf : zz_U X E A nL kc ks Q ws (pc + 3) L st) : zz_U X E A nL kc ks Q ws pc L (.int y :: .int x :: st) := fun H locs ls hP hD hS hl => lv_icmp_ge h.exec h.code hd ht (fun b => absurd b hb) (fun _ => kf H locs ls hP hD hS hl)
theorem zy_goto (h : zz_Cc X E A nL cc own fr lo) {off : Int} {tgt : Nat} (hd : decode cc pc = .ok (.goto off, 3)) (ht : (pc : Int) + off = (tgt : Int)) (kk : zz_U X E A nL kc ks Q ws tgt L st) : zz_U X E A nL kc ks Q ws pc L st := fun H locs ls hP hD hS hl => lv_goto h.exec h.code hd ht (kk H locs ls hP hD hS hl)
theorem zy_get (h : zz_Cc X E A nL cc own fr lo) {index ci N a : Nat} {C : String} {T : u_T} {ty0 : Nat → FieldType} {fs : List Value} {v : Value} (hp : zz_cp ci C T N ty0) (q0 j : Nat) (hw : ws[q0]? = some (a, .inr (ci, fs))) (hj : j < N) (hl : Cond.fieldLink own index (T j).1 (T j).2.1 (T j).2.2.1 ∈ zz_TB) (hv : fs[j]? = some v) (hd : decode cc pc = .ok (.getfield index, 3)) (kk : zz_U X E A nL kc ks Q ws (pc + 3) L (v :: st)) : zz_U X E A nL kc ks Q ws pc L (.ref a :: st) :=
  fun H locs ls hP hD hS hl2 => va_get h.exec h.code h.wd hp.2.1 h.ow h.K hP q0 hw hp.1 j hj (h.wd _ hl) (fun _ h9 => h9) hv hd (kk H locs ls hP hD hS hl2)
theorem zy_putF (h : zz_Cc X E A nL cc own fr lo) (hin : X.2.2.2.2.2.2.2.2.1.name = "<init>") {index ci N a : Nat} {C : String} {T : u_T} {ty0 : Nat → FieldType} {fs : List Value} {v : Value} (hp : zz_cp ci C T N ty0) (q0 j : Nat) (hw : ws[q0]? = some (a, .inr (ci, fs))) (hj : j < N) (hl : Cond.fieldLink own index (T j).1 (T j).2.1 (T j).2.2.1 ∈ zz_TB) (hfin : (T j).2.2.2 = true) (hdecl : (T j).1 = own) (hn : narrow (ty0 j) v = v) (hfit : fits (ty0 j) v = true) (hlen : j < fs.length) (hd : decode cc pc = .ok (.putfield index, 3)) (hws : ws.set q0 (a, .inr (ci, fs.set j v)) = ws') (kk : zz_U X E A nL kc ks Q ws' (pc + 3) L st) : zz_U X E A nL kc ks Q ws pc L (v :: .ref a :: st) := by
  subst hws
  intro H locs ls hP hD hS hl2
  exact va_putF h.exec h.code h.wd hp.2.1 ty0 hp.2.2.1 hp.2.2.2 h.ow h.K hP hD hS q0 hw hp.1 j hj (h.wd _ hl) (fun _ h9 => h9) hfin hin hdecl (hp.2.2.1 j hj) hn hfit hlen hd (fun H1 locs1 hP1 hD1 hS1 => kk H1 locs1 ls hP1 hD1 hS1 hl2)
theorem zy_iast (h : zz_Cc X E A nL cc own fr lo) {n a : Nat} {f : Nat → Int32} {i : Int32} {j : Nat} {x : Int32} (q0 : Nat) (hw : ws[q0]? = some (a, .inl (E.2 0, n, .inl f))) (hin : zz_ix i j n) (hd : decode cc pc = .ok (.iastore, 1)) (hws : ws.set q0 (a, .inl (E.2 0, n, .inl (upd f j x))) = ws') (kk : zz_U X E A nL kc ks Q ws' (pc + 1) L st) : zz_U X E A nL kc ks Q ws pc L (.int x :: .int i :: .ref a :: st) := by
  subst hws
  intro H locs ls hP hD hS hl2
  refine va_iast h.exec h.code h.K hP hD hS q0 0 hw rfl hin.vp hd (fun H1 locs1 hP1 hD1 hS1 => ?_)
  rw [hin.2.1] at hP1 hD1
  exact kk H1 locs1 ls hP1 hD1 hS1 hl2
theorem zy_aast (h : zz_Cc X E A nL cc own fr lo) {n a v t0 ci : Nat} {r : vw_C} {vs : List Value} {f : Nat → Option Nat} {i : Int32} {j : Nat} (q0 qk : Nat) (hw : ws[q0]? = some (a, .inl (E.2 t0, n, .inr (.inr (.inr (.inr f)))))) (ht : (zz_ty E.2)[t0]? = some (E.2 t0, .object r.1)) (hv : ws[qk]? = some (v, .inr (ci, vs))) (hc : zz_cl[ci]? = some r) (hin : zz_ix i j n) (hd : decode cc pc = .ok (.aastore, 1)) (hws : ws.set q0 (a, .inl (E.2 t0, n, .inr (.inr (.inr (.inr (va_up f j (some v))))))) = ws') (kk : zz_U X E A nL kc ks Q ws' (pc + 1) L st) : zz_U X E A nL kc ks Q ws pc L (.ref v :: .int i :: .ref a :: st) := by
  subst hws
  intro H locs ls hP hD hS hl2
  refine va_astq h.exec h.code h.K hP hD hS q0 t0 qk ci hw ht hv hc hin.vp hd (fun H1 locs1 hP1 hD1 hS1 => ?_)
  rw [hin.2.1] at hP1 hD1
  exact kk H1 locs1 ls hP1 hD1 hS1 hl2
theorem zy_new (h : zz_Cc X E A nL cc own fr lo) {index ci N : Nat} {C : String} {T : u_T} {ty0 : Nat → FieldType} {fs : List Value} (hp : zz_cp ci C T N ty0) (hcl : Cond.classLink own index C ∈ zz_TB) (hins : Cond.instantiable C N ∈ zz_TB) (hini : Cond.initialized C ∈ zz_TB) (hfs : ∀ j, j < N → defaultValue (ty0 j) = vp_V fs j) (hc : kc + 1 ≤ X.2.2.2.1.cells ∧ ks + N ≤ X.2.2.2.1.slots) (hd : decode cc pc = .ok (.new index, 3)) (kk : ∀ q : Nat, zz_U X E A nL (kc + 1) (ks + N) Q (ws ++ [(q, .inr (ci, fs))]) (pc + 3) L (.ref q :: st)) : zz_U X E A nL kc ks Q ws pc L st :=
  fun H locs ls hP hD hS hl2 => va_new h.exec h.code h.wd hp.2.1 ty0 hp.2.2.1 h.ow (h.wd _ hcl) (h.wd _ hins) (h.wd _ hini) h.K hP hD hS h.up hp.1 hfs hc.1 hc.2 hd (fun q H1 hP1 hD1 hS1 => kk q H1 locs ls hP1 hD1 hS1 hl2)
theorem zy_newaI (h : zz_Cc X E A nL cc own fr lo) {n : Int32} {N : Nat} (harr : Cond.arrayClass .int ∈ zz_TB) (hn : ¬ n < 0) (hN : n.toNatClampNeg = N) (hb : N ≤ 48) (hc : kc + 1 ≤ X.2.2.2.1.cells ∧ ks + N ≤ X.2.2.2.1.slots) (hd : decode cc pc = .ok (.newarray .int, 2)) (kk : ∀ q : Nat, zz_U X E A nL (kc + 1) (ks + N) Q (ws ++ [(q, .inl (E.2 0, N, .inl (fun _ => 0)))]) (pc + 2) L (.ref q :: st)) : zz_U X E A nL kc ks Q ws pc L (.int n :: st) := by
  intro H locs ls hP hD hS hl2
  refine va_newa (atype := .int) (ty := .int) (a0 := (N, .inl (fun _ => 0))) h.exec h.code (h.wd _ harr) rfl h.K hP hD hS h.up (fun _ => rfl) hn hN (Nat.le_trans (Nat.mul_le_mul hb (show componentBytes .int ≤ 8 by decide)) (by decide)) hc.1 hc.2 hd (fun q cA H1 hK1 hP1 hD1 hS1 => ?_)
  have h1 := (hK1.2 5 (cA, .int) rfl).2
  have h2 := (h.K.2 0 (E.2 0, .int) rfl).2
  obtain rfl : cA = E.2 0 := Option.some.inj (h1.symm.trans h2)
  exact kk q H1 locs ls hP1 hD1 hS1 hl2
theorem zy_newaZ (h : zz_Cc X E A nL cc own fr lo) {n : Int32} {N : Nat} (harr : Cond.arrayClass .boolean ∈ zz_TB) (hn : ¬ n < 0) (hN : n.toNatClampNeg = N) (hb : N ≤ 48) (hc : kc + 1 ≤ X.2.2.2.1.cells ∧ ks + N ≤ X.2.2.2.1.slots) (hd : decode cc pc = .ok (.newarray .boolean, 2)) (kk : ∀ q : Nat, zz_U X E A nL (kc + 1) (ks + N) Q (ws ++ [(q, .inl (E.2 1, N, .inl (fun _ => 0)))]) (pc + 2) L (.ref q :: st)) : zz_U X E A nL kc ks Q ws pc L (.int n :: st) := by
  intro H locs ls hP hD hS hl2
  refine va_newa (atype := .boolean) (ty := .boolean) (a0 := (N, .inl (fun _ => 0))) h.exec h.code (h.wd _ harr) rfl h.K hP hD hS h.up (fun _ => rfl) hn hN (Nat.le_trans (Nat.mul_le_mul hb (show componentBytes .boolean ≤ 8 by decide)) (by decide)) hc.1 hc.2 hd (fun q cA H1 hK1 hP1 hD1 hS1 => ?_)
  have h1 := (hK1.2 5 (cA, .boolean) rfl).2
  have h2 := (h.K.2 1 (E.2 1, .boolean) rfl).2
  obtain rfl : cA = E.2 1 := Option.some.inj (h1.symm.trans h2)
  exact kk q H1 locs ls hP1 hD1 hS1 hl2
theorem zy_newaJ (h : zz_Cc X E A nL cc own fr lo) {n : Int32} {N : Nat} (harr : Cond.arrayClass .long ∈ zz_TB) (hn : ¬ n < 0) (hN : n.toNatClampNeg = N) (hb : N ≤ 48) (hc : kc + 1 ≤ X.2.2.2.1.cells ∧ ks + N ≤ X.2.2.2.1.slots) (hd : decode cc pc = .ok (.newarray .long, 2)) (kk : ∀ q : Nat, zz_U X E A nL (kc + 1) (ks + N) Q (ws ++ [(q, .inl (E.2 2, N, .inr (.inl (fun _ => 0))))]) (pc + 2) L (.ref q :: st)) : zz_U X E A nL kc ks Q ws pc L (.int n :: st) := by
  intro H locs ls hP hD hS hl2
  refine va_newa (atype := .long) (ty := .long) (a0 := (N, .inr (.inl (fun _ => 0)))) h.exec h.code (h.wd _ harr) rfl h.K hP hD hS h.up (fun _ => rfl) hn hN (Nat.le_trans (Nat.mul_le_mul hb (show componentBytes .long ≤ 8 by decide)) (by decide)) hc.1 hc.2 hd (fun q cA H1 hK1 hP1 hD1 hS1 => ?_)
  have h1 := (hK1.2 5 (cA, .long) rfl).2
  have h2 := (h.K.2 2 (E.2 2, .long) rfl).2
  obtain rfl : cA = E.2 2 := Option.some.inj (h1.symm.trans h2)
  exact kk q H1 locs ls hP1 hD1 hS1 hl2
end
