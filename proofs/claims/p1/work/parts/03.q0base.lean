/-! MY OWN KIT: worlds of single objects, one environment, contracts and calls in short -/
section GBase
abbrev gIO : String := "java/lang/IndexOutOfBoundsException"
abbrev gIA : String := "java/lang/IllegalArgumentException"
abbrev gIS : String := "java/lang/IllegalStateException"
/-- ids of the array classes: int[], boolean[], long[], double[] -/
abbrev gTy : Type := ClassId × ClassId × ClassId × ClassId
abbrev gTys (k : gTy) : List (ClassId × FieldType) := [(k.1, .int), (k.2.1, .boolean), (k.2.2.1, .long), (k.2.2.2, .double)]
/-- what stays through a run: ids of classes and fields, of array classes, the places of the texts, the place of ORDERS -/
abbrev gG : Type := va_G × gTy × (Nat → Nat) × Nat
/-- the number of orders of n defaults, as ORDERS has it -/
def gOrd (j : Nat) : Int32 := match j with
  | 0 => 1
  | 1 => 1
  | 2 => 2
  | 3 => 6
  | 4 => 24
  | 5 => 120
  | _ => 720
/-- the texts of the class's throws: place in its pool, text -/
def gStr : List (Nat × String) := [(74, "there are 16 strict rules"), (82, "there are 6 defaults"), (84, "there is no strict rule"), (86, "there is no default"), (99, "a default would come before itself"), (157, "the latest walk has no such index"), (170, "a literal is 0 to 15"), (172, "a set is 0 to 65535"), (174, "there is no such default"), (176, "there is no such extension"), (181, "there is no such order")]
def gCa (C T : String) (U : State) : Prop := ∃ c t : ClassId, U.vm.findClass C = some c ∧ U.vm.findClass T = some t ∧ U.vm.assignable c t = true
theorem gCa.moved {C T : String} {u U : State} (hvm : u.vm.Alike U.vm) (h : gCa C T u) : gCa C T U := by
  obtain ⟨c, t, h1, h2, h3⟩ := h
  exact ⟨c, t, by rw [hvm.findClass]; exact h1, by rw [hvm.findClass]; exact h2, by rw [hvm.assignable]; exact h3⟩
theorem gCa.of {args : Array Value} {s : State} {C T : String} (h : (Cond.castable C T).before args s = true) : gCa C T s := by
  obtain ⟨c, t, h1, h2, h3⟩ := Cond.castable_spec h
  exact ⟨c, t, h1, h2, h3⟩
theorem gCa.use {args : Array Value} {s : State} {C T : String} (h : gCa C T s) : (Cond.castable C T).before args s = true := by
  obtain ⟨c, t, h1, h2, h3⟩ := h
  simp [Cond.before, Cond.holds, Cond.value, h1, h2, h3]
def gNest : List Cond := [.methodLinkNest RX1 27 yX0_init RX1, .methodLinkNest RX1 110 yX0_pairs RX1, .methodLinkNest RX1 114 yX0_clear RX1]
def gSup : List String := ["java/lang/RuntimeException", "java/lang/Exception"]
def gDecs : List Cond := [.declares (Bundle.initS "java/lang/RuntimeException"), .declares (Bundle.initS "java/lang/Exception"), .declares (Bundle.initS Bundle.tN)]
/-- of the tables: texts, castable or not, nest mates, constructors above -/
def gTab (sa : Nat → Nat) (U : State) : Prop := (∀ q ∈ gStr, vk_R RX1 q.1 q.2 (sa q.1) U) ∧ (gCa gIO gIO U ∧ gCa gIA gIA U ∧ gCa gIS gIS U) ∧ (va_Nc gIA gIO U ∧ va_Nc gIS gIO U ∧ va_Nc gIS gIA U) ∧ (∀ w ∈ gNest, va_Nw w U) ∧ ∀ w ∈ gDecs, va_Nw w U
theorem gTab.same {sa : Nat → Nat} {u U : State} (hv : U.vm = u.vm) (h : gTab sa u) : gTab sa U := by
  have ha : u.vm.Alike U.vm := by rw [hv]; exact Vm.Alike.refl u.vm
  obtain ⟨h1, ⟨a1, a2, a3⟩, ⟨b1, b2, b3⟩, h4, h5⟩ := h
  refine ⟨fun q hq => vk_R.same hv (h1 q hq), ⟨a1.moved ha, a2.moved ha, a3.moved ha⟩, ⟨b1.moved ha, b2.moved ha, b3.moved ha⟩, fun w hw => ?_, fun w hw => ?_⟩
  · have hz := h4 w hw
    simp only [gNest, List.mem_cons, List.not_mem_nil, or_false] at hw
    rcases hw with rfl | rfl | rfl <;> exact va_Nw.same rfl hv.symm hz
  · have hz := h5 w hw
    simp only [gDecs, List.mem_cons, List.not_mem_nil, or_false] at hw
    rcases hw with rfl | rfl | rfl <;> exact va_Nw.same rfl hv.symm hz
theorem gTab.warm {sa : Nat → Nat} {s U : State} (hW : s.WarmedH U.vm) (h : gTab sa s) : gTab sa U := by
  have ha : s.vm.Alike U.vm := hW.alike
  obtain ⟨h1, ⟨a1, a2, a3⟩, ⟨b1, b2, b3⟩, h4, h5⟩ := h
  refine ⟨fun q hq => vk_R.warm hW (h1 q hq), ⟨a1.moved ha, a2.moved ha, a3.moved ha⟩, ⟨b1.moved ha, b2.moved ha, b3.moved ha⟩, fun w hw => ?_, fun w hw => ?_⟩
  · have hz := h4 w hw
    simp only [gNest, List.mem_cons, List.not_mem_nil, or_false] at hw
    rcases hw with rfl | rfl | rfl <;> exact va_Nw.warmM hW hz
  · have hz := h5 w hw
    simp only [gDecs, List.mem_cons, List.not_mem_nil, or_false] at hw
    rcases hw with rfl | rfl | rfl <;> exact va_Nw.warmD hW hz
/-- of statics: those that a throw carries, and ORDERS -/
def gSta (oA : Nat) (A : Nat → Prop) (U : State) (H : Heap) : Prop := vx_Zq Bundle.tN "UNASSIGNED_STACK" Bundle.steD A U H ∧ vx_Zq Bundle.tN "SUPPRESSED_SENTINEL" Bundle.listD A U H ∧ va_Z RX1 "ORDERS" "[I" (.ref oA) A U H ∧ va_T .int oA 7 (fun j => .int (gOrd j)) A U H
theorem gSta.moved {oA : Nat} {A : Nat → Prop} {u U : State} {H : Heap} (hvm : u.vm.Alike U.vm) (h : gSta oA A u H) : gSta oA A U H := ⟨h.1.moved hvm, h.2.1.moved hvm, h.2.2.1.moved hvm, h.2.2.2.moved hvm⟩
theorem gSta.kept {oA : Nat} {A : Nat → Prop} {U : State} {H H1 : Heap} (h : gSta oA A U H) (hq : ∀ a : Nat, a < H.size → ¬ A a → H1[a]? = H[a]?) : gSta oA A U H1 := ⟨h.1.kept hq, h.2.1.kept hq, h.2.2.1.kept hq, h.2.2.2.kept hq⟩
theorem gSta.narrow {oA : Nat} {A B : Nat → Prop} {U : State} {H : Heap} (h : gSta oA A U H) (hAB : ∀ q, B q → A q) : gSta oA B U H := ⟨h.1.narrow hAB, h.2.1.narrow hAB, h.2.2.1.narrow hAB, h.2.2.2.narrow hAB⟩
def gEnv (g : gG) (A : Nat → Prop) (U : State) (H : Heap) : Prop := gTab g.2.2.1 U ∧ gSta g.2.2.2 A U H
/-- a contract's start: the cells ws lie apart in the heap, the classes are known, the environment stands -/
def gPre (g : gG) (ws : va_W) (sz : Nat) (U : State) : Prop := U.heap.size = sz ∧ va_P g.1 vwCl ws U.heap ∧ va_K g.1 vwCl (gTys g.2.1) U ∧ va_D (fun _ => True) ws ∧ gEnv g (va_A ws sz) U U.heap
/-- .. and its end -/
def gPost (g : gG) (A : Nat → Prop) (ws : va_W) (t : State) : Prop := va_P g.1 vwCl ws t.heap ∧ va_D A ws
theorem gPre.blind {g : gG} {av : List Value} {ws : va_W} {sz : Nat} : FrameBlind (va_Pc av (gPre g ws sz)) := by
  intro a U f mk q
  obtain ⟨q0, q1, qP, qK, qD, qT, qS⟩ := q
  exact ⟨q0, q1, qP, va_K.moved (u := U) (U := U.calling f mk a) (Vm.Alike.refl U.vm) qK, qD, qT.same (u := U) (U := U.calling f mk a) rfl, qS.moved (u := U) (U := U.calling f mk a) (Vm.Alike.refl U.vm)⟩
/-- contracts: void, int (and boolean), long, double; then those that may throw -/
abbrev gMv (l : Launch) (y : MethodName) (wy : List Cond) (rm : Room) (g : gG) (av : List Value) (ws : va_W) (sz : Nat) {S : Type} (post : S → Prop) (ws' : S → va_W) (mc ms : Nat) : Prop :=
  Met l y wy rm (va_Pc av (gPre g ws sz)) (va_Qv post (fun u t => gPost g (va_A ws sz) (ws' u) t) (va_A ws sz)) mc ms (va_A ws sz)
abbrev gMi (l : Launch) (y : MethodName) (wy : List Cond) (rm : Room) (g : gG) (av : List Value) (ws : va_W) (sz : Nat) {S : Type} (post : Int32 → S → Prop) (ws' : S → va_W) (mc ms : Nat) : Prop :=
  Met l y wy rm (va_Pc av (gPre g ws sz)) (va_Qi post (fun u t => gPost g (va_A ws sz) (ws' u) t) (va_A ws sz)) mc ms (va_A ws sz)
abbrev gMl (l : Launch) (y : MethodName) (wy : List Cond) (rm : Room) (g : gG) (av : List Value) (ws : va_W) (sz : Nat) {S : Type} (post : Int64 → S → Prop) (ws' : S → va_W) (mc ms : Nat) : Prop :=
  Met l y wy rm (va_Pc av (gPre g ws sz)) (va_Ql post (fun u t => gPost g (va_A ws sz) (ws' u) t) (va_A ws sz)) mc ms (va_A ws sz)
abbrev gMd (l : Launch) (y : MethodName) (wy : List Cond) (rm : Room) (g : gG) (av : List Value) (ws : va_W) (sz : Nat) {S : Type} (post : UInt64 → S → Prop) (ws' : S → va_W) (mc ms : Nat) : Prop :=
  Met l y wy rm (va_Pc av (gPre g ws sz)) (va_Qd post (fun u t => gPost g (va_A ws sz) (ws' u) t) (va_A ws sz)) mc ms (va_A ws sz)
/-- what is said where one throws: of the class of what is thrown -/
abbrev gThr (px : String → Prop) (A : Nat → Prop) : String → State → State → Prop := vx_X (fun _ : Unit => True) (fun E _ _ => px E) A
abbrev gXv (l : Launch) (y : MethodName) (wy : List Cond) (rm : Room) (g : gG) (av : List Value) (ws : va_W) (sz : Nat) {S : Type} (post : S → Prop) (ws' : S → va_W) (px : String → Prop) (mc ms : Nat) : Prop :=
  vx_Met l y wy rm (va_Pc av (gPre g ws sz)) (va_Qv post (fun u t => gPost g (va_A ws sz) (ws' u) t) (va_A ws sz)) (gThr px (va_A ws sz)) mc ms (va_A ws sz)
abbrev gXi (l : Launch) (y : MethodName) (wy : List Cond) (rm : Room) (g : gG) (av : List Value) (ws : va_W) (sz : Nat) {S : Type} (post : Int32 → S → Prop) (ws' : S → va_W) (px : String → Prop) (mc ms : Nat) : Prop :=
  vx_Met l y wy rm (va_Pc av (gPre g ws sz)) (va_Qi post (fun u t => gPost g (va_A ws sz) (ws' u) t) (va_A ws sz)) (gThr px (va_A ws sz)) mc ms (va_A ws sz)
abbrev gXd (l : Launch) (y : MethodName) (wy : List Cond) (rm : Room) (g : gG) (av : List Value) (ws : va_W) (sz : Nat) {S : Type} (post : UInt64 → S → Prop) (ws' : S → va_W) (px : String → Prop) (mc ms : Nat) : Prop :=
  vx_Met l y wy rm (va_Pc av (gPre g ws sz)) (va_Qd post (fun u t => gPost g (va_A ws sz) (ws' u) t) (va_A ws sz)) (gThr px (va_A ws sz)) mc ms (va_A ws sz)
/-- a body's start -/
theorem g_of {l : Launch} {y : MethodName} {wy ws0 : List Cond} {rm : Room} {cc : ByteArray} {maxL : Nat} {ret : Option FieldType} {g : gG} {av : List Value} {ws : va_W} {sz mc ms : Nat} {Qc : (Nat → Prop) → Array Value → State → Outcome → State → Prop}
    (hy : plainName y.cls = true) (hw : wy = Cond.code y cc maxL ret :: ws0) (hlen : (lg_sl av).length ≤ maxL)
    (body : ∀ (p : Program) (e : Env) (s : State) (m : MethodId) (below : List Frame) (meth : Method) (c : Code) (A : Nat → Prop) (ls : Array Slot), p.tables.exec = Jvm.exec → c.code = cc → meth.sig.returnType = ret → c.maxLocals = maxL → s.vm.findClass y.cls = some m.cls → (∀ w ∈ wy, w.before av.toArray s = true) → meth.locks = false → meth.name = y.name →
      (∀ q, s.heap.size ≤ q → A q) → va_K g.1 vwCl (gTys g.2.1) s → gEnv g A s s.heap → va_P g.1 vwCl ws s.heap → va_D A ws → va_S A s.heap s.heap [] → lv_has ls maxL (lv_args 0 av) →
      W p l e rm s m av.toArray below meth c s.heap [] 0 0 (MQ below (Qc A) av.toArray s mc ms A) (F0 m 0 ls [])) :
    Met l y wy rm (va_Pc av (gPre g ws sz)) (Qc (va_A ws sz)) mc ms (va_A ws sz) := by
  refine Met.ofW (cc := cc) (maxL := maxL) (ret := ret) hy hw ?_
  intro p e s m args below meth c s₁ B hml hv
  obtain ⟨rfl, hsz, hP, hK, hD0, hE⟩ := hv
  subst hsz
  rw [lg_entry_eq]
  exact body p e s m below meth c (va_A ws s.heap.size) _ B.exec B.bytes B.returns hml (findClass_of_methodNamed B.named) (atoms_spec (ws := wy) B.pre) B.notSynchronized (name_of_methodNamed B.named B.method).1 (fun q h => Or.inr h) hK hE hP (hD0.self (sz := s.heap.size)) va_S.rf (lv_entry av (n := maxL) hlen)
theorem gx_of {l : Launch} {y : MethodName} {wy ws0 : List Cond} {rm : Room} {cc : ByteArray} {maxL : Nat} {ret : Option FieldType} {g : gG} {av : List Value} {ws : va_W} {sz mc ms : Nat} {Qc : (Nat → Prop) → Array Value → State → Outcome → State → Prop} {XC : (Nat → Prop) → String → State → State → Prop}
    (hy : plainName y.cls = true) (hw : wy = Cond.code y cc maxL ret :: ws0) (hlen : (lg_sl av).length ≤ maxL)
    (body : ∀ (p : Program) (e : Env) (s : State) (m : MethodId) (below : List Frame) (meth : Method) (c : Code) (A : Nat → Prop) (ls : Array Slot), p.tables.exec = Jvm.exec → c.code = cc → meth.sig.returnType = ret → c.maxLocals = maxL → s.vm.findClass y.cls = some m.cls → (∀ w ∈ wy, w.before av.toArray s = true) → meth.locks = false → (∀ x ∈ c.exceptionTable.toList, False) →
      (∀ q, s.heap.size ≤ q → A q) → va_K g.1 vwCl (gTys g.2.1) s → gEnv g A s s.heap → va_P g.1 vwCl ws s.heap → va_D A ws → va_S A s.heap s.heap [] → lv_has ls maxL (lv_args 0 av) →
      W p l e rm s m av.toArray below meth c s.heap [] 0 0 (vx_MQ below (Qc A) (XC A) av.toArray s mc ms A) (F0 m 0 ls [])) :
    vx_Met l y wy rm (va_Pc av (gPre g ws sz)) (Qc (va_A ws sz)) (XC (va_A ws sz)) mc ms (va_A ws sz) := by
  refine vx_ofW (cc := cc) (maxL := maxL) (ret := ret) hy hw ?_
  intro p e s m args below meth c s₁ B hml htab hv
  obtain ⟨rfl, hsz, hP, hK, hD0, hE⟩ := hv
  subst hsz
  rw [lg_entry_eq]
  exact body p e s m below meth c (va_A ws s.heap.size) _ B.exec B.bytes B.returns hml (findClass_of_methodNamed B.named) (atoms_spec (ws := wy) B.pre) B.notSynchronized htab (fun q h => Or.inr h) hK hE hP (hD0.self (sz := s.heap.size)) va_S.rf (lv_entry av (n := maxL) hlen)
/-- .. of a method with handlers that lets nothing out -/
theorem gh_of {l : Launch} {y : MethodName} {wy ws0 : List Cond} {rm : Room} {cc : ByteArray} {maxL : Nat} {ret : Option FieldType} {hh : List (Nat × Nat × Nat × Nat)} {g : gG} {av : List Value} {ws : va_W} {sz mc ms : Nat} {Qc : (Nat → Prop) → Array Value → State → Outcome → State → Prop}
    (hy : plainName y.cls = true) (hw : wy = Cond.codeWith y cc maxL ret hh :: ws0) (hlen : (lg_sl av).length ≤ maxL)
    (body : ∀ (p : Program) (e : Env) (s : State) (m : MethodId) (below : List Frame) (meth : Method) (c : Code) (A : Nat → Prop) (ls : Array Slot), p.tables.exec = Jvm.exec → c.code = cc → meth.sig.returnType = ret → c.maxLocals = maxL → s.vm.findClass y.cls = some m.cls → (∀ w ∈ wy, w.before av.toArray s = true) → meth.locks = false → c.exceptionTable.toList = tableOf hh →
      (∀ q, s.heap.size ≤ q → A q) → va_K g.1 vwCl (gTys g.2.1) s → gEnv g A s s.heap → va_P g.1 vwCl ws s.heap → va_D A ws → va_S A s.heap s.heap [] → lv_has ls maxL (lv_args 0 av) →
      W p l e rm s m av.toArray below meth c s.heap [] 0 0 (MQ below (Qc A) av.toArray s mc ms A) (F0 m 0 ls [])) :
    Met l y wy rm (va_Pc av (gPre g ws sz)) (Qc (va_A ws sz)) mc ms (va_A ws sz) := by
  refine va_MetW (cc := cc) (maxL := maxL) (ret := ret) (hh := hh) hy hw ?_
  intro p e s m args below meth c s₁ B hml hv
  obtain ⟨rfl, hsz, hP, hK, hD0, hE⟩ := hv
  subst hsz
  rw [lg_entry_eq]
  have hts := atoms_spec (ws := wy) B.pre
  exact body p e s m below meth c (va_A ws s.heap.size) _ B.exec B.bytes B.returns hml (findClass_of_methodNamed B.named) hts B.notSynchronized (vx_table (x := y) B (hts _ (by rw [hw]; exact List.mem_cons_self))) (fun q h => Or.inr h) hK hE hP (hD0.self (sz := s.heap.size)) va_S.rf (lv_entry av (n := maxL) hlen)
end GBase
