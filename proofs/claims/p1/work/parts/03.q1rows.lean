section GRows
variable {p : Program} {l : Launch} {e : Env} {R : Room} {s : State} {m : MethodId} {args : Array Value} {below : List Frame} {meth : Method} {c : Code} {H : Heap} {locs : List Loc} {cells slots : Nat} {Q : State → Prop}
variable {cc : ByteArray} {pc : Nat} {ls : Array Slot} {rest st0 : List Value} {A : Nat → Prop} {g : gG} {ws : va_W}
/-- another text for what lies on top -/
theorem sy_i {x y : Int32} (h : x = y) (k : W p l e R s m args below meth c H locs cells slots Q (F0 m pc ls (.int y :: rest))) : W p l e R s m args below meth c H locs cells slots Q (F0 m pc ls (.int x :: rest)) := h ▸ k
theorem sy_l {x y : Int64} (h : x = y) (k : W p l e R s m args below meth c H locs cells slots Q (F0 m pc ls (.long y :: rest))) : W p l e R s m args below meth c H locs cells slots Q (F0 m pc ls (.long x :: rest)) := h ▸ k
theorem sy_d {x y : UInt64} (h : x = y) (k : W p l e R s m args below meth c H locs cells slots Q (F0 m pc ls (.double y :: rest))) : W p l e R s m args below meth c H locs cells slots Q (F0 m pc ls (.double x :: rest)) := h ▸ k
/-- ends -/
theorem g_ir {S : Type} {post : Int32 → S → Prop} {ws' : S → va_W} {v : Int32} {mc ms : Nat} (hx : p.tables.exec = Jvm.exec) (hb : c.code = cc) (hr : meth.sig.returnType = some .int) (hlocks : meth.locks = false) (hP : va_P g.1 vwCl ws H) (hD : va_D A ws) (hS : va_S A s.heap H locs) (u : S) (is : List Nat) (h1 : is.filterMap (fun i => ws[i]?) = ws' u) (hn : va_nd is = true) (h2 : is.map (fun i => ws[i]?) = (ws' u).map some) (hdg : decode cc pc = .ok (.ireturn, 1)) (hc : cells ≤ mc) (hs : slots ≤ ms) (hp : post v u) :
    W p l e R s m args below meth c H locs cells slots (MQ below (va_Qi post (fun u t => gPost g A (ws' u) t) A) args s mc ms A) (F0 m pc ls [.int v]) :=
  W.widen hc hs (W.iret (v := v) hx hb hr (fun t ht hW => ⟨⟨v, u, rfl, hp, by rw [ht]; exact hP.sub is h1, hD.sub is hn h2⟩, hS.F ht⟩) hS.2.2 hdg hlocks)
theorem g_zr {S : Type} {post : Int32 → S → Prop} {ws' : S → va_W} {v : Int32} {mc ms : Nat} (hx : p.tables.exec = Jvm.exec) (hb : c.code = cc) (hr : meth.sig.returnType = some .boolean) (hlocks : meth.locks = false) (hP : va_P g.1 vwCl ws H) (hD : va_D A ws) (hS : va_S A s.heap H locs) (u : S) (is : List Nat) (h1 : is.filterMap (fun i => ws[i]?) = ws' u) (hn : va_nd is = true) (h2 : is.map (fun i => ws[i]?) = (ws' u).map some) (hdg : decode cc pc = .ok (.ireturn, 1)) (hc : cells ≤ mc) (hs : slots ≤ ms) (hv : v = 0 ∨ v = 1) (hp : post v u) :
    W p l e R s m args below meth c H locs cells slots (MQ below (va_Qi post (fun u t => gPost g A (ws' u) t) A) args s mc ms A) (F0 m pc ls [.int v]) :=
  W.widen hc hs (W.zret (v := v) hx hb hr (by rcases hv with rfl | rfl <;> rfl) (fun t ht hW => ⟨⟨v, u, rfl, hp, by rw [ht]; exact hP.sub is h1, hD.sub is hn h2⟩, hS.F ht⟩) hS.2.2 hdg hlocks)
theorem g_lr {S : Type} {post : Int64 → S → Prop} {ws' : S → va_W} {v : Int64} {mc ms : Nat} (hx : p.tables.exec = Jvm.exec) (hb : c.code = cc) (hr : meth.sig.returnType = some .long) (hlocks : meth.locks = false) (hP : va_P g.1 vwCl ws H) (hD : va_D A ws) (hS : va_S A s.heap H locs) (u : S) (is : List Nat) (h1 : is.filterMap (fun i => ws[i]?) = ws' u) (hn : va_nd is = true) (h2 : is.map (fun i => ws[i]?) = (ws' u).map some) (hdg : decode cc pc = .ok (.lreturn, 1)) (hc : cells ≤ mc) (hs : slots ≤ ms) (hp : post v u) :
    W p l e R s m args below meth c H locs cells slots (MQ below (va_Ql post (fun u t => gPost g A (ws' u) t) A) args s mc ms A) (F0 m pc ls [.long v]) :=
  W.widen hc hs (W.lret (v := v) hx hb hr (fun t ht hW => ⟨⟨v, u, rfl, hp, by rw [ht]; exact hP.sub is h1, hD.sub is hn h2⟩, hS.F ht⟩) hS.2.2 hdg hlocks)
theorem g_dr {S : Type} {post : UInt64 → S → Prop} {ws' : S → va_W} {v : UInt64} {mc ms : Nat} (hx : p.tables.exec = Jvm.exec) (hb : c.code = cc) (hr : meth.sig.returnType = some .double) (hlocks : meth.locks = false) (hP : va_P g.1 vwCl ws H) (hD : va_D A ws) (hS : va_S A s.heap H locs) (u : S) (is : List Nat) (h1 : is.filterMap (fun i => ws[i]?) = ws' u) (hn : va_nd is = true) (h2 : is.map (fun i => ws[i]?) = (ws' u).map some) (hdg : decode cc pc = .ok (.dreturn, 1)) (hc : cells ≤ mc) (hs : slots ≤ ms) (hp : post v u) :
    W p l e R s m args below meth c H locs cells slots (MQ below (va_Qd post (fun u t => gPost g A (ws' u) t) A) args s mc ms A) (F0 m pc ls [.double v]) :=
  W.widen hc hs (W.dret (v := v) hx hb hr (fun t ht hW => ⟨⟨v, u, rfl, hp, by rw [ht]; exact hP.sub is h1, hD.sub is hn h2⟩, hS.F ht⟩) hS.2.2 hdg hlocks)
theorem g_vr {S : Type} {post : S → Prop} {ws' : S → va_W} {mc ms : Nat} (hx : p.tables.exec = Jvm.exec) (hb : c.code = cc) (hr : meth.sig.returnType = none) (hlocks : meth.locks = false) (hP : va_P g.1 vwCl ws H) (hD : va_D A ws) (hS : va_S A s.heap H locs) (u : S) (is : List Nat) (h1 : is.filterMap (fun i => ws[i]?) = ws' u) (hn : va_nd is = true) (h2 : is.map (fun i => ws[i]?) = (ws' u).map some) (hdg : decode cc pc = .ok (.return_, 1)) (hc : cells ≤ mc) (hs : slots ≤ ms) (hp : post u) :
    W p l e R s m args below meth c H locs cells slots (MQ below (va_Qv post (fun u t => gPost g A (ws' u) t) A) args s mc ms A) (F0 m pc ls []) :=
  W.widen hc hs (W.vret hx hb hr (fun t ht hW => ⟨⟨u, rfl, hp, by rw [ht]; exact hP.sub is h1, hD.sub is hn h2⟩, hS.F ht⟩) hS.2.2 hdg hlocks)
/-- a new array, its class known -/
theorem g_newa (hx : p.tables.exec = Jvm.exec) (hb : c.code = cc) {atype : ArrayType} (harr : (Cond.arrayClass (newarray.typeOf atype)).before args s = true) {ty : FieldType} (hty : newarray.typeOf atype = ty) (hK : va_K g.1 vwCl (gTys g.2.1) s) (t0 : Nat) {cA : ClassId} (ht : (gTys g.2.1)[t0]? = some (cA, ty)) (hra : ∀ z : ClassId, va_RA s z ty → s.vm.findClass ("[" ++ ty.toString) = some z) (hP : va_P g.1 vwCl ws H) (hD : va_D A ws) (hS : va_S A s.heap H locs) (hA : ∀ q, s.heap.size ≤ q → A q)
    {n : Int32} {N' : Nat} {a0 : vp_A} (ha : ∀ cA : ClassId, vp_cell cA a0 = arrV cA N' (fun _ => defaultValue ty)) (hn : ¬ n < 0) (hN : n.toNatClampNeg = N') (hbytes : N' * componentBytes ty ≤ 536870912) (hcells : cells + 1 ≤ R.cells) (hslots : slots + N' ≤ R.slots) (hdg : decode cc pc = .ok (.newarray atype, 2))
    (kk : ∀ (q : Nat) (H1 : Heap), va_P g.1 vwCl (ws ++ [(q, .inl (cA, a0))]) H1 → va_D A (ws ++ [(q, .inl (cA, a0))]) → va_S A s.heap H1 locs →
      W p l e R s m args below meth c H1 locs (cells + 1) (slots + N') Q (F0 m (pc + 2) ls (.ref q :: rest))) : W p l e R s m args below meth c H locs cells slots Q (F0 m pc ls (.int n :: rest)) := by
  refine va_newa hx hb harr hty hK hP hD hS hA ha hn hN hbytes hcells hslots hdg (fun q cB H1 hK1 hP1 hD1 hS1 => ?_)
  have e1 := hra _ (hK1.2 4 (cB, ty) rfl).2
  have e2 := hra _ (hK.2 t0 _ ht).2
  have e3 : cB = cA := Option.some.inj (e1.symm.trans e2)
  subst e3
  exact kk q H1 hP1 hD1 hS1
/-- the environment where a callee starts -/
theorem gEnv.to {wc : va_W} {U : State} (hE : gEnv g A s s.heap) (hS : va_S A s.heap H locs) (hFc : ∀ q, va_A wc H.size q → A q) (hU : U.heap = H) (hW : s.WarmedH U.vm) : gEnv g (va_A wc H.size) U U.heap := by
  rw [hU]
  exact ⟨hE.1.warm hW, ((hE.2.kept hS.2.1).narrow hFc).moved hW.alike⟩
section Runs
variable {y : MethodName} {wy ws0 : List Cond} {rm : Room} {As : List Value} {b : Nat} {wc : va_W} {mc ms n index maxL nL ci N q0 : Nat} {bytes : ByteArray} {ret : Option FieldType} {Ts : List Cond} {own C host : String} {T : u_T} {fs : List Value} {Qc : Array Value → State → Outcome → State → Prop} {XC : String → State → State → Prop} {free : Addr → Prop} {hh : List (Nat × Nat × Nat × Nat)}
theorem gp_S (hK : va_K g.1 vwCl (gTys g.2.1) s) (hE : gEnv g A s s.heap) (hA : ∀ q, s.heap.size ≤ q → A q) (hP : va_P g.1 vwCl ws H) (hD : va_D A ws) (hS : va_S A s.heap H locs) (isC : List Nat) (h1 : isC.filterMap (fun i => ws[i]?) = wc) (hnC : va_nd isC = true) (hC : isC.map (fun i => ws[i]?) = wc.map some) : PreS s H (va_Pc As (gPre g wc H.size)) As := by
  have hFc := va_free (wc := wc) hD hS hA isC hC
  have hDc : va_D A wc := hD.sub isC hnC hC
  exact ⟨gPre.blind, fun U hU hW => ⟨rfl, by rw [hU], by rw [hU]; exact hP.sub isC h1, va_K.moved hW.alike hK, hDc.weaken (fun _ _ _ _ => trivial), hE.to hS hFc hU hW⟩⟩
theorem gp_V (hK : va_K g.1 vwCl (gTys g.2.1) s) (hE : gEnv g A s s.heap) (hA : ∀ q, s.heap.size ≤ q → A q) (hP : va_P g.1 vwCl ws H) (hD : va_D A ws) (hS : va_S A s.heap H locs) (isC : List Nat) (h1 : isC.filterMap (fun i => ws[i]?) = wc) (hnC : va_nd isC = true) (hC : isC.map (fun i => ws[i]?) = wc.map some) (he : wc[q0]? = some (b, .inr (ci, fs))) (hcl : vwCl[ci]? = some (C, T, N)) : PreV s H C b (va_Pc (.ref b :: As) (gPre g wc H.size)) As := by
  have hPc : va_P g.1 vwCl wc H := hP.sub isC h1
  exact ⟨gPre.blind, va_recv hK hPc hcl he, (gp_S hK hE hA hP hD hS isC h1 hnC hC).2⟩
theorem gr_V (F : CallFix p m c cc nL s args Ts own) (hM : Met l y wy rm (va_Pc (.ref b :: As) (gPre g wc H.size)) Qc mc ms free) (hG : GoodIn Ts (wsV own index C y wy)) (hw : wy = Cond.code y bytes maxL ret :: ws0) (hrc : rm.cells = mc) (hrs : rm.slots = ms)
    (hd : y.cls = C ∧ y.cls ≠ "java/lang/invoke/MethodHandle" ∧ y.cls ≠ "java/lang/invoke/VarHandle" ∧ (parseMethodDescriptor y.desc).map (fun d => d.parameters.length) = some n) (hR : rm.frames + 1 ≤ R.frames ∧ 8 + (maxL + 11) + rm.locals ≤ R.locals) (hp : PreV s H C b (va_Pc (.ref b :: As) (gPre g wc H.size)) As)
    (hn : As.length = n) (hl : ls.size = nL) (hst : st0 = As.reverse ++ .ref b :: rest) (hrm : (rest.map fun v => v.category).sum ≤ 8) (hdg : decode cc pc = .ok (.invokevirtual index, 3)) (hf : cells + mc ≤ R.cells ∧ slots + ms ≤ R.slots) :
    va_Run p l e R s m args below meth c H locs cells slots mc ms (F0 m pc ls st0) rest (Qc (Value.ref b :: As).toArray) free :=
  va_runV F hM (cwV n F.2.2.2.2 hG hw hrc hrs hd hR) hp rfl hn hl hst (lv_room hrm) hdg hf
theorem gr_S (F : CallFix p m c cc nL s args Ts own) (hM : Met l y wy rm (va_Pc As (gPre g wc H.size)) Qc mc ms free) (hG : GoodIn Ts (va_wsS own index y wy)) (hw : wy = Cond.code y bytes maxL ret :: ws0) (hrc : rm.cells = mc) (hrs : rm.slots = ms)
    (hd : y.cls ≠ "java/lang/invoke/MethodHandle" ∧ y.cls ≠ "java/lang/invoke/VarHandle" ∧ (parseMethodDescriptor y.desc).map (fun d => d.parameters.length) = some n) (hR : rm.frames + 1 ≤ R.frames ∧ 8 + (maxL + 11) + rm.locals ≤ R.locals) (hp : PreS s H (va_Pc As (gPre g wc H.size)) As)
    (hn : As.length = n) (hl : ls.size = nL) (hst : st0 = As.reverse ++ rest) (hrm : (rest.map fun v => v.category).sum ≤ 8) (hdg : decode cc pc = .ok (.invokestatic index, 3)) (hf : cells + mc ≤ R.cells ∧ slots + ms ≤ R.slots) :
    va_Run p l e R s m args below meth c H locs cells slots mc ms (F0 m pc ls st0) rest (Qc As.toArray) free :=
  va_runS F hM (va_cwS n F.2.2.2.2 hG hw hrc hrs hd hR) hp rfl hn hl hst (lv_room hrm) hdg hf
/-- a static call of a method with handlers -/
theorem gr_H (F : CallFix p m c cc nL s args Ts own) (hM : Met l y wy rm (va_Pc As (gPre g wc H.size)) Qc mc ms free) (hG : GoodIn Ts (va_wsS own index y wy)) (hw : wy = Cond.codeWith y bytes maxL ret hh :: ws0) (hrc : rm.cells = mc) (hrs : rm.slots = ms)
    (hd : y.cls ≠ "java/lang/invoke/MethodHandle" ∧ y.cls ≠ "java/lang/invoke/VarHandle" ∧ (parseMethodDescriptor y.desc).map (fun d => d.parameters.length) = some n) (hR : rm.frames + 1 ≤ R.frames ∧ 8 + (maxL + 11) + rm.locals ≤ R.locals) (hp : PreS s H (va_Pc As (gPre g wc H.size)) As)
    (hn : As.length = n) (hl : ls.size = nL) (hst : st0 = As.reverse ++ rest) (hrm : (rest.map fun v => v.category).sum ≤ 8) (hdg : decode cc pc = .ok (.invokestatic index, 3)) (hf : cells + mc ≤ R.cells ∧ slots + ms ≤ R.slots) :
    va_Run p l e R s m args below meth c H locs cells slots mc ms (F0 m pc ls st0) rest (Qc As.toArray) free :=
  vx_runSW F hM (vx_cwSW n F.2.2.2.2 hG hw hrc hrs hd hR) hp rfl hn hl hst (lv_room hrm) hdg hf
/-- a private method of a nest mate -/
theorem gr_N (F : CallFix p m c cc nL s args Ts own) (hM : Met l y wy rm (va_Pc (.ref b :: As) (gPre g wc H.size)) Qc mc ms free) (hG : GoodIn Ts wy) (hw : wy = Cond.code y bytes maxL ret :: ws0) (hrc : rm.cells = mc) (hrs : rm.slots = ms) (hnw : va_Nw (.methodLinkNest own index y host) s) (hini : (Cond.initialized y.cls).before args s = true) (hin : (Cond.instanceMethod y).before args s = true) (hse : (Cond.selects C y y).before args s = true)
    (hd : y.cls ≠ "java/lang/invoke/MethodHandle" ∧ y.cls ≠ "java/lang/invoke/VarHandle" ∧ (parseMethodDescriptor y.desc).map (fun d => d.parameters.length) = some n) (hR : rm.frames + 1 ≤ R.frames ∧ 8 + (maxL + 11) + rm.locals ≤ R.locals) (hp : PreV s H C b (va_Pc (.ref b :: As) (gPre g wc H.size)) As)
    (hn : As.length = n) (hl : ls.size = nL) (hst : st0 = As.reverse ++ .ref b :: rest) (hrm : (rest.map fun v => v.category).sum ≤ 8) (hdg : decode cc pc = .ok (.invokevirtual index, 3)) (hf : cells + mc ≤ R.cells ∧ slots + ms ≤ R.slots) :
    va_Run p l e R s m args below meth c H locs cells slots mc ms (F0 m pc ls st0) rest (Qc (Value.ref b :: As).toArray) free :=
  va_runVN F hM ⟨va_cnB n F.2.2.2.2 hG hw hrc hrs hnw hini hd hR, hin, hse⟩ hp rfl hn hl hst (lv_room hrm) hdg hf
theorem gr_I (F : CallFix p m c cc nL s args Ts own) (hM : Met l y wy rm (va_Pc (.ref b :: As) (gPre g wc H.size)) Qc mc ms free) (hG : GoodIn Ts wy) (hw : wy = Cond.code y bytes maxL none :: ws0) (hrc : rm.cells = mc) (hrs : rm.slots = ms) (hini : (Cond.initialized y.cls).before args s = true) (hlk : (Cond.methodLink own index y).before args s = true) (hin : (Cond.instanceMethod y).before args s = true) (hy1 : y.name = "<init>")
    (hd : y.cls ≠ "java/lang/invoke/MethodHandle" ∧ y.cls ≠ "java/lang/invoke/VarHandle" ∧ (parseMethodDescriptor y.desc).map (fun d => d.parameters.length) = some n) (hR : rm.frames + 1 ≤ R.frames ∧ 8 + (maxL + 11) + rm.locals ≤ R.locals) (hp : PreS s H (va_Pc (.ref b :: As) (gPre g wc H.size)) (.ref b :: As))
    (hn : As.length = n) (hl : ls.size = nL) (hst : st0 = As.reverse ++ .ref b :: rest) (hrm : (rest.map fun v => v.category).sum ≤ 8) (hdg : decode cc pc = .ok (.invokespecial index, 3)) (hf : cells + mc ≤ R.cells ∧ slots + ms ≤ R.slots) :
    va_Run p l e R s m args below meth c H locs cells slots mc ms (F0 m pc ls st0) rest (Qc (Value.ref b :: As).toArray) free :=
  va_runI F hM (cwI n F.2.2.2.2 hG hw hrc hrs hini hlk hin hy1 hd hR) hp rfl hn hl hst (lv_room hrm) hdg hf
theorem gr_IN (F : CallFix p m c cc nL s args Ts own) (hM : Met l y wy rm (va_Pc (.ref b :: As) (gPre g wc H.size)) Qc mc ms free) (hG : GoodIn Ts wy) (hw : wy = Cond.code y bytes maxL none :: ws0) (hrc : rm.cells = mc) (hrs : rm.slots = ms) (hnw : va_Nw (.methodLinkNest own index y host) s) (hini : (Cond.initialized y.cls).before args s = true) (hin : (Cond.instanceMethod y).before args s = true) (hy1 : y.name = "<init>")
    (hd : y.cls ≠ "java/lang/invoke/MethodHandle" ∧ y.cls ≠ "java/lang/invoke/VarHandle" ∧ (parseMethodDescriptor y.desc).map (fun d => d.parameters.length) = some n) (hR : rm.frames + 1 ≤ R.frames ∧ 8 + (maxL + 11) + rm.locals ≤ R.locals) (hp : PreS s H (va_Pc (.ref b :: As) (gPre g wc H.size)) (.ref b :: As))
    (hn : As.length = n) (hl : ls.size = nL) (hst : st0 = As.reverse ++ .ref b :: rest) (hrm : (rest.map fun v => v.category).sum ≤ 8) (hdg : decode cc pc = .ok (.invokespecial index, 3)) (hf : cells + mc ≤ R.cells ∧ slots + ms ≤ R.slots) :
    va_Run p l e R s m args below meth c H locs cells slots mc ms (F0 m pc ls st0) rest (Qc (Value.ref b :: As).toArray) free :=
  va_runIN F hM ⟨va_cnB n F.2.2.2.2 hG hw hrc hrs hnw hini hd hR, hy1, hin⟩ hp rfl hn hl hst (lv_room hrm) hdg hf
/-- calls of what may throw -/
theorem gxr_V (F : CallFix p m c cc nL s args Ts own) (hM : vx_Met l y wy rm (va_Pc (.ref b :: As) (gPre g wc H.size)) Qc XC mc ms free) (hG : GoodIn Ts (wsV own index C y wy)) (hw : wy = Cond.code y bytes maxL ret :: ws0) (hrc : rm.cells = mc) (hrs : rm.slots = ms)
    (hd : y.cls = C ∧ y.cls ≠ "java/lang/invoke/MethodHandle" ∧ y.cls ≠ "java/lang/invoke/VarHandle" ∧ (parseMethodDescriptor y.desc).map (fun d => d.parameters.length) = some n) (hR : rm.frames + 1 ≤ R.frames ∧ 8 + (maxL + 11) + rm.locals ≤ R.locals) (hp : PreV s H C b (va_Pc (.ref b :: As) (gPre g wc H.size)) As)
    (hn : As.length = n) (hl : ls.size = nL) (hst : st0 = As.reverse ++ .ref b :: rest) (hrm : (rest.map fun v => v.category).sum ≤ 8) (hdg : decode cc pc = .ok (.invokevirtual index, 3)) (hf : cells + mc ≤ R.cells ∧ slots + ms ≤ R.slots) :
    vx_Run p l e R s m args below meth c H locs cells slots mc ms (F0 m pc ls st0) rest (Qc (Value.ref b :: As).toArray) XC free :=
  vx_runV F hM (cwV n F.2.2.2.2 hG hw hrc hrs hd hR) hp rfl hn hl hst (lv_room hrm) hdg hf
theorem gxr_S (F : CallFix p m c cc nL s args Ts own) (hM : vx_Met l y wy rm (va_Pc As (gPre g wc H.size)) Qc XC mc ms free) (hG : GoodIn Ts (va_wsS own index y wy)) (hw : wy = Cond.code y bytes maxL ret :: ws0) (hrc : rm.cells = mc) (hrs : rm.slots = ms)
    (hd : y.cls ≠ "java/lang/invoke/MethodHandle" ∧ y.cls ≠ "java/lang/invoke/VarHandle" ∧ (parseMethodDescriptor y.desc).map (fun d => d.parameters.length) = some n) (hR : rm.frames + 1 ≤ R.frames ∧ 8 + (maxL + 11) + rm.locals ≤ R.locals) (hp : PreS s H (va_Pc As (gPre g wc H.size)) As)
    (hn : As.length = n) (hl : ls.size = nL) (hst : st0 = As.reverse ++ rest) (hrm : (rest.map fun v => v.category).sum ≤ 8) (hdg : decode cc pc = .ok (.invokestatic index, 3)) (hf : cells + mc ≤ R.cells ∧ slots + ms ≤ R.slots) :
    vx_Run p l e R s m args below meth c H locs cells slots mc ms (F0 m pc ls st0) rest (Qc As.toArray) XC free :=
  vx_runS F hM (va_cwS n F.2.2.2.2 hG hw hrc hrs hd hR) hp rfl hn hl hst (lv_room hrm) hdg hf
end Runs
section Joins
variable {wc wr : va_W} {mc ms : Nat} {a : Array Value} {S : Type} {ws' : S → va_W} {px : String → Prop}
theorem gj_i {post : Int32 → S → Prop} (hr : va_Run p l e R s m args below meth c H locs cells slots mc ms (F0 m pc ls st0) rest (va_Qi post (fun u t => gPost g (va_A wc H.size) (ws' u) t) (va_A wc H.size) a) (va_A wc H.size)) (hP : va_P g.1 vwCl ws H) (hD : va_D A ws) (hS : va_S A s.heap H locs) (hA : ∀ q, s.heap.size ≤ q → A q)
    (isC isR : List Nat) (hC : isC.map (fun i => ws[i]?) = wc.map some) (hRr : isR.map (fun i => ws[i]?) = wr.map some) (hn : va_nd isR = true) (hdis : ∀ i ∈ isR, i ∉ isC)
    (kk : ∀ (r : Int32) (u : S) (H1 : Heap) (locs1 : List Loc), post r u → va_P g.1 vwCl (wr ++ ws' u) H1 → va_D A (wr ++ ws' u) → va_S A s.heap H1 locs1 → W p l e R s m args below meth c H1 locs1 (cells + mc) (slots + ms) Q (F0 m (pc + 3) ls (.int r :: rest))) : W p l e R s m args below meth c H locs cells slots Q (F0 m pc ls st0) := by
  have hFc := va_free (wc := wc) hD hS hA isC hC
  refine va_calli hr hS (fun q _ h => hFc q h) hFc (fun r u t H1 locs1 ht hvm hw hB hz1 hk1 hS1 => ?_)
  obtain ⟨hP1, hD1⟩ := hB
  rw [ht] at hP1
  obtain ⟨hP2, hD2⟩ := va_join hP hD isC isR hC hRr hn hdis hk1 hFc hP1 hD1
  exact kk r u H1 locs1 hw hP2 hD2 hS1
theorem gj_l {post : Int64 → S → Prop} (hr : va_Run p l e R s m args below meth c H locs cells slots mc ms (F0 m pc ls st0) rest (va_Ql post (fun u t => gPost g (va_A wc H.size) (ws' u) t) (va_A wc H.size) a) (va_A wc H.size)) (hP : va_P g.1 vwCl ws H) (hD : va_D A ws) (hS : va_S A s.heap H locs) (hA : ∀ q, s.heap.size ≤ q → A q)
    (isC isR : List Nat) (hC : isC.map (fun i => ws[i]?) = wc.map some) (hRr : isR.map (fun i => ws[i]?) = wr.map some) (hn : va_nd isR = true) (hdis : ∀ i ∈ isR, i ∉ isC)
    (kk : ∀ (r : Int64) (u : S) (H1 : Heap) (locs1 : List Loc), post r u → va_P g.1 vwCl (wr ++ ws' u) H1 → va_D A (wr ++ ws' u) → va_S A s.heap H1 locs1 → W p l e R s m args below meth c H1 locs1 (cells + mc) (slots + ms) Q (F0 m (pc + 3) ls (.long r :: rest))) : W p l e R s m args below meth c H locs cells slots Q (F0 m pc ls st0) := by
  have hFc := va_free (wc := wc) hD hS hA isC hC
  refine va_calll hr hS (fun q _ h => hFc q h) hFc (fun r u t H1 locs1 ht hvm hw hB hz1 hk1 hS1 => ?_)
  obtain ⟨hP1, hD1⟩ := hB
  rw [ht] at hP1
  obtain ⟨hP2, hD2⟩ := va_join hP hD isC isR hC hRr hn hdis hk1 hFc hP1 hD1
  exact kk r u H1 locs1 hw hP2 hD2 hS1
theorem gj_d {post : UInt64 → S → Prop} (hr : va_Run p l e R s m args below meth c H locs cells slots mc ms (F0 m pc ls st0) rest (va_Qd post (fun u t => gPost g (va_A wc H.size) (ws' u) t) (va_A wc H.size) a) (va_A wc H.size)) (hP : va_P g.1 vwCl ws H) (hD : va_D A ws) (hS : va_S A s.heap H locs) (hA : ∀ q, s.heap.size ≤ q → A q)
    (isC isR : List Nat) (hC : isC.map (fun i => ws[i]?) = wc.map some) (hRr : isR.map (fun i => ws[i]?) = wr.map some) (hn : va_nd isR = true) (hdis : ∀ i ∈ isR, i ∉ isC)
    (kk : ∀ (r : UInt64) (u : S) (H1 : Heap) (locs1 : List Loc), post r u → va_P g.1 vwCl (wr ++ ws' u) H1 → va_D A (wr ++ ws' u) → va_S A s.heap H1 locs1 → W p l e R s m args below meth c H1 locs1 (cells + mc) (slots + ms) Q (F0 m (pc + 3) ls (.double r :: rest))) : W p l e R s m args below meth c H locs cells slots Q (F0 m pc ls st0) := by
  have hFc := va_free (wc := wc) hD hS hA isC hC
  refine va_calld hr hS (fun q _ h => hFc q h) hFc (fun r u t H1 locs1 ht hvm hw hB hz1 hk1 hS1 => ?_)
  obtain ⟨hP1, hD1⟩ := hB
  rw [ht] at hP1
  obtain ⟨hP2, hD2⟩ := va_join hP hD isC isR hC hRr hn hdis hk1 hFc hP1 hD1
  exact kk r u H1 locs1 hw hP2 hD2 hS1
theorem gj_v {post : S → Prop} (hr : va_Run p l e R s m args below meth c H locs cells slots mc ms (F0 m pc ls st0) rest (va_Qv post (fun u t => gPost g (va_A wc H.size) (ws' u) t) (va_A wc H.size) a) (va_A wc H.size)) (hP : va_P g.1 vwCl ws H) (hD : va_D A ws) (hS : va_S A s.heap H locs) (hA : ∀ q, s.heap.size ≤ q → A q)
    (isC isR : List Nat) (hC : isC.map (fun i => ws[i]?) = wc.map some) (hRr : isR.map (fun i => ws[i]?) = wr.map some) (hn : va_nd isR = true) (hdis : ∀ i ∈ isR, i ∉ isC)
    (kk : ∀ (u : S) (H1 : Heap) (locs1 : List Loc), post u → va_P g.1 vwCl (wr ++ ws' u) H1 → va_D A (wr ++ ws' u) → va_S A s.heap H1 locs1 → W p l e R s m args below meth c H1 locs1 (cells + mc) (slots + ms) Q (F0 m (pc + 3) ls rest)) : W p l e R s m args below meth c H locs cells slots Q (F0 m pc ls st0) := by
  have hFc := va_free (wc := wc) hD hS hA isC hC
  refine va_callv hr hS (fun q _ h => hFc q h) hFc (fun u t H1 locs1 ht hvm hw hB hz1 hk1 hS1 => ?_)
  obtain ⟨hP1, hD1⟩ := hB
  rw [ht] at hP1
  obtain ⟨hP2, hD2⟩ := va_join hP hD isC isR hC hRr hn hdis hk1 hFc hP1 hD1
  exact kk u H1 locs1 hw hP2 hD2 hS1
/-- .. of what may throw: where it throws, the rest of the world is as it was -/
theorem gxj_v {post : S → Prop} (hr : vx_Run p l e R s m args below meth c H locs cells slots mc ms (F0 m pc ls st0) rest (va_Qv post (fun u t => gPost g (va_A wc H.size) (ws' u) t) (va_A wc H.size) a) (gThr px (va_A wc H.size)) (va_A wc H.size)) (hP : va_P g.1 vwCl ws H) (hD : va_D A ws) (hS : va_S A s.heap H locs) (hA : ∀ q, s.heap.size ≤ q → A q)
    (isC isR : List Nat) (hC : isC.map (fun i => ws[i]?) = wc.map some) (hRr : isR.map (fun i => ws[i]?) = wr.map some) (hn : va_nd isR = true) (hdis : ∀ i ∈ isR, i ∉ isC)
    (kx : ∀ (E : String) (ce : Cell) (q9 : Addr) (H1 : Heap) (locs1 : List Loc), px E → va_P g.1 vwCl wr H1 → va_D A wr → va_S A s.heap H1 locs1 → H1[q9]? = some ce → ce.vm = .none → s.vm.findClass E = some ce.cls → vx_W p l e R s m args below meth c H1 locs1 (cells + mc) (slots + ms) Q (F0 m pc ls rest) q9)
    (kk : ∀ (u : S) (H1 : Heap) (locs1 : List Loc), post u → va_P g.1 vwCl (wr ++ ws' u) H1 → va_D A (wr ++ ws' u) → va_S A s.heap H1 locs1 → W p l e R s m args below meth c H1 locs1 (cells + mc) (slots + ms) Q (F0 m (pc + 3) ls rest)) : W p l e R s m args below meth c H locs cells slots Q (F0 m pc ls st0) := by
  have hFc := va_free (wc := wc) hD hS hA isC hC
  refine vx_callv hr hS (fun q _ h => hFc q h) hFc (fun q _ h => hFc q h) (fun E ce q9 u t H1 locs1 ht hvm hpu hB hz1 hk1 hS1 h7 h8 h9 => ?_) (fun u t H1 locs1 ht hvm hw hB hz1 hk1 hS1 => ?_)
  · obtain ⟨hP2, hD2⟩ := va_join (w1 := []) hP hD isC isR hC hRr hn hdis hk1 hFc (fun k q h => by simp at h) ⟨fun i j p q h => by simp at h, fun k q h => by simp at h⟩
    rw [List.append_nil] at hP2 hD2
    exact kx E ce q9 H1 locs1 hB hP2 hD2 hS1 h7 h8 h9
  · obtain ⟨hP1, hD1⟩ := hB
    rw [ht] at hP1
    obtain ⟨hP2, hD2⟩ := va_join hP hD isC isR hC hRr hn hdis hk1 hFc hP1 hD1
    exact kk u H1 locs1 hw hP2 hD2 hS1
theorem gxj_i {post : Int32 → S → Prop} (hr : vx_Run p l e R s m args below meth c H locs cells slots mc ms (F0 m pc ls st0) rest (va_Qi post (fun u t => gPost g (va_A wc H.size) (ws' u) t) (va_A wc H.size) a) (gThr px (va_A wc H.size)) (va_A wc H.size)) (hP : va_P g.1 vwCl ws H) (hD : va_D A ws) (hS : va_S A s.heap H locs) (hA : ∀ q, s.heap.size ≤ q → A q)
    (isC isR : List Nat) (hC : isC.map (fun i => ws[i]?) = wc.map some) (hRr : isR.map (fun i => ws[i]?) = wr.map some) (hn : va_nd isR = true) (hdis : ∀ i ∈ isR, i ∉ isC)
    (kx : ∀ (E : String) (ce : Cell) (q9 : Addr) (H1 : Heap) (locs1 : List Loc), px E → va_P g.1 vwCl wr H1 → va_D A wr → va_S A s.heap H1 locs1 → H1[q9]? = some ce → ce.vm = .none → s.vm.findClass E = some ce.cls → vx_W p l e R s m args below meth c H1 locs1 (cells + mc) (slots + ms) Q (F0 m pc ls rest) q9)
    (kk : ∀ (r : Int32) (u : S) (H1 : Heap) (locs1 : List Loc), post r u → va_P g.1 vwCl (wr ++ ws' u) H1 → va_D A (wr ++ ws' u) → va_S A s.heap H1 locs1 → W p l e R s m args below meth c H1 locs1 (cells + mc) (slots + ms) Q (F0 m (pc + 3) ls (.int r :: rest))) : W p l e R s m args below meth c H locs cells slots Q (F0 m pc ls st0) := by
  have hFc := va_free (wc := wc) hD hS hA isC hC
  refine vx_calli hr hS (fun q _ h => hFc q h) hFc (fun q _ h => hFc q h) (fun E ce q9 u t H1 locs1 ht hvm hpu hB hz1 hk1 hS1 h7 h8 h9 => ?_) (fun r u t H1 locs1 ht hvm hw hB hz1 hk1 hS1 => ?_)
  · obtain ⟨hP2, hD2⟩ := va_join (w1 := []) hP hD isC isR hC hRr hn hdis hk1 hFc (fun k q h => by simp at h) ⟨fun i j p q h => by simp at h, fun k q h => by simp at h⟩
    rw [List.append_nil] at hP2 hD2
    exact kx E ce q9 H1 locs1 hB hP2 hD2 hS1 h7 h8 h9
  · obtain ⟨hP1, hD1⟩ := hB
    rw [ht] at hP1
    obtain ⟨hP2, hD2⟩ := va_join hP hD isC isR hC hRr hn hdis hk1 hFc hP1 hD1
    exact kk r u H1 locs1 hw hP2 hD2 hS1
theorem gxj_d {post : UInt64 → S → Prop} (hr : vx_Run p l e R s m args below meth c H locs cells slots mc ms (F0 m pc ls st0) rest (va_Qd post (fun u t => gPost g (va_A wc H.size) (ws' u) t) (va_A wc H.size) a) (gThr px (va_A wc H.size)) (va_A wc H.size)) (hP : va_P g.1 vwCl ws H) (hD : va_D A ws) (hS : va_S A s.heap H locs) (hA : ∀ q, s.heap.size ≤ q → A q)
    (isC isR : List Nat) (hC : isC.map (fun i => ws[i]?) = wc.map some) (hRr : isR.map (fun i => ws[i]?) = wr.map some) (hn : va_nd isR = true) (hdis : ∀ i ∈ isR, i ∉ isC)
    (kx : ∀ (E : String) (ce : Cell) (q9 : Addr) (H1 : Heap) (locs1 : List Loc), px E → va_P g.1 vwCl wr H1 → va_D A wr → va_S A s.heap H1 locs1 → H1[q9]? = some ce → ce.vm = .none → s.vm.findClass E = some ce.cls → vx_W p l e R s m args below meth c H1 locs1 (cells + mc) (slots + ms) Q (F0 m pc ls rest) q9)
    (kk : ∀ (r : UInt64) (u : S) (H1 : Heap) (locs1 : List Loc), post r u → va_P g.1 vwCl (wr ++ ws' u) H1 → va_D A (wr ++ ws' u) → va_S A s.heap H1 locs1 → W p l e R s m args below meth c H1 locs1 (cells + mc) (slots + ms) Q (F0 m (pc + 3) ls (.double r :: rest))) : W p l e R s m args below meth c H locs cells slots Q (F0 m pc ls st0) := by
  have hFc := va_free (wc := wc) hD hS hA isC hC
  refine vx_calld hr hS (fun q _ h => hFc q h) hFc (fun q _ h => hFc q h) (fun E ce q9 u t H1 locs1 ht hvm hpu hB hz1 hk1 hS1 h7 h8 h9 => ?_) (fun r u t H1 locs1 ht hvm hw hB hz1 hk1 hS1 => ?_)
  · obtain ⟨hP2, hD2⟩ := va_join (w1 := []) hP hD isC isR hC hRr hn hdis hk1 hFc (fun k q h => by simp at h) ⟨fun i j p q h => by simp at h, fun k q h => by simp at h⟩
    rw [List.append_nil] at hP2 hD2
    exact kx E ce q9 H1 locs1 hB hP2 hD2 hS1 h7 h8 h9
  · obtain ⟨hP1, hD1⟩ := hB
    rw [ht] at hP1
    obtain ⟨hP2, hD2⟩ := va_join hP hD isC isR hC hRr hn hdis hk1 hFc hP1 hD1
    exact kk r u H1 locs1 hw hP2 hD2 hS1
/-- what a callee threw goes on to the caller -/
theorem gx_out {Qc : Array Value → State → Outcome → State → Prop} {E : String} {ce : Cell} {q9 : Addr} {mc ms : Nat} (htab : ∀ x ∈ c.exceptionTable.toList, False) (hlocks : meth.locks = false) (hS : va_S A s.heap H locs) (h7 : H[q9]? = some ce) (h8 : ce.vm = .none) (h9 : s.vm.findClass E = some ce.cls) (hpx : px E) (hc : cells ≤ mc) (hs : slots ≤ ms) :
    vx_W p l e R s m args below meth c H locs cells slots (vx_MQ below Qc (gThr px A) args s mc ms A) (F0 m pc ls rest) q9 :=
  vx_out (fun x hx => (htab x hx).elim) hlocks h7 h8 h9 (fun t ht hvm => ⟨(), trivial, hpx, hS.F ht⟩) hS.2.2 hc hs
end Joins
end GRows
