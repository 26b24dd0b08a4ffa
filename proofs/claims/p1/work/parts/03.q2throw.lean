section GThrow
variable {p : Program} {l : Launch} {e : Env} {R : Room} {s : State} {m : MethodId} {args : Array Value} {below : List Frame} {meth : Method} {c : Code} {H : Heap} {locs : List Loc} {cells slots : Nat}
variable {cc : ByteArray} {pc : Nat} {ls : Array Slot} {rest : List Value} {A : Nat → Prop} {g : gG} {px : String → Prop}
/-- 'throw new E("text")' in the class: it leaves the method -/
theorem gx_throw {Qc : Array Value → State → Outcome → State → Prop} {cls text : String} {ik is ic mc ms nL : Nat} {wy : List Cond} (hx : p.tables.exec = Jvm.exec) (hb : c.code = cc) (hl : l.stackTraces = false) (hown : s.vm.findClass RX1 = some m.cls) (hts : ∀ w ∈ wy, w.before args s = true) (htab : ∀ x ∈ c.exceptionTable.toList, False) (hlocks : meth.locks = false) (hE : gEnv g A s s.heap) (hS : va_S A s.heap H locs) (hsz : ls.size = nL) (hml : c.maxLocals = nL)
    (hcls : Bundle.fit cls = true) (hk : Cond.classLink RX1 ik cls ∈ wy) (hini : Cond.initialized cls ∈ wy) (hmem : (is, text) ∈ gStr) (hat : ∀ w ∈ (vx_atS RX1 ic cls gSup).filter goodWord, w ∈ wy) (hng : ∀ w ∈ (vx_atS RX1 ic cls gSup).filter (fun w => !goodWord w), w ∈ (Cond.castable cls cls :: gDecs)) (hca : gCa cls cls s)
    (hgood : ∀ w ∈ Cond.classLink RX1 ik cls :: Cond.initialized cls :: vx_atS RX1 ic cls gSup, vx_ot w = true)
    (d0 : decode cc pc = .ok (.new ik, 3)) (d3 : decode cc (pc + 3) = .ok (.dup, 1)) (d4 : decode cc (pc + 4) = .ok (.ldc is, 2)) (d6 : decode cc (pc + 6) = .ok (.invokespecial ic, 3)) (d9 : decode cc (pc + 9) = .ok (.athrow, 1))
    (hRf : 5 < R.frames) (hRl : (rest.map fun v => v.category).sum + 82 ≤ R.locals) (hRc : cells + 1 ≤ R.cells) (hRs : slots + 6 ≤ R.slots) (hc : cells + 1 ≤ mc) (hs : slots + 6 ≤ ms) (hpx : px cls) :
    W p l e R s m args below meth c H locs cells slots (vx_MQ below Qc (gThr px A) args s mc ms A) (F0 m pc ls rest) := by
  have hat' : ∀ w ∈ vx_atS RX1 ic cls gSup, w.before args s = true := by
    refine vx_hat (B := Cond.castable cls cls :: gDecs) (fun w hw => hts w (hat w hw)) hng (vx_c hca.use (fun w hw => ?_))
    have hz := hE.1.2.2.2.2 w hw
    simp only [gDecs, List.mem_cons, List.not_mem_nil, or_false] at hw
    rcases hw with rfl | rfl | rfl <;> exact va_Nw.use rfl hz
  exact vx_throwS (names := gSup) hx hb hl hown hcls (by decide) (hts _ hk) (hts _ hini) (hE.1.1 _ hmem) hat' hgood hE.2.1 hE.2.2.1 hS (hsz.trans hml.symm) d0 d3 d4 d6 d9 (fun x hx => (htab x hx).elim) hRf hRl hRc hRs hlocks
    (fun t hvm hz hq => ⟨(), trivial, hpx, Nat.le_trans hS.1 hz, fun q h1 h2 => (hq q (Nat.lt_of_lt_of_le h1 hS.1)).trans (hS.2.1 q h1 h2)⟩) hS.2.2 hc hs
end GThrow
theorem gng_IO : ∀ w ∈ (vx_atS RX1 159 gIO gSup).filter (fun w => !goodWord w), w ∈ (Cond.castable gIO gIO :: gDecs) := by decide +kernel
theorem gng_IA : ∀ w ∈ (vx_atS RX1 101 gIA gSup).filter (fun w => !goodWord w), w ∈ (Cond.castable gIA gIA :: gDecs) := by decide +kernel
theorem gng_IS : ∀ w ∈ (vx_atS RX1 76 gIS gSup).filter (fun w => !goodWord w), w ∈ (Cond.castable gIS gIS :: gDecs) := by decide +kernel
theorem ggd_IO : ∀ w ∈ Cond.classLink RX1 155 gIO :: Cond.initialized gIO :: vx_atS RX1 159 gIO gSup, vx_ot w = true := by decide +kernel
theorem ggd_IA : ∀ w ∈ Cond.classLink RX1 97 gIA :: Cond.initialized gIA :: vx_atS RX1 101 gIA gSup, vx_ot w = true := by decide +kernel
theorem ggd_IS : ∀ w ∈ Cond.classLink RX1 72 gIS :: Cond.initialized gIS :: vx_atS RX1 76 gIS gSup, vx_ot w = true := by decide +kernel
