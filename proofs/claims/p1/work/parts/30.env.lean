theorem g_comp_eq {x : Int32} (h : gSet x) : gComp x = gCompM x := by
  obtain ⟨h1, h2⟩ := h
  obtain ⟨j, hj, rfl⟩ := nI_of2 (M := 65535) (n := 65535) (by decide) h1 h2
  have e1 : nI j &&& 255 = nI (j % 2 ^ 8) := pk_andN (by omega) 8 (by decide)
  have e2 : ((nI j).toUInt32 >>> ((8 : Int32).toUInt32 &&& Int32.toUInt32 31)).toInt32 = nI (j / 2 ^ 8) := pk_ushrN (by omega) 8 8 (by decide)
  have e3 : nI (j / 2 ^ 8) &&& 255 = nI (j / 2 ^ 8 % 2 ^ 8) := pk_andN (by omega) 8 (by decide)
  have e4 : nI j >>> ((8 : Int32) &&& 31) = nI (j / 2 ^ 8) := pk_shrN (by omega) _ 8 (by decide)
  have e5 : j / 2 ^ 8 % 2 ^ 8 = j / 2 ^ 8 := Nat.mod_eq_of_lt (by omega)
  unfold gComp gCompM
  rw [e1, e2, e3, e4, e5]
  exact Int32.or_comm _ _
theorem g_clo_eq {x : Int32} (h : gSet x) : gClo x = gCloM x := by
  unfold gClo gCloM
  rw [g_comp_eq h]
theorem garr {s : State} {args : Array Value} {ty : FieldType} (h : (Cond.arrayClass ty).before args s = true) : ∃ cA : ClassId, ArrOfT s cA ty ∧ s.vm.findClass ("[" ++ ty.toString) = some cA := by
  obtain ⟨c, k, comp, h1, h2, h3⟩ := Cond.arrayClass_spec h
  exact ⟨c, fun n z => ⟨fun k h => (by cases h), k, h2, comp, h3⟩, h1⟩
set_option maxHeartbeats 4000000 in
set_option maxRecDepth 100000 in
/-- what the Statement gives of the start, as the environment -/
theorem genv_start {s : State} {b : Nat} {A : Nat → Prop} (hts : ∀ w ∈ lw_tbl, w.before #[Value.ref b] s = true) (hgv : (Jvm.Cond.and given_1 narrow_1).before #[Value.ref b] s = true) (hA : ∀ a : Nat, a < s.heap.size → ¬ A a) : ∃ (sa : Nat → Nat) (oA : Nat), gTab sa s ∧ gSta oA A s s.heap := by
  have hs := flat_of_before _ hgv
  have harr : (Cond.arrayOf (.static RX1 "ORDERS" "[I") .int).before #[Value.ref b] s = true := hs _ (by decide +kernel)
  have hlen := va_eqt (hs (.eq (.length (.static RX1 "ORDERS" "[I")) (.int 7)) (by decide +kernel))
  have h0 := va_eqt (hs (.eq (.elem (.static RX1 "ORDERS" "[I") (.int 0)) (.int 1)) (by decide +kernel))
  have h1 := va_eqt (hs (.eq (.elem (.static RX1 "ORDERS" "[I") (.int 1)) (.int 1)) (by decide +kernel))
  have h2 := va_eqt (hs (.eq (.elem (.static RX1 "ORDERS" "[I") (.int 2)) (.int 2)) (by decide +kernel))
  have h3 := va_eqt (hs (.eq (.elem (.static RX1 "ORDERS" "[I") (.int 3)) (.int 6)) (by decide +kernel))
  have h4 := va_eqt (hs (.eq (.elem (.static RX1 "ORDERS" "[I") (.int 4)) (.int 24)) (by decide +kernel))
  have h5 := va_eqt (hs (.eq (.elem (.static RX1 "ORDERS" "[I") (.int 5)) (.int 120)) (by decide +kernel))
  have h6 := va_eqt (hs (.eq (.elem (.static RX1 "ORDERS" "[I") (.int 6)) (.int 720)) (by decide +kernel))
  obtain ⟨oA, ho, hT⟩ := va_Tof (ty := .int) (N := 7) (f := fun j => .int (gOrd j)) (by decide) harr hlen (fun j hj => by
    rcases (show j = 0 ∨ j = 1 ∨ j = 2 ∨ j = 3 ∨ j = 4 ∨ j = 5 ∨ j = 6 by omega) with rfl | rfl | rfl | rfl | rfl | rfl | rfl
    · exact h0
    · exact h1
    · exact h2
    · exact h3
    · exact h4
    · exact h5
    · exact h6) hA
  have hZ : va_Z RX1 "ORDERS" "[I" (.ref oA) A s s.heap := va_Zof (hts (.laysStatic RX1 "ORDERS" "[I") (by decide +kernel)) (hts (.initialized RX1) (by decide +kernel)) ho hA
  have hU : vx_Zq Bundle.tN "UNASSIGNED_STACK" Bundle.steD A s s.heap := vx_Zqof (hts (.laysStatic Bundle.tN "UNASSIGNED_STACK" Bundle.steD) (by decide +kernel)) (hts (.initialized Bundle.tN) (by decide +kernel)) (hs (.isRef (.static Bundle.tN "UNASSIGNED_STACK" Bundle.steD)) (by decide +kernel)) hA
  have hN : vx_Zq Bundle.tN "SUPPRESSED_SENTINEL" Bundle.listD A s s.heap := vx_Zqof (hts (.laysStatic Bundle.tN "SUPPRESSED_SENTINEL" Bundle.listD) (by decide +kernel)) (hts (.initialized Bundle.tN) (by decide +kernel)) (hs (.isRef (.static Bundle.tN "SUPPRESSED_SENTINEL" Bundle.listD)) (by decide +kernel)) hA
  have hst : ∀ (k : Nat) (t : String), Cond.stringRef RX1 k t ∈ lw_tbl → Cond.exactly (.string RX1 k) "java/lang/String" ∈ flatC (Jvm.Cond.and given_1 narrow_1) → ∃ a, vk_R RX1 k t a s := by
    intro k t h1 h2
    obtain ⟨a, c, cA, kA, q1, -⟩ := Cond.exactly_spec (args := #[Value.ref b]) (first := s) (o := none) (s := s) (idx := []) (t := .string RX1 k) (cls := "java/lang/String") (hs _ h2)
    exact ⟨a, vk_R.of (hts _ h1) q1⟩
  obtain ⟨a74, s74⟩ := hst 74 "there are 16 strict rules" (by decide +kernel) (by decide +kernel)
  obtain ⟨a82, s82⟩ := hst 82 "there are 6 defaults" (by decide +kernel) (by decide +kernel)
  obtain ⟨a84, s84⟩ := hst 84 "there is no strict rule" (by decide +kernel) (by decide +kernel)
  obtain ⟨a86, s86⟩ := hst 86 "there is no default" (by decide +kernel) (by decide +kernel)
  obtain ⟨a99, s99⟩ := hst 99 "a default would come before itself" (by decide +kernel) (by decide +kernel)
  obtain ⟨a157, s157⟩ := hst 157 "the latest walk has no such index" (by decide +kernel) (by decide +kernel)
  obtain ⟨a170, s170⟩ := hst 170 "a literal is 0 to 15" (by decide +kernel) (by decide +kernel)
  obtain ⟨a172, s172⟩ := hst 172 "a set is 0 to 65535" (by decide +kernel) (by decide +kernel)
  obtain ⟨a174, s174⟩ := hst 174 "there is no such default" (by decide +kernel) (by decide +kernel)
  obtain ⟨a176, s176⟩ := hst 176 "there is no such extension" (by decide +kernel) (by decide +kernel)
  obtain ⟨a181, s181⟩ := hst 181 "there is no such order" (by decide +kernel) (by decide +kernel)
  refine ⟨fun k => match k with | 74 => a74 | 82 => a82 | 84 => a84 | 86 => a86 | 99 => a99 | 157 => a157 | 170 => a170 | 172 => a172 | 174 => a174 | 176 => a176 | 181 => a181 | _ => 0, oA, ⟨fun q hq => ?_, ⟨gCa.of (hts (.castable gIO gIO) (by decide +kernel)), gCa.of (hts (.castable gIA gIA) (by decide +kernel)), gCa.of (hts (.castable gIS gIS) (by decide +kernel))⟩, ⟨va_Nc.of (hs (.not (.castable gIA gIO)) (by decide +kernel)), va_Nc.of (hs (.not (.castable gIS gIO)) (by decide +kernel)), va_Nc.of (hs (.not (.castable gIS gIA)) (by decide +kernel))⟩, fun w hw => ?_, fun w hw => ?_⟩, hU, hN, hZ, hT⟩
  · simp only [gStr, List.mem_cons, List.not_mem_nil, or_false] at hq
    rcases hq with rfl | rfl | rfl | rfl | rfl | rfl | rfl | rfl | rfl | rfl | rfl
    · exact s74
    · exact s82
    · exact s84
    · exact s86
    · exact s99
    · exact s157
    · exact s170
    · exact s172
    · exact s174
    · exact s176
    · exact s181
  · simp only [gNest, List.mem_cons, List.not_mem_nil, or_false] at hw
    rcases hw with rfl | rfl | rfl <;> exact va_Nw.of rfl (hts _ (by decide +kernel))
  · simp only [gDecs, List.mem_cons, List.not_mem_nil, or_false] at hw
    rcases hw with rfl | rfl | rfl <;> exact va_Nw.of rfl (hts _ (by decide +kernel))
