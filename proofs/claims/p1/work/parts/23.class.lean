set_option maxHeartbeats 4000000 in
set_option maxRecDepth 100000 in
theorem c_X1_checkLiteral (l : Launch) (hst : l.stackTraces = false) (g : gG) (sz : Nat) (x : Int32) : gXv l yX1_checkLiteral wsX1_checkLiteral ({ frames := 6, cells := 1, slots := 6, locals := 82 } : Room) g [.int x] [] sz (fun (u : Unit) => gLit x) (fun (u : Unit) => []) (fun E => E = gIO ∧ ¬ gLit x) 1 6 := by
  refine gx_of (l := l) (y := yX1_checkLiteral) (wy := wsX1_checkLiteral) (rm := ({ frames := 6, cells := 1, slots := 6, locals := 82 } : Room)) (g := g) (av := [.int x]) (ws := []) (sz := sz) (mc := 1) (ms := 6) (Qc := fun A => va_Qv (fun (u : Unit) => gLit x) (fun u t9 => gPost g A ((fun (u : Unit) => []) u) t9) A) (XC := fun A => gThr (fun E => E = gIO ∧ ¬ gLit x) A) (cc := cX1_checkLiteral) (maxL := 1) (ret := none) (by decide) rfl (Nat.le_of_ble_eq_true rfl) ?_
  intro p e s m below meth c A ls hx hb hr hml hown hts hlocks htab hA hK hE hP hD hS hl
  have hl : lv_has ls 1 [(0, .int x)] := hl
  have hown : s.vm.findClass RX1 = some m.cls := hown
  have hP : va_P g.1 vwCl [] s.heap := hP
  refine lv_iload_n hx hb dX1_checkLiteral_0 rfl (lv_at hl 0 rfl) ?_
  refine lv_if_lt (tgt := 10) hx hb dX1_checkLiteral_1 (by decide) (fun c1 => ?_) (fun c1 => ?_)
  · exact gx_throw (cls := gIO) (text := "a literal is 0 to 15") hx hb hst hown hts htab hlocks hE hS hl.1 hml (by decide) (by decide +kernel) (by decide +kernel) (by decide) (by decide +kernel) gng_IO hE.1.2.1.1 ggd_IO dX1_checkLiteral_10 dX1_checkLiteral_13 dX1_checkLiteral_14 dX1_checkLiteral_16 dX1_checkLiteral_19 (Nat.le_of_ble_eq_true rfl) (Nat.le_of_ble_eq_true rfl) (Nat.le_of_ble_eq_true rfl) (Nat.le_of_ble_eq_true rfl) (Nat.le_of_ble_eq_true rfl) (Nat.le_of_ble_eq_true rfl) (⟨rfl, fun h => h.1 c1⟩)
  · refine lv_iload_n hx hb dX1_checkLiteral_4 rfl (lv_at hl 0 rfl) ?_
    refine lv_bipush (v := 16) hx hb dX1_checkLiteral_5 (by decide) ?_
    refine lv_icmp_lt (tgt := 20) hx hb dX1_checkLiteral_7 (by decide) (fun c7 => ?_) (fun c7 => ?_)
    · refine vx_ret ?_
      exact g_vr hx hb hr hlocks hP hD hS () [] rfl (by decide) rfl dX1_checkLiteral_20 (Nat.le_of_ble_eq_true rfl) (Nat.le_of_ble_eq_true rfl) (⟨c1, c7⟩)
    · exact gx_throw (cls := gIO) (text := "a literal is 0 to 15") hx hb hst hown hts htab hlocks hE hS hl.1 hml (by decide) (by decide +kernel) (by decide +kernel) (by decide) (by decide +kernel) gng_IO hE.1.2.1.1 ggd_IO dX1_checkLiteral_10 dX1_checkLiteral_13 dX1_checkLiteral_14 dX1_checkLiteral_16 dX1_checkLiteral_19 (Nat.le_of_ble_eq_true rfl) (Nat.le_of_ble_eq_true rfl) (Nat.le_of_ble_eq_true rfl) (Nat.le_of_ble_eq_true rfl) (Nat.le_of_ble_eq_true rfl) (Nat.le_of_ble_eq_true rfl) (⟨rfl, fun h => c7 h.2⟩)
set_option maxHeartbeats 4000000 in
set_option maxRecDepth 100000 in
theorem c_X1_checkSet (l : Launch) (hst : l.stackTraces = false) (g : gG) (sz : Nat) (x : Int32) : gXv l yX1_checkSet wsX1_checkSet ({ frames := 6, cells := 1, slots := 6, locals := 82 } : Room) g [.int x] [] sz (fun (u : Unit) => gSet x) (fun (u : Unit) => []) (fun E => E = gIA ∧ ¬ gSet x) 1 6 := by
  refine gx_of (l := l) (y := yX1_checkSet) (wy := wsX1_checkSet) (rm := ({ frames := 6, cells := 1, slots := 6, locals := 82 } : Room)) (g := g) (av := [.int x]) (ws := []) (sz := sz) (mc := 1) (ms := 6) (Qc := fun A => va_Qv (fun (u : Unit) => gSet x) (fun u t9 => gPost g A ((fun (u : Unit) => []) u) t9) A) (XC := fun A => gThr (fun E => E = gIA ∧ ¬ gSet x) A) (cc := cX1_checkSet) (maxL := 1) (ret := none) (by decide) rfl (Nat.le_of_ble_eq_true rfl) ?_
  intro p e s m below meth c A ls hx hb hr hml hown hts hlocks htab hA hK hE hP hD hS hl
  have hl : lv_has ls 1 [(0, .int x)] := hl
  have hown : s.vm.findClass RX1 = some m.cls := hown
  have hP : va_P g.1 vwCl [] s.heap := hP
  refine lv_iload_n hx hb dX1_checkSet_0 rfl (lv_at hl 0 rfl) ?_
  refine lv_if_lt (tgt := 10) hx hb dX1_checkSet_1 (by decide) (fun c1 => ?_) (fun c1 => ?_)
  · exact gx_throw (cls := gIA) (text := "a set is 0 to 65535") hx hb hst hown hts htab hlocks hE hS hl.1 hml (by decide) (by decide +kernel) (by decide +kernel) (by decide) (by decide +kernel) gng_IA hE.1.2.1.2.1 ggd_IA dX1_checkSet_10 dX1_checkSet_13 dX1_checkSet_14 dX1_checkSet_16 dX1_checkSet_19 (Nat.le_of_ble_eq_true rfl) (Nat.le_of_ble_eq_true rfl) (Nat.le_of_ble_eq_true rfl) (Nat.le_of_ble_eq_true rfl) (Nat.le_of_ble_eq_true rfl) (Nat.le_of_ble_eq_true rfl) (⟨rfl, fun h => h.1 c1⟩)
  · refine lv_iload_n hx hb dX1_checkSet_4 rfl (lv_at hl 0 rfl) ?_
    refine lv_ldc (v := 65535) hx hb hown (hts (.constant RX1 142 (65535)) (by decide +kernel)) dX1_checkSet_5 ?_
    refine lv_icmp_le (tgt := 20) hx hb dX1_checkSet_7 (by decide) (fun c7 => ?_) (fun c7 => ?_)
    · refine vx_ret ?_
      exact g_vr hx hb hr hlocks hP hD hS () [] rfl (by decide) rfl dX1_checkSet_20 (Nat.le_of_ble_eq_true rfl) (Nat.le_of_ble_eq_true rfl) (⟨c1, c7⟩)
    · exact gx_throw (cls := gIA) (text := "a set is 0 to 65535") hx hb hst hown hts htab hlocks hE hS hl.1 hml (by decide) (by decide +kernel) (by decide +kernel) (by decide) (by decide +kernel) gng_IA hE.1.2.1.2.1 ggd_IA dX1_checkSet_10 dX1_checkSet_13 dX1_checkSet_14 dX1_checkSet_16 dX1_checkSet_19 (Nat.le_of_ble_eq_true rfl) (Nat.le_of_ble_eq_true rfl) (Nat.le_of_ble_eq_true rfl) (Nat.le_of_ble_eq_true rfl) (Nat.le_of_ble_eq_true rfl) (Nat.le_of_ble_eq_true rfl) (⟨rfl, fun h => c7 h.2⟩)
set_option maxHeartbeats 4000000 in
set_option maxRecDepth 100000 in
theorem c_X1_checkDefault (l : Launch) (hst : l.stackTraces = false) (g : gG) (sz : Nat) (xx : Nat) (a : Nat → Nat) (e15 e16 e18 e19 : Int32) (x : Int32) : gXv l yX1_checkDefault wsX1_checkDefault ({ frames := 6, cells := 1, slots := 6, locals := 82 } : Room) g [.ref xx, .int x] [(xx, .inr (1, [.int 0, .int 0, .ref (a 2), .ref (a 3), .int 0, .ref (a 5), .ref (a 6), .ref (a 7), .ref (a 8), .ref (a 9), .int 0, .ref (a 11), .ref (a 12), .ref (a 13), .ref (a 14), .int e15, .int e16, .ref (a 17), .int e18, .int e19]))] sz (fun (u : Unit) => False) (fun (u : Unit) => [(xx, .inr (1, [.int 0, .int 0, .ref (a 2), .ref (a 3), .int 0, .ref (a 5), .ref (a 6), .ref (a 7), .ref (a 8), .ref (a 9), .int 0, .ref (a 11), .ref (a 12), .ref (a 13), .ref (a 14), .int e15, .int e16, .ref (a 17), .int e18, .int e19]))]) (fun E => E = gIO) 1 6 := by
  refine gx_of (l := l) (y := yX1_checkDefault) (wy := wsX1_checkDefault) (rm := ({ frames := 6, cells := 1, slots := 6, locals := 82 } : Room)) (g := g) (av := [.ref xx, .int x]) (ws := [(xx, .inr (1, [.int 0, .int 0, .ref (a 2), .ref (a 3), .int 0, .ref (a 5), .ref (a 6), .ref (a 7), .ref (a 8), .ref (a 9), .int 0, .ref (a 11), .ref (a 12), .ref (a 13), .ref (a 14), .int e15, .int e16, .ref (a 17), .int e18, .int e19]))]) (sz := sz) (mc := 1) (ms := 6) (Qc := fun A => va_Qv (fun (u : Unit) => False) (fun u t9 => gPost g A ((fun (u : Unit) => [(xx, .inr (1, [.int 0, .int 0, .ref (a 2), .ref (a 3), .int 0, .ref (a 5), .ref (a 6), .ref (a 7), .ref (a 8), .ref (a 9), .int 0, .ref (a 11), .ref (a 12), .ref (a 13), .ref (a 14), .int e15, .int e16, .ref (a 17), .int e18, .int e19]))]) u) t9) A) (XC := fun A => gThr (fun E => E = gIO) A) (cc := cX1_checkDefault) (maxL := 2) (ret := none) (by decide) rfl (Nat.le_of_ble_eq_true rfl) ?_
  intro p e s m below meth c A ls hx hb hr hml hown hts hlocks htab hA hK hE hP hD hS hl
  have hl : lv_has ls 2 [(0, .ref xx), (1, .int x)] := hl
  have hown : s.vm.findClass RX1 = some m.cls := hown
  have hP : va_P g.1 vwCl [(xx, .inr (1, [.int 0, .int 0, .ref (a 2), .ref (a 3), .int 0, .ref (a 5), .ref (a 6), .ref (a 7), .ref (a 8), .ref (a 9), .int 0, .ref (a 11), .ref (a 12), .ref (a 13), .ref (a 14), .int e15, .int e16, .ref (a 17), .int e18, .int e19]))] s.heap := hP
  have hinX1 : ∀ w ∈ u_ws RX1 TX1 20, w ∈ wsX1_checkDefault := by decide +kernel
  refine lv_iload_n hx hb dX1_checkDefault_0 rfl (lv_at hl 1 rfl) ?_
  refine lv_if_lt (tgt := 12) hx hb dX1_checkDefault_1 (by decide) (fun c1 => ?_) (fun c1 => ?_)
  · exact gx_throw (cls := gIO) (text := "there is no such default") hx hb hst hown hts htab hlocks hE hS hl.1 hml (by decide) (by decide +kernel) (by decide +kernel) (by decide) (by decide +kernel) gng_IO hE.1.2.1.1 ggd_IO dX1_checkDefault_12 dX1_checkDefault_15 dX1_checkDefault_16 dX1_checkDefault_18 dX1_checkDefault_21 (Nat.le_of_ble_eq_true rfl) (Nat.le_of_ble_eq_true rfl) (Nat.le_of_ble_eq_true rfl) (Nat.le_of_ble_eq_true rfl) (Nat.le_of_ble_eq_true rfl) (Nat.le_of_ble_eq_true rfl) (rfl)
  · refine lv_iload_n hx hb dX1_checkDefault_4 rfl (lv_at hl 1 rfl) ?_
    refine lv_aload_n hx hb dX1_checkDefault_5 rfl (lv_at hl 0 rfl) ?_
    refine va_get (D := g.1) (ci := 1) (v := .int 0) (C := RX1) (T := TX1) (N := 20) hx hb hts hinX1 hown hK hP 0 rfl rfl 4 (by decide) (hts (.fieldLink RX1 79 "DefaultReasoner" "defaultTotal" "I") (by decide +kernel)) (fun _ h9 => h9) rfl dX1_checkDefault_6 ?_
    refine lv_icmp_lt (tgt := 22) hx hb dX1_checkDefault_9 (by decide) (fun c9 => absurd c9 c1) (fun _ => ?_)
    exact gx_throw (cls := gIO) (text := "there is no such default") hx hb hst hown hts htab hlocks hE hS hl.1 hml (by decide) (by decide +kernel) (by decide +kernel) (by decide) (by decide +kernel) gng_IO hE.1.2.1.1 ggd_IO dX1_checkDefault_12 dX1_checkDefault_15 dX1_checkDefault_16 dX1_checkDefault_18 dX1_checkDefault_21 (Nat.le_of_ble_eq_true rfl) (Nat.le_of_ble_eq_true rfl) (Nat.le_of_ble_eq_true rfl) (Nat.le_of_ble_eq_true rfl) (Nat.le_of_ble_eq_true rfl) (Nat.le_of_ble_eq_true rfl) (rfl)
set_option maxHeartbeats 4000000 in
set_option maxRecDepth 100000 in
theorem c_X1_checkExtension (l : Launch) (hst : l.stackTraces = false) (g : gG) (sz : Nat) (xx : Nat) (a : Nat → Nat) (e16 e18 e19 x : Int32) : gXv l yX1_checkExtension wsX1_checkExtension ({ frames := 6, cells := 1, slots := 6, locals := 82 } : Room) g [.ref xx, .int x] [(xx, .inr (1, [.int 0, .int 0, .ref (a 2), .ref (a 3), .int 0, .ref (a 5), .ref (a 6), .ref (a 7), .ref (a 8), .ref (a 9), .int 0, .ref (a 11), .ref (a 12), .ref (a 13), .ref (a 14), .int 1, .int e16, .ref (a 17), .int e18, .int e19]))] sz (fun (u : Unit) => gNil x) (fun (u : Unit) => [(xx, .inr (1, [.int 0, .int 0, .ref (a 2), .ref (a 3), .int 0, .ref (a 5), .ref (a 6), .ref (a 7), .ref (a 8), .ref (a 9), .int 0, .ref (a 11), .ref (a 12), .ref (a 13), .ref (a 14), .int 1, .int e16, .ref (a 17), .int e18, .int e19]))]) (fun E => E = gIO ∧ ¬ gNil x) 1 6 := by
  refine gx_of (l := l) (y := yX1_checkExtension) (wy := wsX1_checkExtension) (rm := ({ frames := 6, cells := 1, slots := 6, locals := 82 } : Room)) (g := g) (av := [.ref xx, .int x]) (ws := [(xx, .inr (1, [.int 0, .int 0, .ref (a 2), .ref (a 3), .int 0, .ref (a 5), .ref (a 6), .ref (a 7), .ref (a 8), .ref (a 9), .int 0, .ref (a 11), .ref (a 12), .ref (a 13), .ref (a 14), .int 1, .int e16, .ref (a 17), .int e18, .int e19]))]) (sz := sz) (mc := 1) (ms := 6) (Qc := fun A => va_Qv (fun (u : Unit) => gNil x) (fun u t9 => gPost g A ((fun (u : Unit) => [(xx, .inr (1, [.int 0, .int 0, .ref (a 2), .ref (a 3), .int 0, .ref (a 5), .ref (a 6), .ref (a 7), .ref (a 8), .ref (a 9), .int 0, .ref (a 11), .ref (a 12), .ref (a 13), .ref (a 14), .int 1, .int e16, .ref (a 17), .int e18, .int e19]))]) u) t9) A) (XC := fun A => gThr (fun E => E = gIO ∧ ¬ gNil x) A) (cc := cX1_checkExtension) (maxL := 2) (ret := none) (by decide) rfl (Nat.le_of_ble_eq_true rfl) ?_
  intro p e s m below meth c A ls hx hb hr hml hown hts hlocks htab hA hK hE hP hD hS hl
  have hl : lv_has ls 2 [(0, .ref xx), (1, .int x)] := hl
  have hown : s.vm.findClass RX1 = some m.cls := hown
  have hP : va_P g.1 vwCl [(xx, .inr (1, [.int 0, .int 0, .ref (a 2), .ref (a 3), .int 0, .ref (a 5), .ref (a 6), .ref (a 7), .ref (a 8), .ref (a 9), .int 0, .ref (a 11), .ref (a 12), .ref (a 13), .ref (a 14), .int 1, .int e16, .ref (a 17), .int e18, .int e19]))] s.heap := hP
  have hinX1 : ∀ w ∈ u_ws RX1 TX1 20, w ∈ wsX1_checkExtension := by decide +kernel
  refine lv_iload_n hx hb dX1_checkExtension_0 rfl (lv_at hl 1 rfl) ?_
  refine lv_if_lt (tgt := 12) hx hb dX1_checkExtension_1 (by decide) (fun c1 => ?_) (fun c1 => ?_)
  · exact gx_throw (cls := gIO) (text := "there is no such extension") hx hb hst hown hts htab hlocks hE hS hl.1 hml (by decide) (by decide +kernel) (by decide +kernel) (by decide) (by decide +kernel) gng_IO hE.1.2.1.1 ggd_IO dX1_checkExtension_12 dX1_checkExtension_15 dX1_checkExtension_16 dX1_checkExtension_18 dX1_checkExtension_21 (Nat.le_of_ble_eq_true rfl) (Nat.le_of_ble_eq_true rfl) (Nat.le_of_ble_eq_true rfl) (Nat.le_of_ble_eq_true rfl) (Nat.le_of_ble_eq_true rfl) (Nat.le_of_ble_eq_true rfl) (⟨rfl, fun h => h.1 c1⟩)
  · refine lv_iload_n hx hb dX1_checkExtension_4 rfl (lv_at hl 1 rfl) ?_
    refine lv_aload_n hx hb dX1_checkExtension_5 rfl (lv_at hl 0 rfl) ?_
    refine va_get (D := g.1) (ci := 1) (v := .int 1) (C := RX1) (T := TX1) (N := 20) hx hb hts hinX1 hown hK hP 0 rfl rfl 15 (by decide) (hts (.fieldLink RX1 130 "DefaultReasoner" "extensionTotal" "I") (by decide +kernel)) (fun _ h9 => h9) rfl dX1_checkExtension_6 ?_
    refine lv_icmp_lt (tgt := 22) hx hb dX1_checkExtension_9 (by decide) (fun c9 => ?_) (fun c9 => ?_)
    · refine vx_ret ?_
      exact g_vr hx hb hr hlocks hP hD hS () [0] rfl (by decide) rfl dX1_checkExtension_22 (Nat.le_of_ble_eq_true rfl) (Nat.le_of_ble_eq_true rfl) (⟨c1, c9⟩)
    · exact gx_throw (cls := gIO) (text := "there is no such extension") hx hb hst hown hts htab hlocks hE hS hl.1 hml (by decide) (by decide +kernel) (by decide +kernel) (by decide) (by decide +kernel) gng_IO hE.1.2.1.1 ggd_IO dX1_checkExtension_12 dX1_checkExtension_15 dX1_checkExtension_16 dX1_checkExtension_18 dX1_checkExtension_21 (Nat.le_of_ble_eq_true rfl) (Nat.le_of_ble_eq_true rfl) (Nat.le_of_ble_eq_true rfl) (Nat.le_of_ble_eq_true rfl) (Nat.le_of_ble_eq_true rfl) (Nat.le_of_ble_eq_true rfl) (⟨rfl, fun h => c9 h.2⟩)
set_option maxHeartbeats 4000000 in
set_option maxRecDepth 100000 in
theorem c_X1_checkOrder (l : Launch) (hst : l.stackTraces = false) (g : gG) (sz : Nat) (xx : Nat) (a : Nat → Nat) (e15 e16 e18 e19 : Int32) (x : Int32) : gXv l yX1_checkOrder wsX1_checkOrder ({ frames := 6, cells := 1, slots := 6, locals := 82 } : Room) g [.ref xx, .int x] [(xx, .inr (1, [.int 0, .int 0, .ref (a 2), .ref (a 3), .int 0, .ref (a 5), .ref (a 6), .ref (a 7), .ref (a 8), .ref (a 9), .int 0, .ref (a 11), .ref (a 12), .ref (a 13), .ref (a 14), .int e15, .int e16, .ref (a 17), .int e18, .int e19]))] sz (fun (u : Unit) => gNil x) (fun (u : Unit) => [(xx, .inr (1, [.int 0, .int 0, .ref (a 2), .ref (a 3), .int 0, .ref (a 5), .ref (a 6), .ref (a 7), .ref (a 8), .ref (a 9), .int 0, .ref (a 11), .ref (a 12), .ref (a 13), .ref (a 14), .int e15, .int e16, .ref (a 17), .int e18, .int e19]))]) (fun E => E = gIA ∧ ¬ gNil x) 1 6 := by
  refine gx_of (l := l) (y := yX1_checkOrder) (wy := wsX1_checkOrder) (rm := ({ frames := 6, cells := 1, slots := 6, locals := 82 } : Room)) (g := g) (av := [.ref xx, .int x]) (ws := [(xx, .inr (1, [.int 0, .int 0, .ref (a 2), .ref (a 3), .int 0, .ref (a 5), .ref (a 6), .ref (a 7), .ref (a 8), .ref (a 9), .int 0, .ref (a 11), .ref (a 12), .ref (a 13), .ref (a 14), .int e15, .int e16, .ref (a 17), .int e18, .int e19]))]) (sz := sz) (mc := 1) (ms := 6) (Qc := fun A => va_Qv (fun (u : Unit) => gNil x) (fun u t9 => gPost g A ((fun (u : Unit) => [(xx, .inr (1, [.int 0, .int 0, .ref (a 2), .ref (a 3), .int 0, .ref (a 5), .ref (a 6), .ref (a 7), .ref (a 8), .ref (a 9), .int 0, .ref (a 11), .ref (a 12), .ref (a 13), .ref (a 14), .int e15, .int e16, .ref (a 17), .int e18, .int e19]))]) u) t9) A) (XC := fun A => gThr (fun E => E = gIA ∧ ¬ gNil x) A) (cc := cX1_checkOrder) (maxL := 2) (ret := none) (by decide) rfl (Nat.le_of_ble_eq_true rfl) ?_
  intro p e s m below meth c A ls hx hb hr hml hown hts hlocks htab hA hK hE hP hD hS hl
  have hl : lv_has ls 2 [(0, .ref xx), (1, .int x)] := hl
  have hown : s.vm.findClass RX1 = some m.cls := hown
  have hP : va_P g.1 vwCl [(xx, .inr (1, [.int 0, .int 0, .ref (a 2), .ref (a 3), .int 0, .ref (a 5), .ref (a 6), .ref (a 7), .ref (a 8), .ref (a 9), .int 0, .ref (a 11), .ref (a 12), .ref (a 13), .ref (a 14), .int e15, .int e16, .ref (a 17), .int e18, .int e19]))] s.heap := hP
  have hinX1 : ∀ w ∈ u_ws RX1 TX1 20, w ∈ wsX1_checkOrder := by decide +kernel
  refine lv_iload_n hx hb dX1_checkOrder_0 rfl (lv_at hl 1 rfl) ?_
  refine lv_if_lt (tgt := 16) hx hb dX1_checkOrder_1 (by decide) (fun c1 => ?_) (fun c1 => ?_)
  · exact gx_throw (cls := gIA) (text := "there is no such order") hx hb hst hown hts htab hlocks hE hS hl.1 hml (by decide) (by decide +kernel) (by decide +kernel) (by decide) (by decide +kernel) gng_IA hE.1.2.1.2.1 ggd_IA dX1_checkOrder_16 dX1_checkOrder_19 dX1_checkOrder_20 dX1_checkOrder_22 dX1_checkOrder_25 (Nat.le_of_ble_eq_true rfl) (Nat.le_of_ble_eq_true rfl) (Nat.le_of_ble_eq_true rfl) (Nat.le_of_ble_eq_true rfl) (Nat.le_of_ble_eq_true rfl) (Nat.le_of_ble_eq_true rfl) (⟨rfl, fun h => h.1 c1⟩)
  · refine lv_iload_n hx hb dX1_checkOrder_4 rfl (lv_at hl 1 rfl) ?_
    refine va_gets hx hb hE.2.2.2.1 hS hown (hts (.fieldLink RX1 178 "DefaultReasoner" "ORDERS" "[I") (by decide +kernel)) (fun _ h9 => h9) dX1_checkOrder_5 ?_
    refine lv_aload_n hx hb dX1_checkOrder_8 rfl (lv_at hl 0 rfl) ?_
    refine va_get (D := g.1) (ci := 1) (v := .int 0) (C := RX1) (T := TX1) (N := 20) hx hb hts hinX1 hown hK hP 0 rfl rfl 4 (by decide) (hts (.fieldLink RX1 79 "DefaultReasoner" "defaultTotal" "I") (by decide +kernel)) (fun _ h9 => h9) rfl dX1_checkOrder_9 ?_
    refine va_ti (v := .int 1) hx hb hE.2.2.2.2 hS (by unfold vp_in; decide) (rfl) dX1_checkOrder_12 ?_
    refine lv_icmp_lt (tgt := 26) hx hb dX1_checkOrder_13 (by decide) (fun c13 => ?_) (fun c13 => ?_)
    · refine vx_ret ?_
      exact g_vr hx hb hr hlocks hP hD hS () [0] rfl (by decide) rfl dX1_checkOrder_26 (Nat.le_of_ble_eq_true rfl) (Nat.le_of_ble_eq_true rfl) (⟨c1, c13⟩)
    · exact gx_throw (cls := gIA) (text := "there is no such order") hx hb hst hown hts htab hlocks hE hS hl.1 hml (by decide) (by decide +kernel) (by decide +kernel) (by decide) (by decide +kernel) gng_IA hE.1.2.1.2.1 ggd_IA dX1_checkOrder_16 dX1_checkOrder_19 dX1_checkOrder_20 dX1_checkOrder_22 dX1_checkOrder_25 (Nat.le_of_ble_eq_true rfl) (Nat.le_of_ble_eq_true rfl) (Nat.le_of_ble_eq_true rfl) (Nat.le_of_ble_eq_true rfl) (Nat.le_of_ble_eq_true rfl) (Nat.le_of_ble_eq_true rfl) (⟨rfl, fun h => c13 h.2⟩)
set_option maxHeartbeats 4000000 in
set_option maxRecDepth 100000 in
theorem c_X1_has0 (l : Launch) (g : gG) (sz : Nat) (x : Int32) : gMi l yX1_has wsX1_has ({ frames := 0, cells := 0, slots := 0, locals := 0 } : Room) g [.int 0, .int x] [] sz (fun (r : Int32) (u : Unit) => r = 0) (fun (u : Unit) => []) 0 0 := by
  refine g_of (l := l) (y := yX1_has) (wy := wsX1_has) (rm := ({ frames := 0, cells := 0, slots := 0, locals := 0 } : Room)) (g := g) (av := [.int 0, .int x]) (ws := []) (sz := sz) (mc := 0) (ms := 0) (Qc := fun A => va_Qi (fun (r : Int32) (u : Unit) => r = 0) (fun u t9 => gPost g A ((fun (u : Unit) => []) u) t9) A) (cc := cX1_has) (maxL := 2) (ret := some .boolean) (by decide) rfl (Nat.le_of_ble_eq_true rfl) ?_
  intro p e s m below meth c A ls hx hb hr hml hown hts hlocks hnm hA hK hE hP hD hS hl
  have hl : lv_has ls 2 [(0, .int 0), (1, .int x)] := hl
  have hown : s.vm.findClass RX1 = some m.cls := hown
  have hP : va_P g.1 vwCl [] s.heap := hP
  refine lv_iload_n hx hb dX1_has_0 rfl (lv_at hl 0 rfl) ?_
  refine lv_iload_n hx hb dX1_has_1 rfl (lv_at hl 1 rfl) ?_
  refine lv_iushr (v := 0) hx hb dX1_has_2 (g_ushr0 _) ?_
  refine lv_iconst (v := 1) hx hb dX1_has_3 (by decide) ?_
  refine lv_iand hx hb dX1_has_4 ?_
  refine sy_i (y := 0) (by decide) ?_
  refine lv_if_eq (tgt := 12) hx hb dX1_has_5 (by decide) (fun _ => ?_) (fun c9 => absurd (by decide) c9)
  refine lv_iconst (v := 0) hx hb dX1_has_12 (by decide) ?_
  exact g_zr hx hb hr hlocks hP hD hS () [] rfl (by decide) rfl dX1_has_13 (Nat.le_of_ble_eq_true rfl) (Nat.le_of_ble_eq_true rfl) (Or.inl rfl) (rfl)
set_option maxHeartbeats 4000000 in
set_option maxRecDepth 100000 in
theorem c_X1_mix (l : Launch) (g : gG) (sz : Nat) (d x : Int64) : gMl l yX1_mix wsX1_mix ({ frames := 0, cells := 0, slots := 0, locals := 0 } : Room) g [.long d, .long x] [] sz (fun (r : Int64) (u : Unit) => r = ((d * 31) + x)) (fun (u : Unit) => []) 0 0 := by
  refine g_of (l := l) (y := yX1_mix) (wy := wsX1_mix) (rm := ({ frames := 0, cells := 0, slots := 0, locals := 0 } : Room)) (g := g) (av := [.long d, .long x]) (ws := []) (sz := sz) (mc := 0) (ms := 0) (Qc := fun A => va_Ql (fun (r : Int64) (u : Unit) => r = ((d * 31) + x)) (fun u t9 => gPost g A ((fun (u : Unit) => []) u) t9) A) (cc := cX1_mix) (maxL := 4) (ret := some .long) (by decide) rfl (Nat.le_of_ble_eq_true rfl) ?_
  intro p e s m below meth c A ls hx hb hr hml hown hts hlocks hnm hA hK hE hP hD hS hl
  have hl : lv_has ls 4 [(0, .long d), (2, .long x)] := hl
  have hown : s.vm.findClass RX1 = some m.cls := hown
  have hP : va_P g.1 vwCl [] s.heap := hP
  refine lv_lload_n hx hb dX1_mix_0 rfl (lv_at hl 0 rfl) ?_
  refine lv_ldc2 (v := 31) hx hb hown (hts (.constantLong RX1 183 (31)) (by decide +kernel)) dX1_mix_1 ?_
  refine lv_lmul hx hb dX1_mix_4 ?_
  refine lv_lload_n hx hb dX1_mix_5 rfl (lv_at hl 1 rfl) ?_
  refine lv_ladd hx hb dX1_mix_6 ?_
  exact g_lr hx hb hr hlocks hP hD hS () [] rfl (by decide) rfl dX1_mix_7 (Nat.le_of_ble_eq_true rfl) (Nat.le_of_ble_eq_true rfl) (rfl)
set_option maxHeartbeats 4000000 in
set_option maxRecDepth 100000 in
theorem c_X1_forgetFindings (l : Launch) (g : gG) (sz : Nat) (xx : Nat) (a : Nat → Nat) (e15 e16 e18 e19 : Int32) (f0 r d : Int32) : gMv l yX1_forgetFindings wsX1_forgetFindings ({ frames := 0, cells := 0, slots := 0, locals := 0 } : Room) g [.ref xx] [(xx, .inr (1, [.int f0, .int r, .ref (a 2), .ref (a 3), .int d, .ref (a 5), .ref (a 6), .ref (a 7), .ref (a 8), .ref (a 9), .int 0, .ref (a 11), .ref (a 12), .ref (a 13), .ref (a 14), .int e15, .int e16, .ref (a 17), .int e18, .int e19]))] sz (fun (u : Unit) => True) (fun (u : Unit) => [(xx, .inr (1, [.int f0, .int r, .ref (a 2), .ref (a 3), .int d, .ref (a 5), .ref (a 6), .ref (a 7), .ref (a 8), .ref (a 9), .int 0, .ref (a 11), .ref (a 12), .ref (a 13), .ref (a 14), .int e15, .int 0, .ref (a 17), .int e18, .int 0]))]) 0 0 := by
  refine g_of (l := l) (y := yX1_forgetFindings) (wy := wsX1_forgetFindings) (rm := ({ frames := 0, cells := 0, slots := 0, locals := 0 } : Room)) (g := g) (av := [.ref xx]) (ws := [(xx, .inr (1, [.int f0, .int r, .ref (a 2), .ref (a 3), .int d, .ref (a 5), .ref (a 6), .ref (a 7), .ref (a 8), .ref (a 9), .int 0, .ref (a 11), .ref (a 12), .ref (a 13), .ref (a 14), .int e15, .int e16, .ref (a 17), .int e18, .int e19]))]) (sz := sz) (mc := 0) (ms := 0) (Qc := fun A => va_Qv (fun (u : Unit) => True) (fun u t9 => gPost g A ((fun (u : Unit) => [(xx, .inr (1, [.int f0, .int r, .ref (a 2), .ref (a 3), .int d, .ref (a 5), .ref (a 6), .ref (a 7), .ref (a 8), .ref (a 9), .int 0, .ref (a 11), .ref (a 12), .ref (a 13), .ref (a 14), .int e15, .int 0, .ref (a 17), .int e18, .int 0]))]) u) t9) A) (cc := cX1_forgetFindings) (maxL := 1) (ret := none) (by decide) rfl (Nat.le_of_ble_eq_true rfl) ?_
  intro p e s m below meth c A ls hx hb hr hml hown hts hlocks hnm hA hK hE hP hD hS hl
  have hl : lv_has ls 1 [(0, .ref xx)] := hl
  have hown : s.vm.findClass RX1 = some m.cls := hown
  have hP : va_P g.1 vwCl [(xx, .inr (1, [.int f0, .int r, .ref (a 2), .ref (a 3), .int d, .ref (a 5), .ref (a 6), .ref (a 7), .ref (a 8), .ref (a 9), .int 0, .ref (a 11), .ref (a 12), .ref (a 13), .ref (a 14), .int e15, .int e16, .ref (a 17), .int e18, .int e19]))] s.heap := hP
  have hinX1 : ∀ w ∈ u_ws RX1 TX1 20, w ∈ wsX1_forgetFindings := by decide +kernel
  refine lv_aload_n hx hb dX1_forgetFindings_0 rfl (lv_at hl 0 rfl) ?_
  refine lv_iconst (v := 0) hx hb dX1_forgetFindings_1 (by decide) ?_
  refine va_put (D := g.1) (ci := 1) (v := .int 0) (ty := .boolean) (C := RX1) (T := TX1) (N := 20) hx hb hts hinX1 tyX1 tyX1_ok nmX1 hown hK hP hD hS 0 rfl rfl 16 (by decide) (hts (.fieldLink RX1 191 "DefaultReasoner" "extensionsKnown" "Z") (by decide +kernel)) (fun _ h9 => h9) rfl (by decide +kernel) rfl rfl (Nat.le_of_ble_eq_true rfl) dX1_forgetFindings_2 (fun H locs hP hD hS => ?_)
  have hP : va_P g.1 vwCl [(xx, .inr (1, [.int f0, .int r, .ref (a 2), .ref (a 3), .int d, .ref (a 5), .ref (a 6), .ref (a 7), .ref (a 8), .ref (a 9), .int 0, .ref (a 11), .ref (a 12), .ref (a 13), .ref (a 14), .int e15, .int 0, .ref (a 17), .int e18, .int e19]))] H := hP
  have hD : va_D A [(xx, .inr (1, [.int f0, .int r, .ref (a 2), .ref (a 3), .int d, .ref (a 5), .ref (a 6), .ref (a 7), .ref (a 8), .ref (a 9), .int 0, .ref (a 11), .ref (a 12), .ref (a 13), .ref (a 14), .int e15, .int 0, .ref (a 17), .int e18, .int e19]))] := hD
  refine lv_aload_n hx hb dX1_forgetFindings_5 rfl (lv_at hl 0 rfl) ?_
  refine lv_iconst (v := 0) hx hb dX1_forgetFindings_6 (by decide) ?_
  refine va_put (D := g.1) (ci := 1) (v := .int 0) (ty := .boolean) (C := RX1) (T := TX1) (N := 20) hx hb hts hinX1 tyX1 tyX1_ok nmX1 hown hK hP hD hS 0 rfl rfl 19 (by decide) (hts (.fieldLink RX1 106 "DefaultReasoner" "preferredKnown" "Z") (by decide +kernel)) (fun _ h9 => h9) rfl (by decide +kernel) rfl rfl (Nat.le_of_ble_eq_true rfl) dX1_forgetFindings_7 (fun H locs hP hD hS => ?_)
  have hP : va_P g.1 vwCl [(xx, .inr (1, [.int f0, .int r, .ref (a 2), .ref (a 3), .int d, .ref (a 5), .ref (a 6), .ref (a 7), .ref (a 8), .ref (a 9), .int 0, .ref (a 11), .ref (a 12), .ref (a 13), .ref (a 14), .int e15, .int 0, .ref (a 17), .int e18, .int 0]))] H := hP
  have hD : va_D A [(xx, .inr (1, [.int f0, .int r, .ref (a 2), .ref (a 3), .int d, .ref (a 5), .ref (a 6), .ref (a 7), .ref (a 8), .ref (a 9), .int 0, .ref (a 11), .ref (a 12), .ref (a 13), .ref (a 14), .int e15, .int 0, .ref (a 17), .int e18, .int 0]))] := hD
  exact g_vr hx hb hr hlocks hP hD hS () [0] rfl (by decide) rfl dX1_forgetFindings_10 (Nat.le_of_ble_eq_true rfl) (Nat.le_of_ble_eq_true rfl) (trivial)
set_option maxHeartbeats 4000000 in
set_option maxRecDepth 100000 in
theorem c_X1_complements (l : Launch) (g : gG) (sz : Nat) (x : Int32) : gMi l yX1_complements wsX1_complements ({ frames := 0, cells := 0, slots := 0, locals := 0 } : Room) g [.int x] [] sz (fun (r : Int32) (u : Unit) => r = gComp x) (fun (u : Unit) => []) 0 0 := by
  refine g_of (l := l) (y := yX1_complements) (wy := wsX1_complements) (rm := ({ frames := 0, cells := 0, slots := 0, locals := 0 } : Room)) (g := g) (av := [.int x]) (ws := []) (sz := sz) (mc := 0) (ms := 0) (Qc := fun A => va_Qi (fun (r : Int32) (u : Unit) => r = gComp x) (fun u t9 => gPost g A ((fun (u : Unit) => []) u) t9) A) (cc := cX1_complements) (maxL := 1) (ret := some .int) (by decide) rfl (Nat.le_of_ble_eq_true rfl) ?_
  intro p e s m below meth c A ls hx hb hr hml hown hts hlocks hnm hA hK hE hP hD hS hl
  have hl : lv_has ls 1 [(0, .int x)] := hl
  have hown : s.vm.findClass RX1 = some m.cls := hown
  have hP : va_P g.1 vwCl [] s.heap := hP
  refine lv_iload_n hx hb dX1_complements_0 rfl (lv_at hl 0 rfl) ?_
  refine lv_sipush (v := 255) hx hb dX1_complements_1 (by decide) ?_
  refine lv_iand hx hb dX1_complements_4 ?_
  refine lv_topi (fun v1 ev1 => ?_)
  refine lv_bipush (v := 8) hx hb dX1_complements_5 (by decide) ?_
  refine lv_ishl hx hb dX1_complements_7 ?_
  refine lv_topi (fun v2 ev2 => ?_)
  refine lv_iload_n hx hb dX1_complements_8 rfl (lv_at hl 0 rfl) ?_
  refine lv_bipush (v := 8) hx hb dX1_complements_9 (by decide) ?_
  refine lv_iushr hx hb dX1_complements_11 rfl ?_
  refine lv_topi (fun v3 ev3 => ?_)
  refine lv_sipush (v := 255) hx hb dX1_complements_12 (by decide) ?_
  refine lv_iand hx hb dX1_complements_15 ?_
  refine lv_topi (fun v4 ev4 => ?_)
  refine lv_ior hx hb dX1_complements_16 ?_
  refine lv_topi (fun v5 ev5 => ?_)
  exact g_ir hx hb hr hlocks hP hD hS () [] rfl (by decide) rfl dX1_complements_17 (Nat.le_of_ble_eq_true rfl) (Nat.le_of_ble_eq_true rfl) (by subst ev1; subst ev2; subst ev3; subst ev4; subst ev5; rfl)
set_option maxHeartbeats 4000000 in
set_option maxRecDepth 100000 in
theorem c_X1_closeUp (l : Launch) (g : gG) (sz : Nat) (xx : Nat) (a : Nat → Nat) (e15 e16 e18 e19 : Int32) (x : Int32) : gMi l yX1_closeUp wsX1_closeUp ({ frames := 1, cells := 0, slots := 0, locals := 20 } : Room) g [.ref xx, .int x] [(xx, .inr (1, [.int 0, .int 0, .ref (a 2), .ref (a 3), .int 0, .ref (a 5), .ref (a 6), .ref (a 7), .ref (a 8), .ref (a 9), .int 0, .ref (a 11), .ref (a 12), .ref (a 13), .ref (a 14), .int e15, .int e16, .ref (a 17), .int e18, .int e19]))] sz (fun (r : Int32) (u : Unit) => r = gClo x) (fun (u : Unit) => [(xx, .inr (1, [.int 0, .int 0, .ref (a 2), .ref (a 3), .int 0, .ref (a 5), .ref (a 6), .ref (a 7), .ref (a 8), .ref (a 9), .int 0, .ref (a 11), .ref (a 12), .ref (a 13), .ref (a 14), .int e15, .int e16, .ref (a 17), .int e18, .int e19]))]) 0 0 := by
  refine g_of (l := l) (y := yX1_closeUp) (wy := wsX1_closeUp) (rm := ({ frames := 1, cells := 0, slots := 0, locals := 20 } : Room)) (g := g) (av := [.ref xx, .int x]) (ws := [(xx, .inr (1, [.int 0, .int 0, .ref (a 2), .ref (a 3), .int 0, .ref (a 5), .ref (a 6), .ref (a 7), .ref (a 8), .ref (a 9), .int 0, .ref (a 11), .ref (a 12), .ref (a 13), .ref (a 14), .int e15, .int e16, .ref (a 17), .int e18, .int e19]))]) (sz := sz) (mc := 0) (ms := 0) (Qc := fun A => va_Qi (fun (r : Int32) (u : Unit) => r = gClo x) (fun u t9 => gPost g A ((fun (u : Unit) => [(xx, .inr (1, [.int 0, .int 0, .ref (a 2), .ref (a 3), .int 0, .ref (a 5), .ref (a 6), .ref (a 7), .ref (a 8), .ref (a 9), .int 0, .ref (a 11), .ref (a 12), .ref (a 13), .ref (a 14), .int e15, .int e16, .ref (a 17), .int e18, .int e19]))]) u) t9) A) (cc := cX1_closeUp) (maxL := 6) (ret := some .int) (by decide) rfl (Nat.le_of_ble_eq_true rfl) ?_
  intro p e s m below meth c A ls hx hb hr hml hown hts hlocks hnm hA hK hE hP hD hS hl
  have hl : lv_has ls 6 [(0, .ref xx), (1, .int x)] := hl
  have hown : s.vm.findClass RX1 = some m.cls := hown
  have hP : va_P g.1 vwCl [(xx, .inr (1, [.int 0, .int 0, .ref (a 2), .ref (a 3), .int 0, .ref (a 5), .ref (a 6), .ref (a 7), .ref (a 8), .ref (a 9), .int 0, .ref (a 11), .ref (a 12), .ref (a 13), .ref (a 14), .int e15, .int e16, .ref (a 17), .int e18, .int e19]))] s.heap := hP
  have hinX1 : ∀ w ∈ u_ws RX1 TX1 20, w ∈ wsX1_closeUp := by decide +kernel
  refine lv_iload_n hx hb dX1_closeUp_0 rfl (lv_at hl 1 rfl) ?_
  refine lv_istore_n (lv' := [(2, .int x), (0, .ref xx), (1, .int x)]) hx hb dX1_closeUp_1 rfl hl (by decide) rfl (fun ls hl => ?_)
  refine lv_iconst (v := 0) hx hb dX1_closeUp_2 (by decide) ?_
  refine lv_istore_n (lv' := [(3, .int 0), (2, .int x), (0, .ref xx), (1, .int x)]) hx hb dX1_closeUp_3 rfl hl (by decide) rfl (fun ls hl => ?_)
  refine lv_iload_n hx hb dX1_closeUp_4 rfl (lv_at hl 0 rfl) ?_
  refine lv_bipush (v := 16) hx hb dX1_closeUp_5 (by decide) ?_
  refine lv_icmp_gt (tgt := 72) hx hb dX1_closeUp_7 (by decide) (fun c9 => absurd c9 (by decide)) (fun _ => ?_)
  refine lv_iload_n hx hb dX1_closeUp_10 rfl (lv_at hl 1 rfl) ?_
  refine lv_istore (lv' := [(4, .int x), (3, .int 0), (2, .int x), (0, .ref xx), (1, .int x)]) hx hb dX1_closeUp_11 hl (by decide) rfl (fun ls hl => ?_)
  refine lv_iconst (v := 0) hx hb dX1_closeUp_13 (by decide) ?_
  refine lv_istore (lv' := [(5, .int 0), (4, .int x), (3, .int 0), (2, .int x), (0, .ref xx), (1, .int x)]) hx hb dX1_closeUp_14 hl (by decide) rfl (fun ls hl => ?_)
  refine lv_iload hx hb dX1_closeUp_16 (lv_at hl 0 rfl) ?_
  refine lv_aload_n hx hb dX1_closeUp_18 rfl (lv_at hl 4 rfl) ?_
  refine va_get (D := g.1) (ci := 1) (v := .int 0) (C := RX1) (T := TX1) (N := 20) hx hb hts hinX1 hown hK hP 0 rfl rfl 1 (by decide) (hts (.fieldLink RX1 69 "DefaultReasoner" "ruleTotal" "I") (by decide +kernel)) (fun _ h9 => h9) rfl dX1_closeUp_19 ?_
  refine lv_icmp_ge (tgt := 57) hx hb dX1_closeUp_22 (by decide) (fun _ => ?_) (fun c9 => absurd (by decide) c9)
  refine lv_iload_n hx hb dX1_closeUp_57 rfl (lv_at hl 3 rfl) ?_
  refine lv_iload hx hb dX1_closeUp_58 (lv_at hl 1 rfl) ?_
  refine lv_icmp_ne (tgt := 66) hx hb dX1_closeUp_60 (by decide) (fun c9 => absurd rfl c9) (fun _ => ?_)
  refine lv_goto (tgt := 72) hx hb dX1_closeUp_63 (by decide) ?_
  refine lv_iload_n hx hb dX1_closeUp_72 rfl (lv_at hl 3 rfl) ?_
  refine lv_iload_n hx hb dX1_closeUp_73 rfl (lv_at hl 3 rfl) ?_
  refine gj_i (wc := []) (wr := [(xx, .inr (1, [.int 0, .int 0, .ref (a 2), .ref (a 3), .int 0, .ref (a 5), .ref (a 6), .ref (a 7), .ref (a 8), .ref (a 9), .int 0, .ref (a 11), .ref (a 12), .ref (a 13), .ref (a 14), .int e15, .int e16, .ref (a 17), .int e18, .int e19]))]) (gr_S (n := 1) ⟨hx, hb, hml, hown, hts⟩ (c_X1_complements l g s.heap.size x) gX1_closeUp_X1_complements rfl rfl rfl (by decide +kernel) ⟨Nat.le_of_ble_eq_true rfl, Nat.le_of_ble_eq_true rfl⟩ (gp_S hK hE hA hP hD hS [] rfl (by decide) rfl) rfl hl.1 rfl (Nat.le_of_ble_eq_true rfl) dX1_closeUp_74 ⟨Nat.le_of_ble_eq_true rfl, Nat.le_of_ble_eq_true rfl⟩) hP hD hS hA [] [0] rfl rfl (by decide) (by decide) (fun r1 u1 H locs hp1 hP hD hS => ?_)
  have hP : va_P g.1 vwCl [(xx, .inr (1, [.int 0, .int 0, .ref (a 2), .ref (a 3), .int 0, .ref (a 5), .ref (a 6), .ref (a 7), .ref (a 8), .ref (a 9), .int 0, .ref (a 11), .ref (a 12), .ref (a 13), .ref (a 14), .int e15, .int e16, .ref (a 17), .int e18, .int e19]))] H := hP
  have hD : va_D A [(xx, .inr (1, [.int 0, .int 0, .ref (a 2), .ref (a 3), .int 0, .ref (a 5), .ref (a 6), .ref (a 7), .ref (a 8), .ref (a 9), .int 0, .ref (a 11), .ref (a 12), .ref (a 13), .ref (a 14), .int e15, .int e16, .ref (a 17), .int e18, .int e19]))] := hD
  have hp1 : r1 = gComp x := hp1
  subst hp1
  refine lv_iand hx hb dX1_closeUp_77 ?_
  refine lv_topi (fun v2 ev2 => ?_)
  refine lv_if_eq (tgt := 86) hx hb dX1_closeUp_78 (by decide) (fun c78 => ?_) (fun c78 => ?_)
  · refine lv_iload_n hx hb dX1_closeUp_86 rfl (lv_at hl 3 rfl) ?_
    exact g_ir hx hb hr hlocks hP hD hS () [0] rfl (by decide) rfl dX1_closeUp_87 (Nat.le_of_ble_eq_true rfl) (Nat.le_of_ble_eq_true rfl) (by subst ev2; unfold gClo; rw [if_pos c78])
  · refine lv_ldc (v := 65535) hx hb hown (hts (.constant RX1 142 (65535)) (by decide +kernel)) dX1_closeUp_81 ?_
    refine lv_goto (tgt := 87) hx hb dX1_closeUp_83 (by decide) ?_
    exact g_ir hx hb hr hlocks hP hD hS () [0] rfl (by decide) rfl dX1_closeUp_87 (Nat.le_of_ble_eq_true rfl) (Nat.le_of_ble_eq_true rfl) (by subst ev2; unfold gClo; rw [if_neg c78])
set_option maxHeartbeats 4000000 in
set_option maxRecDepth 100000 in
theorem c_X1_conclusionsOf (l : Launch) (g : gG) (sz : Nat) (xx : Nat) (a : Nat → Nat) (e15 e16 e18 e19 : Int32) (x : Int32) : gMi l yX1_conclusionsOf wsX1_conclusionsOf ({ frames := 0, cells := 0, slots := 0, locals := 0 } : Room) g [.ref xx, .int x] [(xx, .inr (1, [.int 0, .int 0, .ref (a 2), .ref (a 3), .int 0, .ref (a 5), .ref (a 6), .ref (a 7), .ref (a 8), .ref (a 9), .int 0, .ref (a 11), .ref (a 12), .ref (a 13), .ref (a 14), .int e15, .int e16, .ref (a 17), .int e18, .int e19]))] sz (fun (r : Int32) (u : Unit) => r = 0) (fun (u : Unit) => [(xx, .inr (1, [.int 0, .int 0, .ref (a 2), .ref (a 3), .int 0, .ref (a 5), .ref (a 6), .ref (a 7), .ref (a 8), .ref (a 9), .int 0, .ref (a 11), .ref (a 12), .ref (a 13), .ref (a 14), .int e15, .int e16, .ref (a 17), .int e18, .int e19]))]) 0 0 := by
  refine g_of (l := l) (y := yX1_conclusionsOf) (wy := wsX1_conclusionsOf) (rm := ({ frames := 0, cells := 0, slots := 0, locals := 0 } : Room)) (g := g) (av := [.ref xx, .int x]) (ws := [(xx, .inr (1, [.int 0, .int 0, .ref (a 2), .ref (a 3), .int 0, .ref (a 5), .ref (a 6), .ref (a 7), .ref (a 8), .ref (a 9), .int 0, .ref (a 11), .ref (a 12), .ref (a 13), .ref (a 14), .int e15, .int e16, .ref (a 17), .int e18, .int e19]))]) (sz := sz) (mc := 0) (ms := 0) (Qc := fun A => va_Qi (fun (r : Int32) (u : Unit) => r = 0) (fun u t9 => gPost g A ((fun (u : Unit) => [(xx, .inr (1, [.int 0, .int 0, .ref (a 2), .ref (a 3), .int 0, .ref (a 5), .ref (a 6), .ref (a 7), .ref (a 8), .ref (a 9), .int 0, .ref (a 11), .ref (a 12), .ref (a 13), .ref (a 14), .int e15, .int e16, .ref (a 17), .int e18, .int e19]))]) u) t9) A) (cc := cX1_conclusionsOf) (maxL := 4) (ret := some .int) (by decide) rfl (Nat.le_of_ble_eq_true rfl) ?_
  intro p e s m below meth c A ls hx hb hr hml hown hts hlocks hnm hA hK hE hP hD hS hl
  have hl : lv_has ls 4 [(0, .ref xx), (1, .int x)] := hl
  have hown : s.vm.findClass RX1 = some m.cls := hown
  have hP : va_P g.1 vwCl [(xx, .inr (1, [.int 0, .int 0, .ref (a 2), .ref (a 3), .int 0, .ref (a 5), .ref (a 6), .ref (a 7), .ref (a 8), .ref (a 9), .int 0, .ref (a 11), .ref (a 12), .ref (a 13), .ref (a 14), .int e15, .int e16, .ref (a 17), .int e18, .int e19]))] s.heap := hP
  have hinX1 : ∀ w ∈ u_ws RX1 TX1 20, w ∈ wsX1_conclusionsOf := by decide +kernel
  refine lv_iconst (v := 0) hx hb dX1_conclusionsOf_0 (by decide) ?_
  refine lv_istore_n (lv' := [(2, .int 0), (0, .ref xx), (1, .int x)]) hx hb dX1_conclusionsOf_1 rfl hl (by decide) rfl (fun ls hl => ?_)
  refine lv_iconst (v := 0) hx hb dX1_conclusionsOf_2 (by decide) ?_
  refine lv_istore_n (lv' := [(3, .int 0), (2, .int 0), (0, .ref xx), (1, .int x)]) hx hb dX1_conclusionsOf_3 rfl hl (by decide) rfl (fun ls hl => ?_)
  refine lv_iload_n hx hb dX1_conclusionsOf_4 rfl (lv_at hl 0 rfl) ?_
  refine lv_aload_n hx hb dX1_conclusionsOf_5 rfl (lv_at hl 2 rfl) ?_
  refine va_get (D := g.1) (ci := 1) (v := .int 0) (C := RX1) (T := TX1) (N := 20) hx hb hts hinX1 hown hK hP 0 rfl rfl 4 (by decide) (hts (.fieldLink RX1 79 "DefaultReasoner" "defaultTotal" "I") (by decide +kernel)) (fun _ h9 => h9) rfl dX1_conclusionsOf_6 ?_
  refine lv_icmp_ge (tgt := 37) hx hb dX1_conclusionsOf_9 (by decide) (fun _ => ?_) (fun c9 => absurd (by decide) c9)
  refine lv_iload_n hx hb dX1_conclusionsOf_37 rfl (lv_at hl 1 rfl) ?_
  exact g_ir hx hb hr hlocks hP hD hS () [0] rfl (by decide) rfl dX1_conclusionsOf_38 (Nat.le_of_ble_eq_true rfl) (Nat.le_of_ble_eq_true rfl) (rfl)
set_option maxHeartbeats 4000000 in
set_option maxRecDepth 100000 in
theorem c_X1_usableFor (l : Launch) (g : gG) (sz : Nat) (xx : Nat) (a : Nat → Nat) (e15 e16 e18 e19 : Int32) (x : Int32) : gMi l yX1_usableFor wsX1_usableFor ({ frames := 0, cells := 0, slots := 0, locals := 0 } : Room) g [.ref xx, .int x] [(xx, .inr (1, [.int 0, .int 0, .ref (a 2), .ref (a 3), .int 0, .ref (a 5), .ref (a 6), .ref (a 7), .ref (a 8), .ref (a 9), .int 0, .ref (a 11), .ref (a 12), .ref (a 13), .ref (a 14), .int e15, .int e16, .ref (a 17), .int e18, .int e19]))] sz (fun (r : Int32) (u : Unit) => r = 0) (fun (u : Unit) => [(xx, .inr (1, [.int 0, .int 0, .ref (a 2), .ref (a 3), .int 0, .ref (a 5), .ref (a 6), .ref (a 7), .ref (a 8), .ref (a 9), .int 0, .ref (a 11), .ref (a 12), .ref (a 13), .ref (a 14), .int e15, .int e16, .ref (a 17), .int e18, .int e19]))]) 0 0 := by
  refine g_of (l := l) (y := yX1_usableFor) (wy := wsX1_usableFor) (rm := ({ frames := 0, cells := 0, slots := 0, locals := 0 } : Room)) (g := g) (av := [.ref xx, .int x]) (ws := [(xx, .inr (1, [.int 0, .int 0, .ref (a 2), .ref (a 3), .int 0, .ref (a 5), .ref (a 6), .ref (a 7), .ref (a 8), .ref (a 9), .int 0, .ref (a 11), .ref (a 12), .ref (a 13), .ref (a 14), .int e15, .int e16, .ref (a 17), .int e18, .int e19]))]) (sz := sz) (mc := 0) (ms := 0) (Qc := fun A => va_Qi (fun (r : Int32) (u : Unit) => r = 0) (fun u t9 => gPost g A ((fun (u : Unit) => [(xx, .inr (1, [.int 0, .int 0, .ref (a 2), .ref (a 3), .int 0, .ref (a 5), .ref (a 6), .ref (a 7), .ref (a 8), .ref (a 9), .int 0, .ref (a 11), .ref (a 12), .ref (a 13), .ref (a 14), .int e15, .int e16, .ref (a 17), .int e18, .int e19]))]) u) t9) A) (cc := cX1_usableFor) (maxL := 4) (ret := some .int) (by decide) rfl (Nat.le_of_ble_eq_true rfl) ?_
  intro p e s m below meth c A ls hx hb hr hml hown hts hlocks hnm hA hK hE hP hD hS hl
  have hl : lv_has ls 4 [(0, .ref xx), (1, .int x)] := hl
  have hown : s.vm.findClass RX1 = some m.cls := hown
  have hP : va_P g.1 vwCl [(xx, .inr (1, [.int 0, .int 0, .ref (a 2), .ref (a 3), .int 0, .ref (a 5), .ref (a 6), .ref (a 7), .ref (a 8), .ref (a 9), .int 0, .ref (a 11), .ref (a 12), .ref (a 13), .ref (a 14), .int e15, .int e16, .ref (a 17), .int e18, .int e19]))] s.heap := hP
  have hinX1 : ∀ w ∈ u_ws RX1 TX1 20, w ∈ wsX1_usableFor := by decide +kernel
  refine lv_iconst (v := 0) hx hb dX1_usableFor_0 (by decide) ?_
  refine lv_istore_n (lv' := [(2, .int 0), (0, .ref xx), (1, .int x)]) hx hb dX1_usableFor_1 rfl hl (by decide) rfl (fun ls hl => ?_)
  refine lv_iconst (v := 0) hx hb dX1_usableFor_2 (by decide) ?_
  refine lv_istore_n (lv' := [(3, .int 0), (2, .int 0), (0, .ref xx), (1, .int x)]) hx hb dX1_usableFor_3 rfl hl (by decide) rfl (fun ls hl => ?_)
  refine lv_iload_n hx hb dX1_usableFor_4 rfl (lv_at hl 0 rfl) ?_
  refine lv_aload_n hx hb dX1_usableFor_5 rfl (lv_at hl 2 rfl) ?_
  refine va_get (D := g.1) (ci := 1) (v := .int 0) (C := RX1) (T := TX1) (N := 20) hx hb hts hinX1 hown hK hP 0 rfl rfl 4 (by decide) (hts (.fieldLink RX1 79 "DefaultReasoner" "defaultTotal" "I") (by decide +kernel)) (fun _ h9 => h9) rfl dX1_usableFor_6 ?_
  refine lv_icmp_ge (tgt := 59) hx hb dX1_usableFor_9 (by decide) (fun _ => ?_) (fun c9 => absurd (by decide) c9)
  refine lv_iload_n hx hb dX1_usableFor_59 rfl (lv_at hl 1 rfl) ?_
  exact g_ir hx hb hr hlocks hP hD hS () [0] rfl (by decide) rfl dX1_usableFor_60 (Nat.le_of_ble_eq_true rfl) (Nat.le_of_ble_eq_true rfl) (rfl)
set_option maxHeartbeats 4000000 in
set_option maxRecDepth 100000 in
theorem c_X1_generatorsFor (l : Launch) (g : gG) (sz : Nat) (xx : Nat) (a : Nat → Nat) (e15 e16 e18 e19 : Int32) (x : Int32) : gMi l yX1_generatorsFor wsX1_generatorsFor ({ frames := 0, cells := 0, slots := 0, locals := 0 } : Room) g [.ref xx, .int x] [(xx, .inr (1, [.int 0, .int 0, .ref (a 2), .ref (a 3), .int 0, .ref (a 5), .ref (a 6), .ref (a 7), .ref (a 8), .ref (a 9), .int 0, .ref (a 11), .ref (a 12), .ref (a 13), .ref (a 14), .int e15, .int e16, .ref (a 17), .int e18, .int e19]))] sz (fun (r : Int32) (u : Unit) => r = 0) (fun (u : Unit) => [(xx, .inr (1, [.int 0, .int 0, .ref (a 2), .ref (a 3), .int 0, .ref (a 5), .ref (a 6), .ref (a 7), .ref (a 8), .ref (a 9), .int 0, .ref (a 11), .ref (a 12), .ref (a 13), .ref (a 14), .int e15, .int e16, .ref (a 17), .int e18, .int e19]))]) 0 0 := by
  refine g_of (l := l) (y := yX1_generatorsFor) (wy := wsX1_generatorsFor) (rm := ({ frames := 0, cells := 0, slots := 0, locals := 0 } : Room)) (g := g) (av := [.ref xx, .int x]) (ws := [(xx, .inr (1, [.int 0, .int 0, .ref (a 2), .ref (a 3), .int 0, .ref (a 5), .ref (a 6), .ref (a 7), .ref (a 8), .ref (a 9), .int 0, .ref (a 11), .ref (a 12), .ref (a 13), .ref (a 14), .int e15, .int e16, .ref (a 17), .int e18, .int e19]))]) (sz := sz) (mc := 0) (ms := 0) (Qc := fun A => va_Qi (fun (r : Int32) (u : Unit) => r = 0) (fun u t9 => gPost g A ((fun (u : Unit) => [(xx, .inr (1, [.int 0, .int 0, .ref (a 2), .ref (a 3), .int 0, .ref (a 5), .ref (a 6), .ref (a 7), .ref (a 8), .ref (a 9), .int 0, .ref (a 11), .ref (a 12), .ref (a 13), .ref (a 14), .int e15, .int e16, .ref (a 17), .int e18, .int e19]))]) u) t9) A) (cc := cX1_generatorsFor) (maxL := 6) (ret := some .int) (by decide) rfl (Nat.le_of_ble_eq_true rfl) ?_
  intro p e s m below meth c A ls hx hb hr hml hown hts hlocks hnm hA hK hE hP hD hS hl
  have hl : lv_has ls 6 [(0, .ref xx), (1, .int x)] := hl
  have hown : s.vm.findClass RX1 = some m.cls := hown
  have hP : va_P g.1 vwCl [(xx, .inr (1, [.int 0, .int 0, .ref (a 2), .ref (a 3), .int 0, .ref (a 5), .ref (a 6), .ref (a 7), .ref (a 8), .ref (a 9), .int 0, .ref (a 11), .ref (a 12), .ref (a 13), .ref (a 14), .int e15, .int e16, .ref (a 17), .int e18, .int e19]))] s.heap := hP
  have hinX1 : ∀ w ∈ u_ws RX1 TX1 20, w ∈ wsX1_generatorsFor := by decide +kernel
  refine lv_iconst (v := 0) hx hb dX1_generatorsFor_0 (by decide) ?_
  refine lv_istore_n (lv' := [(2, .int 0), (0, .ref xx), (1, .int x)]) hx hb dX1_generatorsFor_1 rfl hl (by decide) rfl (fun ls hl => ?_)
  refine lv_iconst (v := 0) hx hb dX1_generatorsFor_2 (by decide) ?_
  refine lv_istore_n (lv' := [(3, .int 0), (2, .int 0), (0, .ref xx), (1, .int x)]) hx hb dX1_generatorsFor_3 rfl hl (by decide) rfl (fun ls hl => ?_)
  refine lv_iload_n hx hb dX1_generatorsFor_4 rfl (lv_at hl 0 rfl) ?_
  refine lv_aload_n hx hb dX1_generatorsFor_5 rfl (lv_at hl 2 rfl) ?_
  refine va_get (D := g.1) (ci := 1) (v := .int 0) (C := RX1) (T := TX1) (N := 20) hx hb hts hinX1 hown hK hP 0 rfl rfl 4 (by decide) (hts (.fieldLink RX1 79 "DefaultReasoner" "defaultTotal" "I") (by decide +kernel)) (fun _ h9 => h9) rfl dX1_generatorsFor_6 ?_
  refine lv_icmp_gt (tgt := 84) hx hb dX1_generatorsFor_9 (by decide) (fun c9 => absurd c9 (by decide)) (fun _ => ?_)
  refine lv_iload_n hx hb dX1_generatorsFor_12 rfl (lv_at hl 1 rfl) ?_
  refine lv_istore (lv' := [(4, .int 0), (3, .int 0), (2, .int 0), (0, .ref xx), (1, .int x)]) hx hb dX1_generatorsFor_13 hl (by decide) rfl (fun ls hl => ?_)
  refine lv_iconst (v := 0) hx hb dX1_generatorsFor_15 (by decide) ?_
  refine lv_istore (lv' := [(5, .int 0), (4, .int 0), (3, .int 0), (2, .int 0), (0, .ref xx), (1, .int x)]) hx hb dX1_generatorsFor_16 hl (by decide) rfl (fun ls hl => ?_)
  refine lv_iload hx hb dX1_generatorsFor_18 (lv_at hl 0 rfl) ?_
  refine lv_aload_n hx hb dX1_generatorsFor_20 rfl (lv_at hl 4 rfl) ?_
  refine va_get (D := g.1) (ci := 1) (v := .int 0) (C := RX1) (T := TX1) (N := 20) hx hb hts hinX1 hown hK hP 0 rfl rfl 4 (by decide) (hts (.fieldLink RX1 79 "DefaultReasoner" "defaultTotal" "I") (by decide +kernel)) (fun _ h9 => h9) rfl dX1_generatorsFor_21 ?_
  refine lv_icmp_ge (tgt := 69) hx hb dX1_generatorsFor_24 (by decide) (fun _ => ?_) (fun c9 => absurd (by decide) c9)
  refine lv_iload_n hx hb dX1_generatorsFor_69 rfl (lv_at hl 3 rfl) ?_
  refine lv_iload hx hb dX1_generatorsFor_70 (lv_at hl 1 rfl) ?_
  refine lv_icmp_ne (tgt := 78) hx hb dX1_generatorsFor_72 (by decide) (fun c9 => absurd (by decide) c9) (fun _ => ?_)
  refine lv_goto (tgt := 84) hx hb dX1_generatorsFor_75 (by decide) ?_
  refine lv_iload_n hx hb dX1_generatorsFor_84 rfl (lv_at hl 3 rfl) ?_
  exact g_ir hx hb hr hlocks hP hD hS () [0] rfl (by decide) rfl dX1_generatorsFor_85 (Nat.le_of_ble_eq_true rfl) (Nat.le_of_ble_eq_true rfl) (rfl)
set_option maxHeartbeats 4000000 in
set_option maxRecDepth 100000 in
theorem c_X1_insertExtension (l : Launch) (g : gG) (sz : Nat) (xx : Nat) (a : Nat → Nat) : gMv l yX1_insertExtension wsX1_insertExtension ({ frames := 0, cells := 0, slots := 0, locals := 0 } : Room) g [.ref xx, .int 0] [(xx, .inr (1, [.int 0, .int 0, .ref (a 2), .ref (a 3), .int 0, .ref (a 5), .ref (a 6), .ref (a 7), .ref (a 8), .ref (a 9), .int 0, .ref (a 11), .ref (a 12), .ref (a 13), .ref (a 14), .int 0, .int 0, .ref (a 17), .int 0, .int 0])), ((a 14), .inl (g.2.1.1, 64, .inl (fun _ => 0)))] sz (fun (u : Unit) => True) (fun (u : Unit) => [(xx, .inr (1, [.int 0, .int 0, .ref (a 2), .ref (a 3), .int 0, .ref (a 5), .ref (a 6), .ref (a 7), .ref (a 8), .ref (a 9), .int 0, .ref (a 11), .ref (a 12), .ref (a 13), .ref (a 14), .int 1, .int 0, .ref (a 17), .int 0, .int 0])), ((a 14), .inl (g.2.1.1, 64, .inl (upd (fun _ => 0) 0 0)))]) 0 0 := by
  refine g_of (l := l) (y := yX1_insertExtension) (wy := wsX1_insertExtension) (rm := ({ frames := 0, cells := 0, slots := 0, locals := 0 } : Room)) (g := g) (av := [.ref xx, .int 0]) (ws := [(xx, .inr (1, [.int 0, .int 0, .ref (a 2), .ref (a 3), .int 0, .ref (a 5), .ref (a 6), .ref (a 7), .ref (a 8), .ref (a 9), .int 0, .ref (a 11), .ref (a 12), .ref (a 13), .ref (a 14), .int 0, .int 0, .ref (a 17), .int 0, .int 0])), ((a 14), .inl (g.2.1.1, 64, .inl (fun _ => 0)))]) (sz := sz) (mc := 0) (ms := 0) (Qc := fun A => va_Qv (fun (u : Unit) => True) (fun u t9 => gPost g A ((fun (u : Unit) => [(xx, .inr (1, [.int 0, .int 0, .ref (a 2), .ref (a 3), .int 0, .ref (a 5), .ref (a 6), .ref (a 7), .ref (a 8), .ref (a 9), .int 0, .ref (a 11), .ref (a 12), .ref (a 13), .ref (a 14), .int 1, .int 0, .ref (a 17), .int 0, .int 0])), ((a 14), .inl (g.2.1.1, 64, .inl (upd (fun _ => 0) 0 0)))]) u) t9) A) (cc := cX1_insertExtension) (maxL := 3) (ret := none) (by decide) rfl (Nat.le_of_ble_eq_true rfl) ?_
  intro p e s m below meth c A ls hx hb hr hml hown hts hlocks hnm hA hK hE hP hD hS hl
  have hl : lv_has ls 3 [(0, .ref xx), (1, .int 0)] := hl
  have hown : s.vm.findClass RX1 = some m.cls := hown
  have hP : va_P g.1 vwCl [(xx, .inr (1, [.int 0, .int 0, .ref (a 2), .ref (a 3), .int 0, .ref (a 5), .ref (a 6), .ref (a 7), .ref (a 8), .ref (a 9), .int 0, .ref (a 11), .ref (a 12), .ref (a 13), .ref (a 14), .int 0, .int 0, .ref (a 17), .int 0, .int 0])), ((a 14), .inl (g.2.1.1, 64, .inl (fun _ => 0)))] s.heap := hP
  have hinX1 : ∀ w ∈ u_ws RX1 TX1 20, w ∈ wsX1_insertExtension := by decide +kernel
  refine lv_aload_n hx hb dX1_insertExtension_0 rfl (lv_at hl 0 rfl) ?_
  refine va_get (D := g.1) (ci := 1) (v := .int 0) (C := RX1) (T := TX1) (N := 20) hx hb hts hinX1 hown hK hP 0 rfl rfl 15 (by decide) (hts (.fieldLink RX1 130 "DefaultReasoner" "extensionTotal" "I") (by decide +kernel)) (fun _ h9 => h9) rfl dX1_insertExtension_1 ?_
  refine lv_bipush (v := 64) hx hb dX1_insertExtension_4 (by decide) ?_
  refine lv_icmp_lt (tgt := 10) hx hb dX1_insertExtension_6 (by decide) (fun _ => ?_) (fun c9 => absurd (by decide) c9)
  refine lv_aload_n hx hb dX1_insertExtension_10 rfl (lv_at hl 0 rfl) ?_
  refine va_get (D := g.1) (ci := 1) (v := .int 0) (C := RX1) (T := TX1) (N := 20) hx hb hts hinX1 hown hK hP 0 rfl rfl 15 (by decide) (hts (.fieldLink RX1 130 "DefaultReasoner" "extensionTotal" "I") (by decide +kernel)) (fun _ h9 => h9) rfl dX1_insertExtension_11 ?_
  refine lv_istore_n (lv' := [(2, .int 0), (0, .ref xx), (1, .int 0)]) hx hb dX1_insertExtension_14 rfl hl (by decide) rfl (fun ls hl => ?_)
  refine lv_iload_n hx hb dX1_insertExtension_15 rfl (lv_at hl 0 rfl) ?_
  refine lv_if_le (tgt := 51) hx hb dX1_insertExtension_16 (by decide) (fun _ => ?_) (fun c9 => absurd (by decide) c9)
  refine lv_aload_n hx hb dX1_insertExtension_51 rfl (lv_at hl 1 rfl) ?_
  refine va_get (D := g.1) (ci := 1) (v := .ref (a 14)) (C := RX1) (T := TX1) (N := 20) hx hb hts hinX1 hown hK hP 0 rfl rfl 14 (by decide) (hts (.fieldLink RX1 44 "DefaultReasoner" "extensions" "[I") (by decide +kernel)) (fun _ h9 => h9) rfl dX1_insertExtension_52 ?_
  refine lv_iload_n hx hb dX1_insertExtension_55 rfl (lv_at hl 0 rfl) ?_
  refine lv_iload_n hx hb dX1_insertExtension_56 rfl (lv_at hl 2 rfl) ?_
  refine va_iast hx hb hK hP hD hS 1 0 rfl rfl (by unfold vp_in; decide) dX1_insertExtension_57 (fun H locs hP hD hS => ?_)
  have hP : va_P g.1 vwCl [(xx, .inr (1, [.int 0, .int 0, .ref (a 2), .ref (a 3), .int 0, .ref (a 5), .ref (a 6), .ref (a 7), .ref (a 8), .ref (a 9), .int 0, .ref (a 11), .ref (a 12), .ref (a 13), .ref (a 14), .int 0, .int 0, .ref (a 17), .int 0, .int 0])), ((a 14), .inl (g.2.1.1, 64, .inl (upd (fun _ => 0) 0 0)))] H := hP
  have hD : va_D A [(xx, .inr (1, [.int 0, .int 0, .ref (a 2), .ref (a 3), .int 0, .ref (a 5), .ref (a 6), .ref (a 7), .ref (a 8), .ref (a 9), .int 0, .ref (a 11), .ref (a 12), .ref (a 13), .ref (a 14), .int 0, .int 0, .ref (a 17), .int 0, .int 0])), ((a 14), .inl (g.2.1.1, 64, .inl (upd (fun _ => 0) 0 0)))] := hD
  refine lv_aload_n hx hb dX1_insertExtension_58 rfl (lv_at hl 1 rfl) ?_
  refine lv_dup hx hb dX1_insertExtension_59 rfl ?_
  refine va_get (D := g.1) (ci := 1) (v := .int 0) (C := RX1) (T := TX1) (N := 20) hx hb hts hinX1 hown hK hP 0 rfl rfl 15 (by decide) (hts (.fieldLink RX1 130 "DefaultReasoner" "extensionTotal" "I") (by decide +kernel)) (fun _ h9 => h9) rfl dX1_insertExtension_60 ?_
  refine lv_iconst (v := 1) hx hb dX1_insertExtension_63 (by decide) ?_
  refine lv_iadd hx hb dX1_insertExtension_64 ?_
  refine sy_i (y := 1) (by decide) ?_
  refine va_put (D := g.1) (ci := 1) (v := .int 1) (ty := .int) (C := RX1) (T := TX1) (N := 20) hx hb hts hinX1 tyX1 tyX1_ok nmX1 hown hK hP hD hS 0 rfl rfl 15 (by decide) (hts (.fieldLink RX1 130 "DefaultReasoner" "extensionTotal" "I") (by decide +kernel)) (fun _ h9 => h9) rfl (by decide +kernel) rfl rfl (Nat.le_of_ble_eq_true rfl) dX1_insertExtension_65 (fun H locs hP hD hS => ?_)
  have hP : va_P g.1 vwCl [(xx, .inr (1, [.int 0, .int 0, .ref (a 2), .ref (a 3), .int 0, .ref (a 5), .ref (a 6), .ref (a 7), .ref (a 8), .ref (a 9), .int 0, .ref (a 11), .ref (a 12), .ref (a 13), .ref (a 14), .int 1, .int 0, .ref (a 17), .int 0, .int 0])), ((a 14), .inl (g.2.1.1, 64, .inl (upd (fun _ => 0) 0 0)))] H := hP
  have hD : va_D A [(xx, .inr (1, [.int 0, .int 0, .ref (a 2), .ref (a 3), .int 0, .ref (a 5), .ref (a 6), .ref (a 7), .ref (a 8), .ref (a 9), .int 0, .ref (a 11), .ref (a 12), .ref (a 13), .ref (a 14), .int 1, .int 0, .ref (a 17), .int 0, .int 0])), ((a 14), .inl (g.2.1.1, 64, .inl (upd (fun _ => 0) 0 0)))] := hD
  exact g_vr hx hb hr hlocks hP hD hS () [0, 1] rfl (by decide) rfl dX1_insertExtension_68 (Nat.le_of_ble_eq_true rfl) (Nat.le_of_ble_eq_true rfl) (trivial)
set_option maxHeartbeats 4000000 in
set_option maxRecDepth 100000 in
theorem c_X1_findExtensions (l : Launch) (g : gG) (sz : Nat) (xx : Nat) (a : Nat → Nat) : gMv l yX1_findExtensions wsX1_findExtensions ({ frames := 2, cells := 0, slots := 0, locals := 45 } : Room) g [.ref xx] [(xx, .inr (1, [.int 0, .int 0, .ref (a 2), .ref (a 3), .int 0, .ref (a 5), .ref (a 6), .ref (a 7), .ref (a 8), .ref (a 9), .int 0, .ref (a 11), .ref (a 12), .ref (a 13), .ref (a 14), .int 0, .int 0, .ref (a 17), .int 0, .int 0])), ((a 12), .inl (g.2.1.1, 64, .inl (fun _ => 0))), ((a 13), .inl (g.2.1.1, 64, .inl (fun _ => 0))), ((a 14), .inl (g.2.1.1, 64, .inl (fun _ => 0)))] sz (fun (u : Unit) => True) (fun (u : Unit) => [(xx, .inr (1, [.int 0, .int 0, .ref (a 2), .ref (a 3), .int 0, .ref (a 5), .ref (a 6), .ref (a 7), .ref (a 8), .ref (a 9), .int 0, .ref (a 11), .ref (a 12), .ref (a 13), .ref (a 14), .int 1, .int 1, .ref (a 17), .int 0, .int 0])), ((a 12), .inl (g.2.1.1, 64, .inl (upd (fun _ => 0) 0 0))), ((a 13), .inl (g.2.1.1, 64, .inl (upd (fun _ => 0) 0 0))), ((a 14), .inl (g.2.1.1, 64, .inl (upd (fun _ => 0) 0 0)))]) 0 0 := by
  refine g_of (l := l) (y := yX1_findExtensions) (wy := wsX1_findExtensions) (rm := ({ frames := 2, cells := 0, slots := 0, locals := 45 } : Room)) (g := g) (av := [.ref xx]) (ws := [(xx, .inr (1, [.int 0, .int 0, .ref (a 2), .ref (a 3), .int 0, .ref (a 5), .ref (a 6), .ref (a 7), .ref (a 8), .ref (a 9), .int 0, .ref (a 11), .ref (a 12), .ref (a 13), .ref (a 14), .int 0, .int 0, .ref (a 17), .int 0, .int 0])), ((a 12), .inl (g.2.1.1, 64, .inl (fun _ => 0))), ((a 13), .inl (g.2.1.1, 64, .inl (fun _ => 0))), ((a 14), .inl (g.2.1.1, 64, .inl (fun _ => 0)))]) (sz := sz) (mc := 0) (ms := 0) (Qc := fun A => va_Qv (fun (u : Unit) => True) (fun u t9 => gPost g A ((fun (u : Unit) => [(xx, .inr (1, [.int 0, .int 0, .ref (a 2), .ref (a 3), .int 0, .ref (a 5), .ref (a 6), .ref (a 7), .ref (a 8), .ref (a 9), .int 0, .ref (a 11), .ref (a 12), .ref (a 13), .ref (a 14), .int 1, .int 1, .ref (a 17), .int 0, .int 0])), ((a 12), .inl (g.2.1.1, 64, .inl (upd (fun _ => 0) 0 0))), ((a 13), .inl (g.2.1.1, 64, .inl (upd (fun _ => 0) 0 0))), ((a 14), .inl (g.2.1.1, 64, .inl (upd (fun _ => 0) 0 0)))]) u) t9) A) (cc := cX1_findExtensions) (maxL := 3) (ret := none) (by decide) rfl (Nat.le_of_ble_eq_true rfl) ?_
  intro p e s m below meth c A ls hx hb hr hml hown hts hlocks hnm hA hK hE hP hD hS hl
  have hl : lv_has ls 3 [(0, .ref xx)] := hl
  have hown : s.vm.findClass RX1 = some m.cls := hown
  have hP : va_P g.1 vwCl [(xx, .inr (1, [.int 0, .int 0, .ref (a 2), .ref (a 3), .int 0, .ref (a 5), .ref (a 6), .ref (a 7), .ref (a 8), .ref (a 9), .int 0, .ref (a 11), .ref (a 12), .ref (a 13), .ref (a 14), .int 0, .int 0, .ref (a 17), .int 0, .int 0])), ((a 12), .inl (g.2.1.1, 64, .inl (fun _ => 0))), ((a 13), .inl (g.2.1.1, 64, .inl (fun _ => 0))), ((a 14), .inl (g.2.1.1, 64, .inl (fun _ => 0)))] s.heap := hP
  have hinX1 : ∀ w ∈ u_ws RX1 TX1 20, w ∈ wsX1_findExtensions := by decide +kernel
  refine lv_aload_n hx hb dX1_findExtensions_0 rfl (lv_at hl 0 rfl) ?_
  refine va_get (D := g.1) (ci := 1) (v := .int 0) (C := RX1) (T := TX1) (N := 20) hx hb hts hinX1 hown hK hP 0 rfl rfl 16 (by decide) (hts (.fieldLink RX1 191 "DefaultReasoner" "extensionsKnown" "Z") (by decide +kernel)) (fun _ h9 => h9) rfl dX1_findExtensions_1 ?_
  refine lv_if_eq (tgt := 8) hx hb dX1_findExtensions_4 (by decide) (fun _ => ?_) (fun c9 => absurd (by decide) c9)
  refine lv_iconst (v := 1) hx hb dX1_findExtensions_8 (by decide) ?_
  refine lv_aload_n hx hb dX1_findExtensions_9 rfl (lv_at hl 0 rfl) ?_
  refine va_get (D := g.1) (ci := 1) (v := .int 0) (C := RX1) (T := TX1) (N := 20) hx hb hts hinX1 hown hK hP 0 rfl rfl 4 (by decide) (hts (.fieldLink RX1 79 "DefaultReasoner" "defaultTotal" "I") (by decide +kernel)) (fun _ h9 => h9) rfl dX1_findExtensions_10 ?_
  refine lv_ishl hx hb dX1_findExtensions_13 ?_
  refine sy_i (y := 1) (by decide) ?_
  refine lv_istore_n (lv' := [(1, .int 1), (0, .ref xx)]) hx hb dX1_findExtensions_14 rfl hl (by decide) rfl (fun ls hl => ?_)
  refine lv_iconst (v := 0) hx hb dX1_findExtensions_15 (by decide) ?_
  refine lv_istore_n (lv' := [(2, .int 0), (1, .int 1), (0, .ref xx)]) hx hb dX1_findExtensions_16 rfl hl (by decide) rfl (fun ls hl => ?_)
  refine lv_iload_n hx hb dX1_findExtensions_17 rfl (lv_at hl 0 rfl) ?_
  refine lv_iload_n hx hb dX1_findExtensions_18 rfl (lv_at hl 1 rfl) ?_
  refine lv_icmp_ge (tgt := 64) hx hb dX1_findExtensions_19 (by decide) (fun c9 => absurd c9 (by decide)) (fun _ => ?_)
  refine lv_aload_n hx hb dX1_findExtensions_22 rfl (lv_at hl 2 rfl) ?_
  refine va_get (D := g.1) (ci := 1) (v := .ref (a 12)) (C := RX1) (T := TX1) (N := 20) hx hb hts hinX1 hown hK hP 0 rfl rfl 12 (by decide) (hts (.fieldLink RX1 38 "DefaultReasoner" "held" "[I") (by decide +kernel)) (fun _ h9 => h9) rfl dX1_findExtensions_23 ?_
  refine lv_iload_n hx hb dX1_findExtensions_26 rfl (lv_at hl 0 rfl) ?_
  refine lv_aload_n hx hb dX1_findExtensions_27 rfl (lv_at hl 2 rfl) ?_
  refine lv_aload_n hx hb dX1_findExtensions_28 rfl (lv_at hl 2 rfl) ?_
  refine va_get (D := g.1) (ci := 1) (v := .int 0) (C := RX1) (T := TX1) (N := 20) hx hb hts hinX1 hown hK hP 0 rfl rfl 0 (by decide) (hts (.fieldLink RX1 55 "DefaultReasoner" "factSet" "I") (by decide +kernel)) (fun _ h9 => h9) rfl dX1_findExtensions_29 ?_
  refine lv_aload_n hx hb dX1_findExtensions_32 rfl (lv_at hl 2 rfl) ?_
  refine lv_iload_n hx hb dX1_findExtensions_33 rfl (lv_at hl 0 rfl) ?_
  refine gj_i (wc := [(xx, .inr (1, [.int 0, .int 0, .ref (a 2), .ref (a 3), .int 0, .ref (a 5), .ref (a 6), .ref (a 7), .ref (a 8), .ref (a 9), .int 0, .ref (a 11), .ref (a 12), .ref (a 13), .ref (a 14), .int 0, .int 0, .ref (a 17), .int 0, .int 0]))]) (wr := [((a 12), .inl (g.2.1.1, 64, .inl (fun _ => 0))), ((a 13), .inl (g.2.1.1, 64, .inl (fun _ => 0))), ((a 14), .inl (g.2.1.1, 64, .inl (fun _ => 0)))]) (gr_V (n := 1) ⟨hx, hb, hml, hown, hts⟩ (c_X1_conclusionsOf l g s.heap.size xx a 0 0 0 0 0) gX1_findExtensions_X1_conclusionsOf rfl rfl rfl (by decide +kernel) ⟨Nat.le_of_ble_eq_true rfl, Nat.le_of_ble_eq_true rfl⟩ (gp_V hK hE hA hP hD hS [0] rfl (by decide) rfl (q0 := 0) rfl rfl) rfl hl.1 rfl (Nat.le_of_ble_eq_true rfl) dX1_findExtensions_34 ⟨Nat.le_of_ble_eq_true rfl, Nat.le_of_ble_eq_true rfl⟩) hP hD hS hA [0] [1, 2, 3] rfl rfl (by decide) (by decide) (fun r1 u1 H locs hp1 hP hD hS => ?_)
  have hP : va_P g.1 vwCl [((a 12), .inl (g.2.1.1, 64, .inl (fun _ => 0))), ((a 13), .inl (g.2.1.1, 64, .inl (fun _ => 0))), ((a 14), .inl (g.2.1.1, 64, .inl (fun _ => 0))), (xx, .inr (1, [.int 0, .int 0, .ref (a 2), .ref (a 3), .int 0, .ref (a 5), .ref (a 6), .ref (a 7), .ref (a 8), .ref (a 9), .int 0, .ref (a 11), .ref (a 12), .ref (a 13), .ref (a 14), .int 0, .int 0, .ref (a 17), .int 0, .int 0]))] H := hP
  have hD : va_D A [((a 12), .inl (g.2.1.1, 64, .inl (fun _ => 0))), ((a 13), .inl (g.2.1.1, 64, .inl (fun _ => 0))), ((a 14), .inl (g.2.1.1, 64, .inl (fun _ => 0))), (xx, .inr (1, [.int 0, .int 0, .ref (a 2), .ref (a 3), .int 0, .ref (a 5), .ref (a 6), .ref (a 7), .ref (a 8), .ref (a 9), .int 0, .ref (a 11), .ref (a 12), .ref (a 13), .ref (a 14), .int 0, .int 0, .ref (a 17), .int 0, .int 0]))] := hD
  have hp1 : r1 = 0 := hp1.trans (by decide)
  subst hp1
  refine lv_ior hx hb dX1_findExtensions_37 ?_
  refine sy_i (y := 0) (by decide) ?_
  refine gj_i (wc := [(xx, .inr (1, [.int 0, .int 0, .ref (a 2), .ref (a 3), .int 0, .ref (a 5), .ref (a 6), .ref (a 7), .ref (a 8), .ref (a 9), .int 0, .ref (a 11), .ref (a 12), .ref (a 13), .ref (a 14), .int 0, .int 0, .ref (a 17), .int 0, .int 0]))]) (wr := [((a 12), .inl (g.2.1.1, 64, .inl (fun _ => 0))), ((a 13), .inl (g.2.1.1, 64, .inl (fun _ => 0))), ((a 14), .inl (g.2.1.1, 64, .inl (fun _ => 0)))]) (gr_V (n := 1) ⟨hx, hb, hml, hown, hts⟩ (c_X1_closeUp l g H.size xx a 0 0 0 0 0) gX1_findExtensions_X1_closeUp rfl rfl rfl (by decide +kernel) ⟨Nat.le_of_ble_eq_true rfl, Nat.le_of_ble_eq_true rfl⟩ (gp_V hK hE hA hP hD hS [3] rfl (by decide) rfl (q0 := 0) rfl rfl) rfl hl.1 rfl (Nat.le_of_ble_eq_true rfl) dX1_findExtensions_38 ⟨Nat.le_of_ble_eq_true rfl, Nat.le_of_ble_eq_true rfl⟩) hP hD hS hA [3] [0, 1, 2] rfl rfl (by decide) (by decide) (fun r2 u2 H locs hp2 hP hD hS => ?_)
  have hP : va_P g.1 vwCl [((a 12), .inl (g.2.1.1, 64, .inl (fun _ => 0))), ((a 13), .inl (g.2.1.1, 64, .inl (fun _ => 0))), ((a 14), .inl (g.2.1.1, 64, .inl (fun _ => 0))), (xx, .inr (1, [.int 0, .int 0, .ref (a 2), .ref (a 3), .int 0, .ref (a 5), .ref (a 6), .ref (a 7), .ref (a 8), .ref (a 9), .int 0, .ref (a 11), .ref (a 12), .ref (a 13), .ref (a 14), .int 0, .int 0, .ref (a 17), .int 0, .int 0]))] H := hP
  have hD : va_D A [((a 12), .inl (g.2.1.1, 64, .inl (fun _ => 0))), ((a 13), .inl (g.2.1.1, 64, .inl (fun _ => 0))), ((a 14), .inl (g.2.1.1, 64, .inl (fun _ => 0))), (xx, .inr (1, [.int 0, .int 0, .ref (a 2), .ref (a 3), .int 0, .ref (a 5), .ref (a 6), .ref (a 7), .ref (a 8), .ref (a 9), .int 0, .ref (a 11), .ref (a 12), .ref (a 13), .ref (a 14), .int 0, .int 0, .ref (a 17), .int 0, .int 0]))] := hD
  have hp2 : r2 = 0 := hp2.trans (by decide)
  subst hp2
  refine va_iast hx hb hK hP hD hS 0 0 rfl rfl (by unfold vp_in; decide) dX1_findExtensions_41 (fun H locs hP hD hS => ?_)
  have hP : va_P g.1 vwCl [((a 12), .inl (g.2.1.1, 64, .inl (upd (fun _ => 0) 0 0))), ((a 13), .inl (g.2.1.1, 64, .inl (fun _ => 0))), ((a 14), .inl (g.2.1.1, 64, .inl (fun _ => 0))), (xx, .inr (1, [.int 0, .int 0, .ref (a 2), .ref (a 3), .int 0, .ref (a 5), .ref (a 6), .ref (a 7), .ref (a 8), .ref (a 9), .int 0, .ref (a 11), .ref (a 12), .ref (a 13), .ref (a 14), .int 0, .int 0, .ref (a 17), .int 0, .int 0]))] H := hP
  have hD : va_D A [((a 12), .inl (g.2.1.1, 64, .inl (upd (fun _ => 0) 0 0))), ((a 13), .inl (g.2.1.1, 64, .inl (fun _ => 0))), ((a 14), .inl (g.2.1.1, 64, .inl (fun _ => 0))), (xx, .inr (1, [.int 0, .int 0, .ref (a 2), .ref (a 3), .int 0, .ref (a 5), .ref (a 6), .ref (a 7), .ref (a 8), .ref (a 9), .int 0, .ref (a 11), .ref (a 12), .ref (a 13), .ref (a 14), .int 0, .int 0, .ref (a 17), .int 0, .int 0]))] := hD
  refine lv_aload_n hx hb dX1_findExtensions_42 rfl (lv_at hl 2 rfl) ?_
  refine va_get (D := g.1) (ci := 1) (v := .ref (a 13)) (C := RX1) (T := TX1) (N := 20) hx hb hts hinX1 hown hK hP 3 rfl rfl 13 (by decide) (hts (.fieldLink RX1 41 "DefaultReasoner" "usable" "[I") (by decide +kernel)) (fun _ h9 => h9) rfl dX1_findExtensions_43 ?_
  refine lv_iload_n hx hb dX1_findExtensions_46 rfl (lv_at hl 0 rfl) ?_
  refine lv_aload_n hx hb dX1_findExtensions_47 rfl (lv_at hl 2 rfl) ?_
  refine lv_aload_n hx hb dX1_findExtensions_48 rfl (lv_at hl 2 rfl) ?_
  refine va_get (D := g.1) (ci := 1) (v := .ref (a 12)) (C := RX1) (T := TX1) (N := 20) hx hb hts hinX1 hown hK hP 3 rfl rfl 12 (by decide) (hts (.fieldLink RX1 38 "DefaultReasoner" "held" "[I") (by decide +kernel)) (fun _ h9 => h9) rfl dX1_findExtensions_49 ?_
  refine lv_iload_n hx hb dX1_findExtensions_52 rfl (lv_at hl 0 rfl) ?_
  refine va_iald hx hb hK hP 0 0 rfl rfl (by unfold vp_in; decide) dX1_findExtensions_53 ?_
  refine sy_i (y := 0) (rfl) ?_
  refine gj_i (wc := [(xx, .inr (1, [.int 0, .int 0, .ref (a 2), .ref (a 3), .int 0, .ref (a 5), .ref (a 6), .ref (a 7), .ref (a 8), .ref (a 9), .int 0, .ref (a 11), .ref (a 12), .ref (a 13), .ref (a 14), .int 0, .int 0, .ref (a 17), .int 0, .int 0]))]) (wr := [((a 12), .inl (g.2.1.1, 64, .inl (upd (fun _ => 0) 0 0))), ((a 13), .inl (g.2.1.1, 64, .inl (fun _ => 0))), ((a 14), .inl (g.2.1.1, 64, .inl (fun _ => 0)))]) (gr_V (n := 1) ⟨hx, hb, hml, hown, hts⟩ (c_X1_usableFor l g H.size xx a 0 0 0 0 0) gX1_findExtensions_X1_usableFor rfl rfl rfl (by decide +kernel) ⟨Nat.le_of_ble_eq_true rfl, Nat.le_of_ble_eq_true rfl⟩ (gp_V hK hE hA hP hD hS [3] rfl (by decide) rfl (q0 := 0) rfl rfl) rfl hl.1 rfl (Nat.le_of_ble_eq_true rfl) dX1_findExtensions_54 ⟨Nat.le_of_ble_eq_true rfl, Nat.le_of_ble_eq_true rfl⟩) hP hD hS hA [3] [0, 1, 2] rfl rfl (by decide) (by decide) (fun r3 u3 H locs hp3 hP hD hS => ?_)
  have hP : va_P g.1 vwCl [((a 12), .inl (g.2.1.1, 64, .inl (upd (fun _ => 0) 0 0))), ((a 13), .inl (g.2.1.1, 64, .inl (fun _ => 0))), ((a 14), .inl (g.2.1.1, 64, .inl (fun _ => 0))), (xx, .inr (1, [.int 0, .int 0, .ref (a 2), .ref (a 3), .int 0, .ref (a 5), .ref (a 6), .ref (a 7), .ref (a 8), .ref (a 9), .int 0, .ref (a 11), .ref (a 12), .ref (a 13), .ref (a 14), .int 0, .int 0, .ref (a 17), .int 0, .int 0]))] H := hP
  have hD : va_D A [((a 12), .inl (g.2.1.1, 64, .inl (upd (fun _ => 0) 0 0))), ((a 13), .inl (g.2.1.1, 64, .inl (fun _ => 0))), ((a 14), .inl (g.2.1.1, 64, .inl (fun _ => 0))), (xx, .inr (1, [.int 0, .int 0, .ref (a 2), .ref (a 3), .int 0, .ref (a 5), .ref (a 6), .ref (a 7), .ref (a 8), .ref (a 9), .int 0, .ref (a 11), .ref (a 12), .ref (a 13), .ref (a 14), .int 0, .int 0, .ref (a 17), .int 0, .int 0]))] := hD
  have hp3 : r3 = 0 := hp3.trans (by decide)
  subst hp3
  refine va_iast hx hb hK hP hD hS 1 0 rfl rfl (by unfold vp_in; decide) dX1_findExtensions_57 (fun H locs hP hD hS => ?_)
  have hP : va_P g.1 vwCl [((a 12), .inl (g.2.1.1, 64, .inl (upd (fun _ => 0) 0 0))), ((a 13), .inl (g.2.1.1, 64, .inl (upd (fun _ => 0) 0 0))), ((a 14), .inl (g.2.1.1, 64, .inl (fun _ => 0))), (xx, .inr (1, [.int 0, .int 0, .ref (a 2), .ref (a 3), .int 0, .ref (a 5), .ref (a 6), .ref (a 7), .ref (a 8), .ref (a 9), .int 0, .ref (a 11), .ref (a 12), .ref (a 13), .ref (a 14), .int 0, .int 0, .ref (a 17), .int 0, .int 0]))] H := hP
  have hD : va_D A [((a 12), .inl (g.2.1.1, 64, .inl (upd (fun _ => 0) 0 0))), ((a 13), .inl (g.2.1.1, 64, .inl (upd (fun _ => 0) 0 0))), ((a 14), .inl (g.2.1.1, 64, .inl (fun _ => 0))), (xx, .inr (1, [.int 0, .int 0, .ref (a 2), .ref (a 3), .int 0, .ref (a 5), .ref (a 6), .ref (a 7), .ref (a 8), .ref (a 9), .int 0, .ref (a 11), .ref (a 12), .ref (a 13), .ref (a 14), .int 0, .int 0, .ref (a 17), .int 0, .int 0]))] := hD
  refine lv_iinc (v := 1) (lv' := [(2, .int 1), (1, .int 1), (0, .ref xx)]) hx hb dX1_findExtensions_58 hl (k := 0) rfl (by decide) (by decide) rfl (fun ls hl => ?_)
  refine lv_goto (tgt := 17) hx hb dX1_findExtensions_61 (by decide) ?_
  refine lv_iload_n hx hb dX1_findExtensions_17 rfl (lv_at hl 0 rfl) ?_
  refine lv_iload_n hx hb dX1_findExtensions_18 rfl (lv_at hl 1 rfl) ?_
  refine lv_icmp_ge (tgt := 64) hx hb dX1_findExtensions_19 (by decide) (fun _ => ?_) (fun c9 => absurd (by decide) c9)
  refine lv_aload_n hx hb dX1_findExtensions_64 rfl (lv_at hl 2 rfl) ?_
  refine lv_iconst (v := 0) hx hb dX1_findExtensions_65 (by decide) ?_
  refine va_put (D := g.1) (ci := 1) (v := .int 0) (ty := .int) (C := RX1) (T := TX1) (N := 20) hx hb hts hinX1 tyX1 tyX1_ok nmX1 hown hK hP hD hS 3 rfl rfl 15 (by decide) (hts (.fieldLink RX1 130 "DefaultReasoner" "extensionTotal" "I") (by decide +kernel)) (fun _ h9 => h9) rfl (by decide +kernel) rfl rfl (Nat.le_of_ble_eq_true rfl) dX1_findExtensions_66 (fun H locs hP hD hS => ?_)
  have hP : va_P g.1 vwCl [((a 12), .inl (g.2.1.1, 64, .inl (upd (fun _ => 0) 0 0))), ((a 13), .inl (g.2.1.1, 64, .inl (upd (fun _ => 0) 0 0))), ((a 14), .inl (g.2.1.1, 64, .inl (fun _ => 0))), (xx, .inr (1, [.int 0, .int 0, .ref (a 2), .ref (a 3), .int 0, .ref (a 5), .ref (a 6), .ref (a 7), .ref (a 8), .ref (a 9), .int 0, .ref (a 11), .ref (a 12), .ref (a 13), .ref (a 14), .int 0, .int 0, .ref (a 17), .int 0, .int 0]))] H := hP
  have hD : va_D A [((a 12), .inl (g.2.1.1, 64, .inl (upd (fun _ => 0) 0 0))), ((a 13), .inl (g.2.1.1, 64, .inl (upd (fun _ => 0) 0 0))), ((a 14), .inl (g.2.1.1, 64, .inl (fun _ => 0))), (xx, .inr (1, [.int 0, .int 0, .ref (a 2), .ref (a 3), .int 0, .ref (a 5), .ref (a 6), .ref (a 7), .ref (a 8), .ref (a 9), .int 0, .ref (a 11), .ref (a 12), .ref (a 13), .ref (a 14), .int 0, .int 0, .ref (a 17), .int 0, .int 0]))] := hD
  refine lv_iconst (v := 0) hx hb dX1_findExtensions_69 (by decide) ?_
  refine lv_istore_n (lv' := [(2, .int 0), (1, .int 1), (0, .ref xx)]) hx hb dX1_findExtensions_70 rfl hl (by decide) rfl (fun ls hl => ?_)
  refine lv_iload_n hx hb dX1_findExtensions_71 rfl (lv_at hl 0 rfl) ?_
  refine lv_iload_n hx hb dX1_findExtensions_72 rfl (lv_at hl 1 rfl) ?_
  refine lv_icmp_ge (tgt := 106) hx hb dX1_findExtensions_73 (by decide) (fun c9 => absurd c9 (by decide)) (fun _ => ?_)
  refine lv_aload_n hx hb dX1_findExtensions_76 rfl (lv_at hl 2 rfl) ?_
  refine lv_aload_n hx hb dX1_findExtensions_77 rfl (lv_at hl 2 rfl) ?_
  refine va_get (D := g.1) (ci := 1) (v := .ref (a 12)) (C := RX1) (T := TX1) (N := 20) hx hb hts hinX1 hown hK hP 3 rfl rfl 12 (by decide) (hts (.fieldLink RX1 38 "DefaultReasoner" "held" "[I") (by decide +kernel)) (fun _ h9 => h9) rfl dX1_findExtensions_78 ?_
  refine lv_iload_n hx hb dX1_findExtensions_81 rfl (lv_at hl 0 rfl) ?_
  refine va_iald hx hb hK hP 0 0 rfl rfl (by unfold vp_in; decide) dX1_findExtensions_82 ?_
  refine sy_i (y := 0) (rfl) ?_
  refine gj_i (wc := [(xx, .inr (1, [.int 0, .int 0, .ref (a 2), .ref (a 3), .int 0, .ref (a 5), .ref (a 6), .ref (a 7), .ref (a 8), .ref (a 9), .int 0, .ref (a 11), .ref (a 12), .ref (a 13), .ref (a 14), .int 0, .int 0, .ref (a 17), .int 0, .int 0]))]) (wr := [((a 12), .inl (g.2.1.1, 64, .inl (upd (fun _ => 0) 0 0))), ((a 13), .inl (g.2.1.1, 64, .inl (upd (fun _ => 0) 0 0))), ((a 14), .inl (g.2.1.1, 64, .inl (fun _ => 0)))]) (gr_V (n := 1) ⟨hx, hb, hml, hown, hts⟩ (c_X1_generatorsFor l g H.size xx a 0 0 0 0 0) gX1_findExtensions_X1_generatorsFor rfl rfl rfl (by decide +kernel) ⟨Nat.le_of_ble_eq_true rfl, Nat.le_of_ble_eq_true rfl⟩ (gp_V hK hE hA hP hD hS [3] rfl (by decide) rfl (q0 := 0) rfl rfl) rfl hl.1 rfl (Nat.le_of_ble_eq_true rfl) dX1_findExtensions_83 ⟨Nat.le_of_ble_eq_true rfl, Nat.le_of_ble_eq_true rfl⟩) hP hD hS hA [3] [0, 1, 2] rfl rfl (by decide) (by decide) (fun r4 u4 H locs hp4 hP hD hS => ?_)
  have hP : va_P g.1 vwCl [((a 12), .inl (g.2.1.1, 64, .inl (upd (fun _ => 0) 0 0))), ((a 13), .inl (g.2.1.1, 64, .inl (upd (fun _ => 0) 0 0))), ((a 14), .inl (g.2.1.1, 64, .inl (fun _ => 0))), (xx, .inr (1, [.int 0, .int 0, .ref (a 2), .ref (a 3), .int 0, .ref (a 5), .ref (a 6), .ref (a 7), .ref (a 8), .ref (a 9), .int 0, .ref (a 11), .ref (a 12), .ref (a 13), .ref (a 14), .int 0, .int 0, .ref (a 17), .int 0, .int 0]))] H := hP
  have hD : va_D A [((a 12), .inl (g.2.1.1, 64, .inl (upd (fun _ => 0) 0 0))), ((a 13), .inl (g.2.1.1, 64, .inl (upd (fun _ => 0) 0 0))), ((a 14), .inl (g.2.1.1, 64, .inl (fun _ => 0))), (xx, .inr (1, [.int 0, .int 0, .ref (a 2), .ref (a 3), .int 0, .ref (a 5), .ref (a 6), .ref (a 7), .ref (a 8), .ref (a 9), .int 0, .ref (a 11), .ref (a 12), .ref (a 13), .ref (a 14), .int 0, .int 0, .ref (a 17), .int 0, .int 0]))] := hD
  have hp4 : r4 = 0 := hp4.trans (by decide)
  subst hp4
  refine lv_iload_n hx hb dX1_findExtensions_86 rfl (lv_at hl 0 rfl) ?_
  refine lv_icmp_ne (tgt := 100) hx hb dX1_findExtensions_87 (by decide) (fun c9 => absurd (by decide) c9) (fun _ => ?_)
  refine lv_aload_n hx hb dX1_findExtensions_90 rfl (lv_at hl 2 rfl) ?_
  refine lv_aload_n hx hb dX1_findExtensions_91 rfl (lv_at hl 2 rfl) ?_
  refine va_get (D := g.1) (ci := 1) (v := .ref (a 12)) (C := RX1) (T := TX1) (N := 20) hx hb hts hinX1 hown hK hP 3 rfl rfl 12 (by decide) (hts (.fieldLink RX1 38 "DefaultReasoner" "held" "[I") (by decide +kernel)) (fun _ h9 => h9) rfl dX1_findExtensions_92 ?_
  refine lv_iload_n hx hb dX1_findExtensions_95 rfl (lv_at hl 0 rfl) ?_
  refine va_iald hx hb hK hP 0 0 rfl rfl (by unfold vp_in; decide) dX1_findExtensions_96 ?_
  refine sy_i (y := 0) (rfl) ?_
  refine gj_v (wc := [(xx, .inr (1, [.int 0, .int 0, .ref (a 2), .ref (a 3), .int 0, .ref (a 5), .ref (a 6), .ref (a 7), .ref (a 8), .ref (a 9), .int 0, .ref (a 11), .ref (a 12), .ref (a 13), .ref (a 14), .int 0, .int 0, .ref (a 17), .int 0, .int 0])), ((a 14), .inl (g.2.1.1, 64, .inl (fun _ => 0)))]) (wr := [((a 12), .inl (g.2.1.1, 64, .inl (upd (fun _ => 0) 0 0))), ((a 13), .inl (g.2.1.1, 64, .inl (upd (fun _ => 0) 0 0)))]) (gr_V (n := 1) ⟨hx, hb, hml, hown, hts⟩ (c_X1_insertExtension l g H.size xx a) gX1_findExtensions_X1_insertExtension rfl rfl rfl (by decide +kernel) ⟨Nat.le_of_ble_eq_true rfl, Nat.le_of_ble_eq_true rfl⟩ (gp_V hK hE hA hP hD hS [3, 2] rfl (by decide) rfl (q0 := 0) rfl rfl) rfl hl.1 rfl (Nat.le_of_ble_eq_true rfl) dX1_findExtensions_97 ⟨Nat.le_of_ble_eq_true rfl, Nat.le_of_ble_eq_true rfl⟩) hP hD hS hA [3, 2] [0, 1] rfl rfl (by decide) (by decide) (fun u5 H locs hp5 hP hD hS => ?_)
  have hP : va_P g.1 vwCl [((a 12), .inl (g.2.1.1, 64, .inl (upd (fun _ => 0) 0 0))), ((a 13), .inl (g.2.1.1, 64, .inl (upd (fun _ => 0) 0 0))), (xx, .inr (1, [.int 0, .int 0, .ref (a 2), .ref (a 3), .int 0, .ref (a 5), .ref (a 6), .ref (a 7), .ref (a 8), .ref (a 9), .int 0, .ref (a 11), .ref (a 12), .ref (a 13), .ref (a 14), .int 1, .int 0, .ref (a 17), .int 0, .int 0])), ((a 14), .inl (g.2.1.1, 64, .inl (upd (fun _ => 0) 0 0)))] H := hP
  have hD : va_D A [((a 12), .inl (g.2.1.1, 64, .inl (upd (fun _ => 0) 0 0))), ((a 13), .inl (g.2.1.1, 64, .inl (upd (fun _ => 0) 0 0))), (xx, .inr (1, [.int 0, .int 0, .ref (a 2), .ref (a 3), .int 0, .ref (a 5), .ref (a 6), .ref (a 7), .ref (a 8), .ref (a 9), .int 0, .ref (a 11), .ref (a 12), .ref (a 13), .ref (a 14), .int 1, .int 0, .ref (a 17), .int 0, .int 0])), ((a 14), .inl (g.2.1.1, 64, .inl (upd (fun _ => 0) 0 0)))] := hD
  refine lv_iinc (v := 1) (lv' := [(2, .int 1), (1, .int 1), (0, .ref xx)]) hx hb dX1_findExtensions_100 hl (k := 0) rfl (by decide) (by decide) rfl (fun ls hl => ?_)
  refine lv_goto (tgt := 71) hx hb dX1_findExtensions_103 (by decide) ?_
  refine lv_iload_n hx hb dX1_findExtensions_71 rfl (lv_at hl 0 rfl) ?_
  refine lv_iload_n hx hb dX1_findExtensions_72 rfl (lv_at hl 1 rfl) ?_
  refine lv_icmp_ge (tgt := 106) hx hb dX1_findExtensions_73 (by decide) (fun _ => ?_) (fun c9 => absurd (by decide) c9)
  refine lv_aload_n hx hb dX1_findExtensions_106 rfl (lv_at hl 2 rfl) ?_
  refine lv_iconst (v := 1) hx hb dX1_findExtensions_107 (by decide) ?_
  refine va_put (D := g.1) (ci := 1) (v := .int 1) (ty := .boolean) (C := RX1) (T := TX1) (N := 20) hx hb hts hinX1 tyX1 tyX1_ok nmX1 hown hK hP hD hS 2 rfl rfl 16 (by decide) (hts (.fieldLink RX1 191 "DefaultReasoner" "extensionsKnown" "Z") (by decide +kernel)) (fun _ h9 => h9) rfl (by decide +kernel) rfl rfl (Nat.le_of_ble_eq_true rfl) dX1_findExtensions_108 (fun H locs hP hD hS => ?_)
  have hP : va_P g.1 vwCl [((a 12), .inl (g.2.1.1, 64, .inl (upd (fun _ => 0) 0 0))), ((a 13), .inl (g.2.1.1, 64, .inl (upd (fun _ => 0) 0 0))), (xx, .inr (1, [.int 0, .int 0, .ref (a 2), .ref (a 3), .int 0, .ref (a 5), .ref (a 6), .ref (a 7), .ref (a 8), .ref (a 9), .int 0, .ref (a 11), .ref (a 12), .ref (a 13), .ref (a 14), .int 1, .int 1, .ref (a 17), .int 0, .int 0])), ((a 14), .inl (g.2.1.1, 64, .inl (upd (fun _ => 0) 0 0)))] H := hP
  have hD : va_D A [((a 12), .inl (g.2.1.1, 64, .inl (upd (fun _ => 0) 0 0))), ((a 13), .inl (g.2.1.1, 64, .inl (upd (fun _ => 0) 0 0))), (xx, .inr (1, [.int 0, .int 0, .ref (a 2), .ref (a 3), .int 0, .ref (a 5), .ref (a 6), .ref (a 7), .ref (a 8), .ref (a 9), .int 0, .ref (a 11), .ref (a 12), .ref (a 13), .ref (a 14), .int 1, .int 1, .ref (a 17), .int 0, .int 0])), ((a 14), .inl (g.2.1.1, 64, .inl (upd (fun _ => 0) 0 0)))] := hD
  exact g_vr hx hb hr hlocks hP hD hS () [2, 0, 1, 3] rfl (by decide) rfl dX1_findExtensions_111 (Nat.le_of_ble_eq_true rfl) (Nat.le_of_ble_eq_true rfl) (trivial)
set_option maxHeartbeats 4000000 in
set_option maxRecDepth 100000 in
theorem c_X1_layOut (l : Launch) (g : gG) (sz : Nat) (xx : Nat) (a : Nat → Nat) (e15 e16 e18 e19 : Int32) (x : Int32) : gMv l yX1_layOut wsX1_layOut ({ frames := 0, cells := 0, slots := 0, locals := 0 } : Room) g [.ref xx, .int x] [(xx, .inr (1, [.int 0, .int 0, .ref (a 2), .ref (a 3), .int 0, .ref (a 5), .ref (a 6), .ref (a 7), .ref (a 8), .ref (a 9), .int 0, .ref (a 11), .ref (a 12), .ref (a 13), .ref (a 14), .int e15, .int e16, .ref (a 17), .int e18, .int e19]))] sz (fun (u : Unit) => True) (fun (u : Unit) => [(xx, .inr (1, [.int 0, .int 0, .ref (a 2), .ref (a 3), .int 0, .ref (a 5), .ref (a 6), .ref (a 7), .ref (a 8), .ref (a 9), .int 0, .ref (a 11), .ref (a 12), .ref (a 13), .ref (a 14), .int e15, .int e16, .ref (a 17), .int e18, .int e19]))]) 0 0 := by
  refine g_of (l := l) (y := yX1_layOut) (wy := wsX1_layOut) (rm := ({ frames := 0, cells := 0, slots := 0, locals := 0 } : Room)) (g := g) (av := [.ref xx, .int x]) (ws := [(xx, .inr (1, [.int 0, .int 0, .ref (a 2), .ref (a 3), .int 0, .ref (a 5), .ref (a 6), .ref (a 7), .ref (a 8), .ref (a 9), .int 0, .ref (a 11), .ref (a 12), .ref (a 13), .ref (a 14), .int e15, .int e16, .ref (a 17), .int e18, .int e19]))]) (sz := sz) (mc := 0) (ms := 0) (Qc := fun A => va_Qv (fun (u : Unit) => True) (fun u t9 => gPost g A ((fun (u : Unit) => [(xx, .inr (1, [.int 0, .int 0, .ref (a 2), .ref (a 3), .int 0, .ref (a 5), .ref (a 6), .ref (a 7), .ref (a 8), .ref (a 9), .int 0, .ref (a 11), .ref (a 12), .ref (a 13), .ref (a 14), .int e15, .int e16, .ref (a 17), .int e18, .int e19]))]) u) t9) A) (cc := cX1_layOut) (maxL := 7) (ret := none) (by decide) rfl (Nat.le_of_ble_eq_true rfl) ?_
  intro p e s m below meth c A ls hx hb hr hml hown hts hlocks hnm hA hK hE hP hD hS hl
  have hl : lv_has ls 7 [(0, .ref xx), (1, .int x)] := hl
  have hown : s.vm.findClass RX1 = some m.cls := hown
  have hP : va_P g.1 vwCl [(xx, .inr (1, [.int 0, .int 0, .ref (a 2), .ref (a 3), .int 0, .ref (a 5), .ref (a 6), .ref (a 7), .ref (a 8), .ref (a 9), .int 0, .ref (a 11), .ref (a 12), .ref (a 13), .ref (a 14), .int e15, .int e16, .ref (a 17), .int e18, .int e19]))] s.heap := hP
  have hinX1 : ∀ w ∈ u_ws RX1 TX1 20, w ∈ wsX1_layOut := by decide +kernel
  refine lv_iload_n hx hb dX1_layOut_0 rfl (lv_at hl 1 rfl) ?_
  refine lv_istore_n (lv' := [(2, .int x), (0, .ref xx), (1, .int x)]) hx hb dX1_layOut_1 rfl hl (by decide) rfl (fun ls hl => ?_)
  refine lv_iconst (v := 0) hx hb dX1_layOut_2 (by decide) ?_
  refine lv_istore_n (lv' := [(3, .int 0), (2, .int x), (0, .ref xx), (1, .int x)]) hx hb dX1_layOut_3 rfl hl (by decide) rfl (fun ls hl => ?_)
  refine lv_iconst (v := 0) hx hb dX1_layOut_4 (by decide) ?_
  refine lv_istore (lv' := [(4, .int 0), (3, .int 0), (2, .int x), (0, .ref xx), (1, .int x)]) hx hb dX1_layOut_5 hl (by decide) rfl (fun ls hl => ?_)
  refine lv_iload hx hb dX1_layOut_7 (lv_at hl 0 rfl) ?_
  refine lv_aload_n hx hb dX1_layOut_9 rfl (lv_at hl 3 rfl) ?_
  refine va_get (D := g.1) (ci := 1) (v := .int 0) (C := RX1) (T := TX1) (N := 20) hx hb hts hinX1 hown hK hP 0 rfl rfl 4 (by decide) (hts (.fieldLink RX1 79 "DefaultReasoner" "defaultTotal" "I") (by decide +kernel)) (fun _ h9 => h9) rfl dX1_layOut_10 ?_
  refine lv_icmp_ge (tgt := 97) hx hb dX1_layOut_13 (by decide) (fun _ => ?_) (fun c9 => absurd (by decide) c9)
  exact g_vr hx hb hr hlocks hP hD hS () [0] rfl (by decide) rfl dX1_layOut_97 (Nat.le_of_ble_eq_true rfl) (Nat.le_of_ble_eq_true rfl) (trivial)
set_option maxHeartbeats 4000000 in
set_option maxRecDepth 100000 in
theorem c_X1_keepsPriorities (l : Launch) (g : gG) (sz : Nat) (xx : Nat) (a : Nat → Nat) (e15 e16 e18 e19 : Int32) : gMi l yX1_keepsPriorities wsX1_keepsPriorities ({ frames := 0, cells := 0, slots := 0, locals := 0 } : Room) g [.ref xx] [(xx, .inr (1, [.int 0, .int 0, .ref (a 2), .ref (a 3), .int 0, .ref (a 5), .ref (a 6), .ref (a 7), .ref (a 8), .ref (a 9), .int 0, .ref (a 11), .ref (a 12), .ref (a 13), .ref (a 14), .int e15, .int e16, .ref (a 17), .int e18, .int e19]))] sz (fun (r : Int32) (u : Unit) => r = 1) (fun (u : Unit) => [(xx, .inr (1, [.int 0, .int 0, .ref (a 2), .ref (a 3), .int 0, .ref (a 5), .ref (a 6), .ref (a 7), .ref (a 8), .ref (a 9), .int 0, .ref (a 11), .ref (a 12), .ref (a 13), .ref (a 14), .int e15, .int e16, .ref (a 17), .int e18, .int e19]))]) 0 0 := by
  refine g_of (l := l) (y := yX1_keepsPriorities) (wy := wsX1_keepsPriorities) (rm := ({ frames := 0, cells := 0, slots := 0, locals := 0 } : Room)) (g := g) (av := [.ref xx]) (ws := [(xx, .inr (1, [.int 0, .int 0, .ref (a 2), .ref (a 3), .int 0, .ref (a 5), .ref (a 6), .ref (a 7), .ref (a 8), .ref (a 9), .int 0, .ref (a 11), .ref (a 12), .ref (a 13), .ref (a 14), .int e15, .int e16, .ref (a 17), .int e18, .int e19]))]) (sz := sz) (mc := 0) (ms := 0) (Qc := fun A => va_Qi (fun (r : Int32) (u : Unit) => r = 1) (fun u t9 => gPost g A ((fun (u : Unit) => [(xx, .inr (1, [.int 0, .int 0, .ref (a 2), .ref (a 3), .int 0, .ref (a 5), .ref (a 6), .ref (a 7), .ref (a 8), .ref (a 9), .int 0, .ref (a 11), .ref (a 12), .ref (a 13), .ref (a 14), .int e15, .int e16, .ref (a 17), .int e18, .int e19]))]) u) t9) A) (cc := cX1_keepsPriorities) (maxL := 4) (ret := some .boolean) (by decide) rfl (Nat.le_of_ble_eq_true rfl) ?_
  intro p e s m below meth c A ls hx hb hr hml hown hts hlocks hnm hA hK hE hP hD hS hl
  have hl : lv_has ls 4 [(0, .ref xx)] := hl
  have hown : s.vm.findClass RX1 = some m.cls := hown
  have hP : va_P g.1 vwCl [(xx, .inr (1, [.int 0, .int 0, .ref (a 2), .ref (a 3), .int 0, .ref (a 5), .ref (a 6), .ref (a 7), .ref (a 8), .ref (a 9), .int 0, .ref (a 11), .ref (a 12), .ref (a 13), .ref (a 14), .int e15, .int e16, .ref (a 17), .int e18, .int e19]))] s.heap := hP
  have hinX1 : ∀ w ∈ u_ws RX1 TX1 20, w ∈ wsX1_keepsPriorities := by decide +kernel
  refine lv_iconst (v := 0) hx hb dX1_keepsPriorities_0 (by decide) ?_
  refine lv_istore_n (lv' := [(1, .int 0), (0, .ref xx)]) hx hb dX1_keepsPriorities_1 rfl hl (by decide) rfl (fun ls hl => ?_)
  refine lv_iconst (v := 0) hx hb dX1_keepsPriorities_2 (by decide) ?_
  refine lv_istore_n (lv' := [(2, .int 0), (1, .int 0), (0, .ref xx)]) hx hb dX1_keepsPriorities_3 rfl hl (by decide) rfl (fun ls hl => ?_)
  refine lv_iload_n hx hb dX1_keepsPriorities_4 rfl (lv_at hl 0 rfl) ?_
  refine lv_aload_n hx hb dX1_keepsPriorities_5 rfl (lv_at hl 2 rfl) ?_
  refine va_get (D := g.1) (ci := 1) (v := .int 0) (C := RX1) (T := TX1) (N := 20) hx hb hts hinX1 hown hK hP 0 rfl rfl 4 (by decide) (hts (.fieldLink RX1 79 "DefaultReasoner" "defaultTotal" "I") (by decide +kernel)) (fun _ h9 => h9) rfl dX1_keepsPriorities_6 ?_
  refine lv_icmp_ge (tgt := 45) hx hb dX1_keepsPriorities_9 (by decide) (fun _ => ?_) (fun c9 => absurd (by decide) c9)
  refine lv_iconst (v := 1) hx hb dX1_keepsPriorities_45 (by decide) ?_
  exact g_zr hx hb hr hlocks hP hD hS () [0] rfl (by decide) rfl dX1_keepsPriorities_46 (Nat.le_of_ble_eq_true rfl) (Nat.le_of_ble_eq_true rfl) (Or.inr rfl) (rfl)
set_option maxHeartbeats 4000000 in
set_option maxRecDepth 100000 in
theorem c_X1_endOfWalk (l : Launch) (g : gG) (sz : Nat) (xx : Nat) (a : Nat → Nat) (e15 e16 e18 e19 : Int32) : gMi l yX1_endOfWalk wsX1_endOfWalk ({ frames := 0, cells := 0, slots := 0, locals := 0 } : Room) g [.ref xx] [(xx, .inr (1, [.int 0, .int 0, .ref (a 2), .ref (a 3), .int 0, .ref (a 5), .ref (a 6), .ref (a 7), .ref (a 8), .ref (a 9), .int 0, .ref (a 11), .ref (a 12), .ref (a 13), .ref (a 14), .int e15, .int e16, .ref (a 17), .int e18, .int e19])), ((a 12), .inl (g.2.1.1, 64, .inl (upd (fun _ => 0) 0 0)))] sz (fun (r : Int32) (u : Unit) => r = 0) (fun (u : Unit) => [(xx, .inr (1, [.int 0, .int 0, .ref (a 2), .ref (a 3), .int 0, .ref (a 5), .ref (a 6), .ref (a 7), .ref (a 8), .ref (a 9), .int 0, .ref (a 11), .ref (a 12), .ref (a 13), .ref (a 14), .int e15, .int e16, .ref (a 17), .int e18, .int e19])), ((a 12), .inl (g.2.1.1, 64, .inl (upd (fun _ => 0) 0 0)))]) 0 0 := by
  refine g_of (l := l) (y := yX1_endOfWalk) (wy := wsX1_endOfWalk) (rm := ({ frames := 0, cells := 0, slots := 0, locals := 0 } : Room)) (g := g) (av := [.ref xx]) (ws := [(xx, .inr (1, [.int 0, .int 0, .ref (a 2), .ref (a 3), .int 0, .ref (a 5), .ref (a 6), .ref (a 7), .ref (a 8), .ref (a 9), .int 0, .ref (a 11), .ref (a 12), .ref (a 13), .ref (a 14), .int e15, .int e16, .ref (a 17), .int e18, .int e19])), ((a 12), .inl (g.2.1.1, 64, .inl (upd (fun _ => 0) 0 0)))]) (sz := sz) (mc := 0) (ms := 0) (Qc := fun A => va_Qi (fun (r : Int32) (u : Unit) => r = 0) (fun u t9 => gPost g A ((fun (u : Unit) => [(xx, .inr (1, [.int 0, .int 0, .ref (a 2), .ref (a 3), .int 0, .ref (a 5), .ref (a 6), .ref (a 7), .ref (a 8), .ref (a 9), .int 0, .ref (a 11), .ref (a 12), .ref (a 13), .ref (a 14), .int e15, .int e16, .ref (a 17), .int e18, .int e19])), ((a 12), .inl (g.2.1.1, 64, .inl (upd (fun _ => 0) 0 0)))]) u) t9) A) (cc := cX1_endOfWalk) (maxL := 4) (ret := some .int) (by decide) rfl (Nat.le_of_ble_eq_true rfl) ?_
  intro p e s m below meth c A ls hx hb hr hml hown hts hlocks hnm hA hK hE hP hD hS hl
  have hl : lv_has ls 4 [(0, .ref xx)] := hl
  have hown : s.vm.findClass RX1 = some m.cls := hown
  have hP : va_P g.1 vwCl [(xx, .inr (1, [.int 0, .int 0, .ref (a 2), .ref (a 3), .int 0, .ref (a 5), .ref (a 6), .ref (a 7), .ref (a 8), .ref (a 9), .int 0, .ref (a 11), .ref (a 12), .ref (a 13), .ref (a 14), .int e15, .int e16, .ref (a 17), .int e18, .int e19])), ((a 12), .inl (g.2.1.1, 64, .inl (upd (fun _ => 0) 0 0)))] s.heap := hP
  have hinX1 : ∀ w ∈ u_ws RX1 TX1 20, w ∈ wsX1_endOfWalk := by decide +kernel
  refine lv_iconst (v := 0) hx hb dX1_endOfWalk_0 (by decide) ?_
  refine lv_istore_n (lv' := [(1, .int 0), (0, .ref xx)]) hx hb dX1_endOfWalk_1 rfl hl (by decide) rfl (fun ls hl => ?_)
  refine lv_iconst (v := 0) hx hb dX1_endOfWalk_2 (by decide) ?_
  refine lv_istore_n (lv' := [(2, .int 0), (1, .int 0), (0, .ref xx)]) hx hb dX1_endOfWalk_3 rfl hl (by decide) rfl (fun ls hl => ?_)
  refine lv_iload_n hx hb dX1_endOfWalk_4 rfl (lv_at hl 0 rfl) ?_
  refine lv_aload_n hx hb dX1_endOfWalk_5 rfl (lv_at hl 2 rfl) ?_
  refine va_get (D := g.1) (ci := 1) (v := .int 0) (C := RX1) (T := TX1) (N := 20) hx hb hts hinX1 hown hK hP 0 rfl rfl 4 (by decide) (hts (.fieldLink RX1 79 "DefaultReasoner" "defaultTotal" "I") (by decide +kernel)) (fun _ h9 => h9) rfl dX1_endOfWalk_6 ?_
  refine lv_icmp_ge (tgt := 38) hx hb dX1_endOfWalk_9 (by decide) (fun _ => ?_) (fun c9 => absurd (by decide) c9)
  refine lv_aload_n hx hb dX1_endOfWalk_38 rfl (lv_at hl 2 rfl) ?_
  refine va_get (D := g.1) (ci := 1) (v := .ref (a 12)) (C := RX1) (T := TX1) (N := 20) hx hb hts hinX1 hown hK hP 0 rfl rfl 12 (by decide) (hts (.fieldLink RX1 38 "DefaultReasoner" "held" "[I") (by decide +kernel)) (fun _ h9 => h9) rfl dX1_endOfWalk_39 ?_
  refine lv_iload_n hx hb dX1_endOfWalk_42 rfl (lv_at hl 1 rfl) ?_
  refine va_iald hx hb hK hP 1 0 rfl rfl (by unfold vp_in; decide) dX1_endOfWalk_43 ?_
  refine sy_i (y := 0) (rfl) ?_
  exact g_ir hx hb hr hlocks hP hD hS () [0, 1] rfl (by decide) rfl dX1_endOfWalk_44 (Nat.le_of_ble_eq_true rfl) (Nat.le_of_ble_eq_true rfl) (rfl)
set_option maxHeartbeats 4000000 in
set_option maxRecDepth 100000 in
theorem c_X1_markPreferred (l : Launch) (g : gG) (sz : Nat) (xx : Nat) (a : Nat → Nat) : gMv l yX1_markPreferred wsX1_markPreferred ({ frames := 0, cells := 0, slots := 0, locals := 0 } : Room) g [.ref xx, .int 0] [(xx, .inr (1, [.int 0, .int 0, .ref (a 2), .ref (a 3), .int 0, .ref (a 5), .ref (a 6), .ref (a 7), .ref (a 8), .ref (a 9), .int 0, .ref (a 11), .ref (a 12), .ref (a 13), .ref (a 14), .int 1, .int 1, .ref (a 17), .int 0, .int 0])), ((a 14), .inl (g.2.1.1, 64, .inl (upd (fun _ => 0) 0 0))), ((a 17), .inl (g.2.1.2.1, 64, .inl (upd (fun _ => 0) 0 0)))] sz (fun (u : Unit) => True) (fun (u : Unit) => [(xx, .inr (1, [.int 0, .int 0, .ref (a 2), .ref (a 3), .int 0, .ref (a 5), .ref (a 6), .ref (a 7), .ref (a 8), .ref (a 9), .int 0, .ref (a 11), .ref (a 12), .ref (a 13), .ref (a 14), .int 1, .int 1, .ref (a 17), .int 1, .int 0])), ((a 14), .inl (g.2.1.1, 64, .inl (upd (fun _ => 0) 0 0))), ((a 17), .inl (g.2.1.2.1, 64, .inl (upd (upd (fun _ => 0) 0 0) 0 1)))]) 0 0 := by
  refine g_of (l := l) (y := yX1_markPreferred) (wy := wsX1_markPreferred) (rm := ({ frames := 0, cells := 0, slots := 0, locals := 0 } : Room)) (g := g) (av := [.ref xx, .int 0]) (ws := [(xx, .inr (1, [.int 0, .int 0, .ref (a 2), .ref (a 3), .int 0, .ref (a 5), .ref (a 6), .ref (a 7), .ref (a 8), .ref (a 9), .int 0, .ref (a 11), .ref (a 12), .ref (a 13), .ref (a 14), .int 1, .int 1, .ref (a 17), .int 0, .int 0])), ((a 14), .inl (g.2.1.1, 64, .inl (upd (fun _ => 0) 0 0))), ((a 17), .inl (g.2.1.2.1, 64, .inl (upd (fun _ => 0) 0 0)))]) (sz := sz) (mc := 0) (ms := 0) (Qc := fun A => va_Qv (fun (u : Unit) => True) (fun u t9 => gPost g A ((fun (u : Unit) => [(xx, .inr (1, [.int 0, .int 0, .ref (a 2), .ref (a 3), .int 0, .ref (a 5), .ref (a 6), .ref (a 7), .ref (a 8), .ref (a 9), .int 0, .ref (a 11), .ref (a 12), .ref (a 13), .ref (a 14), .int 1, .int 1, .ref (a 17), .int 1, .int 0])), ((a 14), .inl (g.2.1.1, 64, .inl (upd (fun _ => 0) 0 0))), ((a 17), .inl (g.2.1.2.1, 64, .inl (upd (upd (fun _ => 0) 0 0) 0 1)))]) u) t9) A) (cc := cX1_markPreferred) (maxL := 3) (ret := none) (by decide) rfl (Nat.le_of_ble_eq_true rfl) ?_
  intro p e s m below meth c A ls hx hb hr hml hown hts hlocks hnm hA hK hE hP hD hS hl
  have hl : lv_has ls 3 [(0, .ref xx), (1, .int 0)] := hl
  have hown : s.vm.findClass RX1 = some m.cls := hown
  have hP : va_P g.1 vwCl [(xx, .inr (1, [.int 0, .int 0, .ref (a 2), .ref (a 3), .int 0, .ref (a 5), .ref (a 6), .ref (a 7), .ref (a 8), .ref (a 9), .int 0, .ref (a 11), .ref (a 12), .ref (a 13), .ref (a 14), .int 1, .int 1, .ref (a 17), .int 0, .int 0])), ((a 14), .inl (g.2.1.1, 64, .inl (upd (fun _ => 0) 0 0))), ((a 17), .inl (g.2.1.2.1, 64, .inl (upd (fun _ => 0) 0 0)))] s.heap := hP
  have hinX1 : ∀ w ∈ u_ws RX1 TX1 20, w ∈ wsX1_markPreferred := by decide +kernel
  refine lv_iconst (v := 0) hx hb dX1_markPreferred_0 (by decide) ?_
  refine lv_istore_n (lv' := [(2, .int 0), (0, .ref xx), (1, .int 0)]) hx hb dX1_markPreferred_1 rfl hl (by decide) rfl (fun ls hl => ?_)
  refine lv_iload_n hx hb dX1_markPreferred_2 rfl (lv_at hl 0 rfl) ?_
  refine lv_aload_n hx hb dX1_markPreferred_3 rfl (lv_at hl 1 rfl) ?_
  refine va_get (D := g.1) (ci := 1) (v := .int 1) (C := RX1) (T := TX1) (N := 20) hx hb hts hinX1 hown hK hP 0 rfl rfl 15 (by decide) (hts (.fieldLink RX1 130 "DefaultReasoner" "extensionTotal" "I") (by decide +kernel)) (fun _ h9 => h9) rfl dX1_markPreferred_4 ?_
  refine lv_icmp_ge (tgt := 52) hx hb dX1_markPreferred_7 (by decide) (fun c9 => absurd c9 (by decide)) (fun _ => ?_)
  refine lv_aload_n hx hb dX1_markPreferred_10 rfl (lv_at hl 1 rfl) ?_
  refine va_get (D := g.1) (ci := 1) (v := .ref (a 14)) (C := RX1) (T := TX1) (N := 20) hx hb hts hinX1 hown hK hP 0 rfl rfl 14 (by decide) (hts (.fieldLink RX1 44 "DefaultReasoner" "extensions" "[I") (by decide +kernel)) (fun _ h9 => h9) rfl dX1_markPreferred_11 ?_
  refine lv_iload_n hx hb dX1_markPreferred_14 rfl (lv_at hl 0 rfl) ?_
  refine va_iald hx hb hK hP 1 0 rfl rfl (by unfold vp_in; decide) dX1_markPreferred_15 ?_
  refine sy_i (y := 0) (rfl) ?_
  refine lv_iload_n hx hb dX1_markPreferred_16 rfl (lv_at hl 2 rfl) ?_
  refine lv_icmp_ne (tgt := 46) hx hb dX1_markPreferred_17 (by decide) (fun c9 => absurd (by decide) c9) (fun _ => ?_)
  refine lv_aload_n hx hb dX1_markPreferred_20 rfl (lv_at hl 1 rfl) ?_
  refine va_get (D := g.1) (ci := 1) (v := .ref (a 17)) (C := RX1) (T := TX1) (N := 20) hx hb hts hinX1 hown hK hP 0 rfl rfl 17 (by decide) (hts (.fieldLink RX1 47 "DefaultReasoner" "preferred" "[Z") (by decide +kernel)) (fun _ h9 => h9) rfl dX1_markPreferred_21 ?_
  refine lv_iload_n hx hb dX1_markPreferred_24 rfl (lv_at hl 0 rfl) ?_
  refine va_zald hx hb hK hP 2 1 rfl rfl (by unfold vp_in; decide) dX1_markPreferred_25 ?_
  refine sy_i (y := 0) (rfl) ?_
  refine lv_if_ne (tgt := 46) hx hb dX1_markPreferred_26 (by decide) (fun c9 => absurd (by decide) c9) (fun _ => ?_)
  refine lv_aload_n hx hb dX1_markPreferred_29 rfl (lv_at hl 1 rfl) ?_
  refine va_get (D := g.1) (ci := 1) (v := .ref (a 17)) (C := RX1) (T := TX1) (N := 20) hx hb hts hinX1 hown hK hP 0 rfl rfl 17 (by decide) (hts (.fieldLink RX1 47 "DefaultReasoner" "preferred" "[Z") (by decide +kernel)) (fun _ h9 => h9) rfl dX1_markPreferred_30 ?_
  refine lv_iload_n hx hb dX1_markPreferred_33 rfl (lv_at hl 0 rfl) ?_
  refine lv_iconst (v := 1) hx hb dX1_markPreferred_34 (by decide) ?_
  refine va_zast hx hb hK hP hD hS 2 1 rfl rfl (by unfold vp_in; decide) dX1_markPreferred_35 (fun H locs hP hD hS => ?_)
  have hP : va_P g.1 vwCl [(xx, .inr (1, [.int 0, .int 0, .ref (a 2), .ref (a 3), .int 0, .ref (a 5), .ref (a 6), .ref (a 7), .ref (a 8), .ref (a 9), .int 0, .ref (a 11), .ref (a 12), .ref (a 13), .ref (a 14), .int 1, .int 1, .ref (a 17), .int 0, .int 0])), ((a 14), .inl (g.2.1.1, 64, .inl (upd (fun _ => 0) 0 0))), ((a 17), .inl (g.2.1.2.1, 64, .inl (upd (upd (fun _ => 0) 0 0) 0 1)))] H := hP
  have hD : va_D A [(xx, .inr (1, [.int 0, .int 0, .ref (a 2), .ref (a 3), .int 0, .ref (a 5), .ref (a 6), .ref (a 7), .ref (a 8), .ref (a 9), .int 0, .ref (a 11), .ref (a 12), .ref (a 13), .ref (a 14), .int 1, .int 1, .ref (a 17), .int 0, .int 0])), ((a 14), .inl (g.2.1.1, 64, .inl (upd (fun _ => 0) 0 0))), ((a 17), .inl (g.2.1.2.1, 64, .inl (upd (upd (fun _ => 0) 0 0) 0 1)))] := hD
  refine lv_aload_n hx hb dX1_markPreferred_36 rfl (lv_at hl 1 rfl) ?_
  refine lv_dup hx hb dX1_markPreferred_37 rfl ?_
  refine va_get (D := g.1) (ci := 1) (v := .int 0) (C := RX1) (T := TX1) (N := 20) hx hb hts hinX1 hown hK hP 0 rfl rfl 18 (by decide) (hts (.fieldLink RX1 139 "DefaultReasoner" "preferredTotal" "I") (by decide +kernel)) (fun _ h9 => h9) rfl dX1_markPreferred_38 ?_
  refine lv_iconst (v := 1) hx hb dX1_markPreferred_41 (by decide) ?_
  refine lv_iadd hx hb dX1_markPreferred_42 ?_
  refine sy_i (y := 1) (by decide) ?_
  refine va_put (D := g.1) (ci := 1) (v := .int 1) (ty := .int) (C := RX1) (T := TX1) (N := 20) hx hb hts hinX1 tyX1 tyX1_ok nmX1 hown hK hP hD hS 0 rfl rfl 18 (by decide) (hts (.fieldLink RX1 139 "DefaultReasoner" "preferredTotal" "I") (by decide +kernel)) (fun _ h9 => h9) rfl (by decide +kernel) rfl rfl (Nat.le_of_ble_eq_true rfl) dX1_markPreferred_43 (fun H locs hP hD hS => ?_)
  have hP : va_P g.1 vwCl [(xx, .inr (1, [.int 0, .int 0, .ref (a 2), .ref (a 3), .int 0, .ref (a 5), .ref (a 6), .ref (a 7), .ref (a 8), .ref (a 9), .int 0, .ref (a 11), .ref (a 12), .ref (a 13), .ref (a 14), .int 1, .int 1, .ref (a 17), .int 1, .int 0])), ((a 14), .inl (g.2.1.1, 64, .inl (upd (fun _ => 0) 0 0))), ((a 17), .inl (g.2.1.2.1, 64, .inl (upd (upd (fun _ => 0) 0 0) 0 1)))] H := hP
  have hD : va_D A [(xx, .inr (1, [.int 0, .int 0, .ref (a 2), .ref (a 3), .int 0, .ref (a 5), .ref (a 6), .ref (a 7), .ref (a 8), .ref (a 9), .int 0, .ref (a 11), .ref (a 12), .ref (a 13), .ref (a 14), .int 1, .int 1, .ref (a 17), .int 1, .int 0])), ((a 14), .inl (g.2.1.1, 64, .inl (upd (fun _ => 0) 0 0))), ((a 17), .inl (g.2.1.2.1, 64, .inl (upd (upd (fun _ => 0) 0 0) 0 1)))] := hD
  refine lv_iinc (v := 1) (lv' := [(2, .int 1), (0, .ref xx), (1, .int 0)]) hx hb dX1_markPreferred_46 hl (k := 0) rfl (by decide) (by decide) rfl (fun ls hl => ?_)
  refine lv_goto (tgt := 2) hx hb dX1_markPreferred_49 (by decide) ?_
  refine lv_iload_n hx hb dX1_markPreferred_2 rfl (lv_at hl 0 rfl) ?_
  refine lv_aload_n hx hb dX1_markPreferred_3 rfl (lv_at hl 1 rfl) ?_
  refine va_get (D := g.1) (ci := 1) (v := .int 1) (C := RX1) (T := TX1) (N := 20) hx hb hts hinX1 hown hK hP 0 rfl rfl 15 (by decide) (hts (.fieldLink RX1 130 "DefaultReasoner" "extensionTotal" "I") (by decide +kernel)) (fun _ h9 => h9) rfl dX1_markPreferred_4 ?_
  refine lv_icmp_ge (tgt := 52) hx hb dX1_markPreferred_7 (by decide) (fun _ => ?_) (fun c9 => absurd (by decide) c9)
  exact g_vr hx hb hr hlocks hP hD hS () [0, 1, 2] rfl (by decide) rfl dX1_markPreferred_52 (Nat.le_of_ble_eq_true rfl) (Nat.le_of_ble_eq_true rfl) (trivial)
set_option maxHeartbeats 4000000 in
set_option maxRecDepth 100000 in
theorem c_X1_findPreferred (l : Launch) (g : gG) (sz : Nat) (xx : Nat) (a : Nat → Nat) : gMv l yX1_findPreferred wsX1_findPreferred ({ frames := 3, cells := 0, slots := 0, locals := 67 } : Room) g [.ref xx] [(xx, .inr (1, [.int 0, .int 0, .ref (a 2), .ref (a 3), .int 0, .ref (a 5), .ref (a 6), .ref (a 7), .ref (a 8), .ref (a 9), .int 0, .ref (a 11), .ref (a 12), .ref (a 13), .ref (a 14), .int 0, .int 0, .ref (a 17), .int 0, .int 0])), ((a 12), .inl (g.2.1.1, 64, .inl (fun _ => 0))), ((a 13), .inl (g.2.1.1, 64, .inl (fun _ => 0))), ((a 14), .inl (g.2.1.1, 64, .inl (fun _ => 0))), ((a 17), .inl (g.2.1.2.1, 64, .inl (fun _ => 0)))] sz (fun (u : Unit) => True) (fun (u : Unit) => [(xx, .inr (1, [.int 0, .int 0, .ref (a 2), .ref (a 3), .int 0, .ref (a 5), .ref (a 6), .ref (a 7), .ref (a 8), .ref (a 9), .int 0, .ref (a 11), .ref (a 12), .ref (a 13), .ref (a 14), .int 1, .int 1, .ref (a 17), .int 1, .int 1])), ((a 12), .inl (g.2.1.1, 64, .inl (upd (fun _ => 0) 0 0))), ((a 13), .inl (g.2.1.1, 64, .inl (upd (fun _ => 0) 0 0))), ((a 14), .inl (g.2.1.1, 64, .inl (upd (fun _ => 0) 0 0))), ((a 17), .inl (g.2.1.2.1, 64, .inl (upd (upd (fun _ => 0) 0 0) 0 1)))]) 0 0 := by
  refine g_of (l := l) (y := yX1_findPreferred) (wy := wsX1_findPreferred) (rm := ({ frames := 3, cells := 0, slots := 0, locals := 67 } : Room)) (g := g) (av := [.ref xx]) (ws := [(xx, .inr (1, [.int 0, .int 0, .ref (a 2), .ref (a 3), .int 0, .ref (a 5), .ref (a 6), .ref (a 7), .ref (a 8), .ref (a 9), .int 0, .ref (a 11), .ref (a 12), .ref (a 13), .ref (a 14), .int 0, .int 0, .ref (a 17), .int 0, .int 0])), ((a 12), .inl (g.2.1.1, 64, .inl (fun _ => 0))), ((a 13), .inl (g.2.1.1, 64, .inl (fun _ => 0))), ((a 14), .inl (g.2.1.1, 64, .inl (fun _ => 0))), ((a 17), .inl (g.2.1.2.1, 64, .inl (fun _ => 0)))]) (sz := sz) (mc := 0) (ms := 0) (Qc := fun A => va_Qv (fun (u : Unit) => True) (fun u t9 => gPost g A ((fun (u : Unit) => [(xx, .inr (1, [.int 0, .int 0, .ref (a 2), .ref (a 3), .int 0, .ref (a 5), .ref (a 6), .ref (a 7), .ref (a 8), .ref (a 9), .int 0, .ref (a 11), .ref (a 12), .ref (a 13), .ref (a 14), .int 1, .int 1, .ref (a 17), .int 1, .int 1])), ((a 12), .inl (g.2.1.1, 64, .inl (upd (fun _ => 0) 0 0))), ((a 13), .inl (g.2.1.1, 64, .inl (upd (fun _ => 0) 0 0))), ((a 14), .inl (g.2.1.1, 64, .inl (upd (fun _ => 0) 0 0))), ((a 17), .inl (g.2.1.2.1, 64, .inl (upd (upd (fun _ => 0) 0 0) 0 1)))]) u) t9) A) (cc := cX1_findPreferred) (maxL := 3) (ret := none) (by decide) rfl (Nat.le_of_ble_eq_true rfl) ?_
  intro p e s m below meth c A ls hx hb hr hml hown hts hlocks hnm hA hK hE hP hD hS hl
  have hl : lv_has ls 3 [(0, .ref xx)] := hl
  have hown : s.vm.findClass RX1 = some m.cls := hown
  have hP : va_P g.1 vwCl [(xx, .inr (1, [.int 0, .int 0, .ref (a 2), .ref (a 3), .int 0, .ref (a 5), .ref (a 6), .ref (a 7), .ref (a 8), .ref (a 9), .int 0, .ref (a 11), .ref (a 12), .ref (a 13), .ref (a 14), .int 0, .int 0, .ref (a 17), .int 0, .int 0])), ((a 12), .inl (g.2.1.1, 64, .inl (fun _ => 0))), ((a 13), .inl (g.2.1.1, 64, .inl (fun _ => 0))), ((a 14), .inl (g.2.1.1, 64, .inl (fun _ => 0))), ((a 17), .inl (g.2.1.2.1, 64, .inl (fun _ => 0)))] s.heap := hP
  have hinX1 : ∀ w ∈ u_ws RX1 TX1 20, w ∈ wsX1_findPreferred := by decide +kernel
  refine lv_aload_n hx hb dX1_findPreferred_0 rfl (lv_at hl 0 rfl) ?_
  refine va_get (D := g.1) (ci := 1) (v := .int 0) (C := RX1) (T := TX1) (N := 20) hx hb hts hinX1 hown hK hP 0 rfl rfl 19 (by decide) (hts (.fieldLink RX1 106 "DefaultReasoner" "preferredKnown" "Z") (by decide +kernel)) (fun _ h9 => h9) rfl dX1_findPreferred_1 ?_
  refine lv_if_eq (tgt := 8) hx hb dX1_findPreferred_4 (by decide) (fun _ => ?_) (fun c9 => absurd (by decide) c9)
  refine lv_aload_n hx hb dX1_findPreferred_8 rfl (lv_at hl 0 rfl) ?_
  refine gj_v (wc := [(xx, .inr (1, [.int 0, .int 0, .ref (a 2), .ref (a 3), .int 0, .ref (a 5), .ref (a 6), .ref (a 7), .ref (a 8), .ref (a 9), .int 0, .ref (a 11), .ref (a 12), .ref (a 13), .ref (a 14), .int 0, .int 0, .ref (a 17), .int 0, .int 0])), ((a 12), .inl (g.2.1.1, 64, .inl (fun _ => 0))), ((a 13), .inl (g.2.1.1, 64, .inl (fun _ => 0))), ((a 14), .inl (g.2.1.1, 64, .inl (fun _ => 0)))]) (wr := [((a 17), .inl (g.2.1.2.1, 64, .inl (fun _ => 0)))]) (gr_V (n := 0) ⟨hx, hb, hml, hown, hts⟩ (c_X1_findExtensions l g s.heap.size xx a) gX1_findPreferred_X1_findExtensions rfl rfl rfl (by decide +kernel) ⟨Nat.le_of_ble_eq_true rfl, Nat.le_of_ble_eq_true rfl⟩ (gp_V hK hE hA hP hD hS [0, 1, 2, 3] rfl (by decide) rfl (q0 := 0) rfl rfl) rfl hl.1 rfl (Nat.le_of_ble_eq_true rfl) dX1_findPreferred_9 ⟨Nat.le_of_ble_eq_true rfl, Nat.le_of_ble_eq_true rfl⟩) hP hD hS hA [0, 1, 2, 3] [4] rfl rfl (by decide) (by decide) (fun u1 H locs hp1 hP hD hS => ?_)
  have hP : va_P g.1 vwCl [((a 17), .inl (g.2.1.2.1, 64, .inl (fun _ => 0))), (xx, .inr (1, [.int 0, .int 0, .ref (a 2), .ref (a 3), .int 0, .ref (a 5), .ref (a 6), .ref (a 7), .ref (a 8), .ref (a 9), .int 0, .ref (a 11), .ref (a 12), .ref (a 13), .ref (a 14), .int 1, .int 1, .ref (a 17), .int 0, .int 0])), ((a 12), .inl (g.2.1.1, 64, .inl (upd (fun _ => 0) 0 0))), ((a 13), .inl (g.2.1.1, 64, .inl (upd (fun _ => 0) 0 0))), ((a 14), .inl (g.2.1.1, 64, .inl (upd (fun _ => 0) 0 0)))] H := hP
  have hD : va_D A [((a 17), .inl (g.2.1.2.1, 64, .inl (fun _ => 0))), (xx, .inr (1, [.int 0, .int 0, .ref (a 2), .ref (a 3), .int 0, .ref (a 5), .ref (a 6), .ref (a 7), .ref (a 8), .ref (a 9), .int 0, .ref (a 11), .ref (a 12), .ref (a 13), .ref (a 14), .int 1, .int 1, .ref (a 17), .int 0, .int 0])), ((a 12), .inl (g.2.1.1, 64, .inl (upd (fun _ => 0) 0 0))), ((a 13), .inl (g.2.1.1, 64, .inl (upd (fun _ => 0) 0 0))), ((a 14), .inl (g.2.1.1, 64, .inl (upd (fun _ => 0) 0 0)))] := hD
  refine lv_iconst (v := 0) hx hb dX1_findPreferred_12 (by decide) ?_
  refine lv_istore_n (lv' := [(1, .int 0), (0, .ref xx)]) hx hb dX1_findPreferred_13 rfl hl (by decide) rfl (fun ls hl => ?_)
  refine lv_iload_n hx hb dX1_findPreferred_14 rfl (lv_at hl 0 rfl) ?_
  refine lv_aload_n hx hb dX1_findPreferred_15 rfl (lv_at hl 1 rfl) ?_
  refine va_get (D := g.1) (ci := 1) (v := .int 1) (C := RX1) (T := TX1) (N := 20) hx hb hts hinX1 hown hK hP 1 rfl rfl 15 (by decide) (hts (.fieldLink RX1 130 "DefaultReasoner" "extensionTotal" "I") (by decide +kernel)) (fun _ h9 => h9) rfl dX1_findPreferred_16 ?_
  refine lv_icmp_ge (tgt := 35) hx hb dX1_findPreferred_19 (by decide) (fun c9 => absurd c9 (by decide)) (fun _ => ?_)
  refine lv_aload_n hx hb dX1_findPreferred_22 rfl (lv_at hl 1 rfl) ?_
  refine va_get (D := g.1) (ci := 1) (v := .ref (a 17)) (C := RX1) (T := TX1) (N := 20) hx hb hts hinX1 hown hK hP 1 rfl rfl 17 (by decide) (hts (.fieldLink RX1 47 "DefaultReasoner" "preferred" "[Z") (by decide +kernel)) (fun _ h9 => h9) rfl dX1_findPreferred_23 ?_
  refine lv_iload_n hx hb dX1_findPreferred_26 rfl (lv_at hl 0 rfl) ?_
  refine lv_iconst (v := 0) hx hb dX1_findPreferred_27 (by decide) ?_
  refine va_zast hx hb hK hP hD hS 0 1 rfl rfl (by unfold vp_in; decide) dX1_findPreferred_28 (fun H locs hP hD hS => ?_)
  have hP : va_P g.1 vwCl [((a 17), .inl (g.2.1.2.1, 64, .inl (upd (fun _ => 0) 0 0))), (xx, .inr (1, [.int 0, .int 0, .ref (a 2), .ref (a 3), .int 0, .ref (a 5), .ref (a 6), .ref (a 7), .ref (a 8), .ref (a 9), .int 0, .ref (a 11), .ref (a 12), .ref (a 13), .ref (a 14), .int 1, .int 1, .ref (a 17), .int 0, .int 0])), ((a 12), .inl (g.2.1.1, 64, .inl (upd (fun _ => 0) 0 0))), ((a 13), .inl (g.2.1.1, 64, .inl (upd (fun _ => 0) 0 0))), ((a 14), .inl (g.2.1.1, 64, .inl (upd (fun _ => 0) 0 0)))] H := hP
  have hD : va_D A [((a 17), .inl (g.2.1.2.1, 64, .inl (upd (fun _ => 0) 0 0))), (xx, .inr (1, [.int 0, .int 0, .ref (a 2), .ref (a 3), .int 0, .ref (a 5), .ref (a 6), .ref (a 7), .ref (a 8), .ref (a 9), .int 0, .ref (a 11), .ref (a 12), .ref (a 13), .ref (a 14), .int 1, .int 1, .ref (a 17), .int 0, .int 0])), ((a 12), .inl (g.2.1.1, 64, .inl (upd (fun _ => 0) 0 0))), ((a 13), .inl (g.2.1.1, 64, .inl (upd (fun _ => 0) 0 0))), ((a 14), .inl (g.2.1.1, 64, .inl (upd (fun _ => 0) 0 0)))] := hD
  refine lv_iinc (v := 1) (lv' := [(1, .int 1), (0, .ref xx)]) hx hb dX1_findPreferred_29 hl (k := 0) rfl (by decide) (by decide) rfl (fun ls hl => ?_)
  refine lv_goto (tgt := 14) hx hb dX1_findPreferred_32 (by decide) ?_
  refine lv_iload_n hx hb dX1_findPreferred_14 rfl (lv_at hl 0 rfl) ?_
  refine lv_aload_n hx hb dX1_findPreferred_15 rfl (lv_at hl 1 rfl) ?_
  refine va_get (D := g.1) (ci := 1) (v := .int 1) (C := RX1) (T := TX1) (N := 20) hx hb hts hinX1 hown hK hP 1 rfl rfl 15 (by decide) (hts (.fieldLink RX1 130 "DefaultReasoner" "extensionTotal" "I") (by decide +kernel)) (fun _ h9 => h9) rfl dX1_findPreferred_16 ?_
  refine lv_icmp_ge (tgt := 35) hx hb dX1_findPreferred_19 (by decide) (fun _ => ?_) (fun c9 => absurd (by decide) c9)
  refine lv_aload_n hx hb dX1_findPreferred_35 rfl (lv_at hl 1 rfl) ?_
  refine lv_iconst (v := 0) hx hb dX1_findPreferred_36 (by decide) ?_
  refine va_put (D := g.1) (ci := 1) (v := .int 0) (ty := .int) (C := RX1) (T := TX1) (N := 20) hx hb hts hinX1 tyX1 tyX1_ok nmX1 hown hK hP hD hS 1 rfl rfl 18 (by decide) (hts (.fieldLink RX1 139 "DefaultReasoner" "preferredTotal" "I") (by decide +kernel)) (fun _ h9 => h9) rfl (by decide +kernel) rfl rfl (Nat.le_of_ble_eq_true rfl) dX1_findPreferred_37 (fun H locs hP hD hS => ?_)
  have hP : va_P g.1 vwCl [((a 17), .inl (g.2.1.2.1, 64, .inl (upd (fun _ => 0) 0 0))), (xx, .inr (1, [.int 0, .int 0, .ref (a 2), .ref (a 3), .int 0, .ref (a 5), .ref (a 6), .ref (a 7), .ref (a 8), .ref (a 9), .int 0, .ref (a 11), .ref (a 12), .ref (a 13), .ref (a 14), .int 1, .int 1, .ref (a 17), .int 0, .int 0])), ((a 12), .inl (g.2.1.1, 64, .inl (upd (fun _ => 0) 0 0))), ((a 13), .inl (g.2.1.1, 64, .inl (upd (fun _ => 0) 0 0))), ((a 14), .inl (g.2.1.1, 64, .inl (upd (fun _ => 0) 0 0)))] H := hP
  have hD : va_D A [((a 17), .inl (g.2.1.2.1, 64, .inl (upd (fun _ => 0) 0 0))), (xx, .inr (1, [.int 0, .int 0, .ref (a 2), .ref (a 3), .int 0, .ref (a 5), .ref (a 6), .ref (a 7), .ref (a 8), .ref (a 9), .int 0, .ref (a 11), .ref (a 12), .ref (a 13), .ref (a 14), .int 1, .int 1, .ref (a 17), .int 0, .int 0])), ((a 12), .inl (g.2.1.1, 64, .inl (upd (fun _ => 0) 0 0))), ((a 13), .inl (g.2.1.1, 64, .inl (upd (fun _ => 0) 0 0))), ((a 14), .inl (g.2.1.1, 64, .inl (upd (fun _ => 0) 0 0)))] := hD
  refine va_gets hx hb hE.2.2.2.1 hS hown (hts (.fieldLink RX1 178 "DefaultReasoner" "ORDERS" "[I") (by decide +kernel)) (fun _ h9 => h9) dX1_findPreferred_40 ?_
  refine lv_aload_n hx hb dX1_findPreferred_43 rfl (lv_at hl 1 rfl) ?_
  refine va_get (D := g.1) (ci := 1) (v := .int 0) (C := RX1) (T := TX1) (N := 20) hx hb hts hinX1 hown hK hP 1 rfl rfl 4 (by decide) (hts (.fieldLink RX1 79 "DefaultReasoner" "defaultTotal" "I") (by decide +kernel)) (fun _ h9 => h9) rfl dX1_findPreferred_44 ?_
  refine va_ti (v := .int 1) hx hb hE.2.2.2.2 hS (by unfold vp_in; decide) (rfl) dX1_findPreferred_47 ?_
  refine lv_istore_n (lv' := [(1, .int 1), (0, .ref xx)]) hx hb dX1_findPreferred_48 rfl hl (by decide) rfl (fun ls hl => ?_)
  refine lv_iconst (v := 0) hx hb dX1_findPreferred_49 (by decide) ?_
  refine lv_istore_n (lv' := [(2, .int 0), (1, .int 1), (0, .ref xx)]) hx hb dX1_findPreferred_50 rfl hl (by decide) rfl (fun ls hl => ?_)
  refine lv_iload_n hx hb dX1_findPreferred_51 rfl (lv_at hl 0 rfl) ?_
  refine lv_iload_n hx hb dX1_findPreferred_52 rfl (lv_at hl 1 rfl) ?_
  refine lv_icmp_ge (tgt := 93) hx hb dX1_findPreferred_53 (by decide) (fun c9 => absurd c9 (by decide)) (fun _ => ?_)
  refine lv_aload_n hx hb dX1_findPreferred_56 rfl (lv_at hl 2 rfl) ?_
  refine va_get (D := g.1) (ci := 1) (v := .int 0) (C := RX1) (T := TX1) (N := 20) hx hb hts hinX1 hown hK hP 1 rfl rfl 18 (by decide) (hts (.fieldLink RX1 139 "DefaultReasoner" "preferredTotal" "I") (by decide +kernel)) (fun _ h9 => h9) rfl dX1_findPreferred_57 ?_
  refine lv_aload_n hx hb dX1_findPreferred_60 rfl (lv_at hl 2 rfl) ?_
  refine va_get (D := g.1) (ci := 1) (v := .int 1) (C := RX1) (T := TX1) (N := 20) hx hb hts hinX1 hown hK hP 1 rfl rfl 15 (by decide) (hts (.fieldLink RX1 130 "DefaultReasoner" "extensionTotal" "I") (by decide +kernel)) (fun _ h9 => h9) rfl dX1_findPreferred_61 ?_
  refine lv_icmp_ge (tgt := 93) hx hb dX1_findPreferred_64 (by decide) (fun c9 => absurd c9 (by decide)) (fun _ => ?_)
  refine lv_aload_n hx hb dX1_findPreferred_67 rfl (lv_at hl 2 rfl) ?_
  refine lv_iload_n hx hb dX1_findPreferred_68 rfl (lv_at hl 0 rfl) ?_
  refine gj_v (wc := [(xx, .inr (1, [.int 0, .int 0, .ref (a 2), .ref (a 3), .int 0, .ref (a 5), .ref (a 6), .ref (a 7), .ref (a 8), .ref (a 9), .int 0, .ref (a 11), .ref (a 12), .ref (a 13), .ref (a 14), .int 1, .int 1, .ref (a 17), .int 0, .int 0]))]) (wr := [((a 17), .inl (g.2.1.2.1, 64, .inl (upd (fun _ => 0) 0 0))), ((a 12), .inl (g.2.1.1, 64, .inl (upd (fun _ => 0) 0 0))), ((a 13), .inl (g.2.1.1, 64, .inl (upd (fun _ => 0) 0 0))), ((a 14), .inl (g.2.1.1, 64, .inl (upd (fun _ => 0) 0 0)))]) (gr_V (n := 1) ⟨hx, hb, hml, hown, hts⟩ (c_X1_layOut l g H.size xx a 1 1 0 0 0) gX1_findPreferred_X1_layOut rfl rfl rfl (by decide +kernel) ⟨Nat.le_of_ble_eq_true rfl, Nat.le_of_ble_eq_true rfl⟩ (gp_V hK hE hA hP hD hS [1] rfl (by decide) rfl (q0 := 0) rfl rfl) rfl hl.1 rfl (Nat.le_of_ble_eq_true rfl) dX1_findPreferred_69 ⟨Nat.le_of_ble_eq_true rfl, Nat.le_of_ble_eq_true rfl⟩) hP hD hS hA [1] [0, 2, 3, 4] rfl rfl (by decide) (by decide) (fun u2 H locs hp2 hP hD hS => ?_)
  have hP : va_P g.1 vwCl [((a 17), .inl (g.2.1.2.1, 64, .inl (upd (fun _ => 0) 0 0))), ((a 12), .inl (g.2.1.1, 64, .inl (upd (fun _ => 0) 0 0))), ((a 13), .inl (g.2.1.1, 64, .inl (upd (fun _ => 0) 0 0))), ((a 14), .inl (g.2.1.1, 64, .inl (upd (fun _ => 0) 0 0))), (xx, .inr (1, [.int 0, .int 0, .ref (a 2), .ref (a 3), .int 0, .ref (a 5), .ref (a 6), .ref (a 7), .ref (a 8), .ref (a 9), .int 0, .ref (a 11), .ref (a 12), .ref (a 13), .ref (a 14), .int 1, .int 1, .ref (a 17), .int 0, .int 0]))] H := hP
  have hD : va_D A [((a 17), .inl (g.2.1.2.1, 64, .inl (upd (fun _ => 0) 0 0))), ((a 12), .inl (g.2.1.1, 64, .inl (upd (fun _ => 0) 0 0))), ((a 13), .inl (g.2.1.1, 64, .inl (upd (fun _ => 0) 0 0))), ((a 14), .inl (g.2.1.1, 64, .inl (upd (fun _ => 0) 0 0))), (xx, .inr (1, [.int 0, .int 0, .ref (a 2), .ref (a 3), .int 0, .ref (a 5), .ref (a 6), .ref (a 7), .ref (a 8), .ref (a 9), .int 0, .ref (a 11), .ref (a 12), .ref (a 13), .ref (a 14), .int 1, .int 1, .ref (a 17), .int 0, .int 0]))] := hD
  refine lv_aload_n hx hb dX1_findPreferred_72 rfl (lv_at hl 2 rfl) ?_
  refine gj_i (wc := [(xx, .inr (1, [.int 0, .int 0, .ref (a 2), .ref (a 3), .int 0, .ref (a 5), .ref (a 6), .ref (a 7), .ref (a 8), .ref (a 9), .int 0, .ref (a 11), .ref (a 12), .ref (a 13), .ref (a 14), .int 1, .int 1, .ref (a 17), .int 0, .int 0]))]) (wr := [((a 17), .inl (g.2.1.2.1, 64, .inl (upd (fun _ => 0) 0 0))), ((a 12), .inl (g.2.1.1, 64, .inl (upd (fun _ => 0) 0 0))), ((a 13), .inl (g.2.1.1, 64, .inl (upd (fun _ => 0) 0 0))), ((a 14), .inl (g.2.1.1, 64, .inl (upd (fun _ => 0) 0 0)))]) (gr_V (n := 0) ⟨hx, hb, hml, hown, hts⟩ (c_X1_keepsPriorities l g H.size xx a 1 1 0 0) gX1_findPreferred_X1_keepsPriorities rfl rfl rfl (by decide +kernel) ⟨Nat.le_of_ble_eq_true rfl, Nat.le_of_ble_eq_true rfl⟩ (gp_V hK hE hA hP hD hS [4] rfl (by decide) rfl (q0 := 0) rfl rfl) rfl hl.1 rfl (Nat.le_of_ble_eq_true rfl) dX1_findPreferred_73 ⟨Nat.le_of_ble_eq_true rfl, Nat.le_of_ble_eq_true rfl⟩) hP hD hS hA [4] [0, 1, 2, 3] rfl rfl (by decide) (by decide) (fun r3 u3 H locs hp3 hP hD hS => ?_)
  have hP : va_P g.1 vwCl [((a 17), .inl (g.2.1.2.1, 64, .inl (upd (fun _ => 0) 0 0))), ((a 12), .inl (g.2.1.1, 64, .inl (upd (fun _ => 0) 0 0))), ((a 13), .inl (g.2.1.1, 64, .inl (upd (fun _ => 0) 0 0))), ((a 14), .inl (g.2.1.1, 64, .inl (upd (fun _ => 0) 0 0))), (xx, .inr (1, [.int 0, .int 0, .ref (a 2), .ref (a 3), .int 0, .ref (a 5), .ref (a 6), .ref (a 7), .ref (a 8), .ref (a 9), .int 0, .ref (a 11), .ref (a 12), .ref (a 13), .ref (a 14), .int 1, .int 1, .ref (a 17), .int 0, .int 0]))] H := hP
  have hD : va_D A [((a 17), .inl (g.2.1.2.1, 64, .inl (upd (fun _ => 0) 0 0))), ((a 12), .inl (g.2.1.1, 64, .inl (upd (fun _ => 0) 0 0))), ((a 13), .inl (g.2.1.1, 64, .inl (upd (fun _ => 0) 0 0))), ((a 14), .inl (g.2.1.1, 64, .inl (upd (fun _ => 0) 0 0))), (xx, .inr (1, [.int 0, .int 0, .ref (a 2), .ref (a 3), .int 0, .ref (a 5), .ref (a 6), .ref (a 7), .ref (a 8), .ref (a 9), .int 0, .ref (a 11), .ref (a 12), .ref (a 13), .ref (a 14), .int 1, .int 1, .ref (a 17), .int 0, .int 0]))] := hD
  have hp3 : r3 = 1 := hp3.trans (by decide)
  subst hp3
  refine lv_if_eq (tgt := 87) hx hb dX1_findPreferred_76 (by decide) (fun c9 => absurd c9 (by decide)) (fun _ => ?_)
  refine lv_aload_n hx hb dX1_findPreferred_79 rfl (lv_at hl 2 rfl) ?_
  refine lv_aload_n hx hb dX1_findPreferred_80 rfl (lv_at hl 2 rfl) ?_
  refine gj_i (wc := [(xx, .inr (1, [.int 0, .int 0, .ref (a 2), .ref (a 3), .int 0, .ref (a 5), .ref (a 6), .ref (a 7), .ref (a 8), .ref (a 9), .int 0, .ref (a 11), .ref (a 12), .ref (a 13), .ref (a 14), .int 1, .int 1, .ref (a 17), .int 0, .int 0])), ((a 12), .inl (g.2.1.1, 64, .inl (upd (fun _ => 0) 0 0)))]) (wr := [((a 17), .inl (g.2.1.2.1, 64, .inl (upd (fun _ => 0) 0 0))), ((a 13), .inl (g.2.1.1, 64, .inl (upd (fun _ => 0) 0 0))), ((a 14), .inl (g.2.1.1, 64, .inl (upd (fun _ => 0) 0 0)))]) (gr_V (n := 0) ⟨hx, hb, hml, hown, hts⟩ (c_X1_endOfWalk l g H.size xx a 1 1 0 0) gX1_findPreferred_X1_endOfWalk rfl rfl rfl (by decide +kernel) ⟨Nat.le_of_ble_eq_true rfl, Nat.le_of_ble_eq_true rfl⟩ (gp_V hK hE hA hP hD hS [4, 1] rfl (by decide) rfl (q0 := 0) rfl rfl) rfl hl.1 rfl (Nat.le_of_ble_eq_true rfl) dX1_findPreferred_81 ⟨Nat.le_of_ble_eq_true rfl, Nat.le_of_ble_eq_true rfl⟩) hP hD hS hA [4, 1] [0, 2, 3] rfl rfl (by decide) (by decide) (fun r4 u4 H locs hp4 hP hD hS => ?_)
  have hP : va_P g.1 vwCl [((a 17), .inl (g.2.1.2.1, 64, .inl (upd (fun _ => 0) 0 0))), ((a 13), .inl (g.2.1.1, 64, .inl (upd (fun _ => 0) 0 0))), ((a 14), .inl (g.2.1.1, 64, .inl (upd (fun _ => 0) 0 0))), (xx, .inr (1, [.int 0, .int 0, .ref (a 2), .ref (a 3), .int 0, .ref (a 5), .ref (a 6), .ref (a 7), .ref (a 8), .ref (a 9), .int 0, .ref (a 11), .ref (a 12), .ref (a 13), .ref (a 14), .int 1, .int 1, .ref (a 17), .int 0, .int 0])), ((a 12), .inl (g.2.1.1, 64, .inl (upd (fun _ => 0) 0 0)))] H := hP
  have hD : va_D A [((a 17), .inl (g.2.1.2.1, 64, .inl (upd (fun _ => 0) 0 0))), ((a 13), .inl (g.2.1.1, 64, .inl (upd (fun _ => 0) 0 0))), ((a 14), .inl (g.2.1.1, 64, .inl (upd (fun _ => 0) 0 0))), (xx, .inr (1, [.int 0, .int 0, .ref (a 2), .ref (a 3), .int 0, .ref (a 5), .ref (a 6), .ref (a 7), .ref (a 8), .ref (a 9), .int 0, .ref (a 11), .ref (a 12), .ref (a 13), .ref (a 14), .int 1, .int 1, .ref (a 17), .int 0, .int 0])), ((a 12), .inl (g.2.1.1, 64, .inl (upd (fun _ => 0) 0 0)))] := hD
  have hp4 : r4 = 0 := hp4.trans (by decide)
  subst hp4
  refine gj_v (wc := [(xx, .inr (1, [.int 0, .int 0, .ref (a 2), .ref (a 3), .int 0, .ref (a 5), .ref (a 6), .ref (a 7), .ref (a 8), .ref (a 9), .int 0, .ref (a 11), .ref (a 12), .ref (a 13), .ref (a 14), .int 1, .int 1, .ref (a 17), .int 0, .int 0])), ((a 14), .inl (g.2.1.1, 64, .inl (upd (fun _ => 0) 0 0))), ((a 17), .inl (g.2.1.2.1, 64, .inl (upd (fun _ => 0) 0 0)))]) (wr := [((a 13), .inl (g.2.1.1, 64, .inl (upd (fun _ => 0) 0 0))), ((a 12), .inl (g.2.1.1, 64, .inl (upd (fun _ => 0) 0 0)))]) (gr_V (n := 1) ⟨hx, hb, hml, hown, hts⟩ (c_X1_markPreferred l g H.size xx a) gX1_findPreferred_X1_markPreferred rfl rfl rfl (by decide +kernel) ⟨Nat.le_of_ble_eq_true rfl, Nat.le_of_ble_eq_true rfl⟩ (gp_V hK hE hA hP hD hS [3, 2, 0] rfl (by decide) rfl (q0 := 0) rfl rfl) rfl hl.1 rfl (Nat.le_of_ble_eq_true rfl) dX1_findPreferred_84 ⟨Nat.le_of_ble_eq_true rfl, Nat.le_of_ble_eq_true rfl⟩) hP hD hS hA [3, 2, 0] [1, 4] rfl rfl (by decide) (by decide) (fun u5 H locs hp5 hP hD hS => ?_)
  have hP : va_P g.1 vwCl [((a 13), .inl (g.2.1.1, 64, .inl (upd (fun _ => 0) 0 0))), ((a 12), .inl (g.2.1.1, 64, .inl (upd (fun _ => 0) 0 0))), (xx, .inr (1, [.int 0, .int 0, .ref (a 2), .ref (a 3), .int 0, .ref (a 5), .ref (a 6), .ref (a 7), .ref (a 8), .ref (a 9), .int 0, .ref (a 11), .ref (a 12), .ref (a 13), .ref (a 14), .int 1, .int 1, .ref (a 17), .int 1, .int 0])), ((a 14), .inl (g.2.1.1, 64, .inl (upd (fun _ => 0) 0 0))), ((a 17), .inl (g.2.1.2.1, 64, .inl (upd (upd (fun _ => 0) 0 0) 0 1)))] H := hP
  have hD : va_D A [((a 13), .inl (g.2.1.1, 64, .inl (upd (fun _ => 0) 0 0))), ((a 12), .inl (g.2.1.1, 64, .inl (upd (fun _ => 0) 0 0))), (xx, .inr (1, [.int 0, .int 0, .ref (a 2), .ref (a 3), .int 0, .ref (a 5), .ref (a 6), .ref (a 7), .ref (a 8), .ref (a 9), .int 0, .ref (a 11), .ref (a 12), .ref (a 13), .ref (a 14), .int 1, .int 1, .ref (a 17), .int 1, .int 0])), ((a 14), .inl (g.2.1.1, 64, .inl (upd (fun _ => 0) 0 0))), ((a 17), .inl (g.2.1.2.1, 64, .inl (upd (upd (fun _ => 0) 0 0) 0 1)))] := hD
  refine lv_iinc (v := 1) (lv' := [(2, .int 1), (1, .int 1), (0, .ref xx)]) hx hb dX1_findPreferred_87 hl (k := 0) rfl (by decide) (by decide) rfl (fun ls hl => ?_)
  refine lv_goto (tgt := 51) hx hb dX1_findPreferred_90 (by decide) ?_
  refine lv_iload_n hx hb dX1_findPreferred_51 rfl (lv_at hl 0 rfl) ?_
  refine lv_iload_n hx hb dX1_findPreferred_52 rfl (lv_at hl 1 rfl) ?_
  refine lv_icmp_ge (tgt := 93) hx hb dX1_findPreferred_53 (by decide) (fun _ => ?_) (fun c9 => absurd (by decide) c9)
  refine lv_aload_n hx hb dX1_findPreferred_93 rfl (lv_at hl 2 rfl) ?_
  refine lv_iconst (v := 1) hx hb dX1_findPreferred_94 (by decide) ?_
  refine va_put (D := g.1) (ci := 1) (v := .int 1) (ty := .boolean) (C := RX1) (T := TX1) (N := 20) hx hb hts hinX1 tyX1 tyX1_ok nmX1 hown hK hP hD hS 2 rfl rfl 19 (by decide) (hts (.fieldLink RX1 106 "DefaultReasoner" "preferredKnown" "Z") (by decide +kernel)) (fun _ h9 => h9) rfl (by decide +kernel) rfl rfl (Nat.le_of_ble_eq_true rfl) dX1_findPreferred_95 (fun H locs hP hD hS => ?_)
  have hP : va_P g.1 vwCl [((a 13), .inl (g.2.1.1, 64, .inl (upd (fun _ => 0) 0 0))), ((a 12), .inl (g.2.1.1, 64, .inl (upd (fun _ => 0) 0 0))), (xx, .inr (1, [.int 0, .int 0, .ref (a 2), .ref (a 3), .int 0, .ref (a 5), .ref (a 6), .ref (a 7), .ref (a 8), .ref (a 9), .int 0, .ref (a 11), .ref (a 12), .ref (a 13), .ref (a 14), .int 1, .int 1, .ref (a 17), .int 1, .int 1])), ((a 14), .inl (g.2.1.1, 64, .inl (upd (fun _ => 0) 0 0))), ((a 17), .inl (g.2.1.2.1, 64, .inl (upd (upd (fun _ => 0) 0 0) 0 1)))] H := hP
  have hD : va_D A [((a 13), .inl (g.2.1.1, 64, .inl (upd (fun _ => 0) 0 0))), ((a 12), .inl (g.2.1.1, 64, .inl (upd (fun _ => 0) 0 0))), (xx, .inr (1, [.int 0, .int 0, .ref (a 2), .ref (a 3), .int 0, .ref (a 5), .ref (a 6), .ref (a 7), .ref (a 8), .ref (a 9), .int 0, .ref (a 11), .ref (a 12), .ref (a 13), .ref (a 14), .int 1, .int 1, .ref (a 17), .int 1, .int 1])), ((a 14), .inl (g.2.1.1, 64, .inl (upd (fun _ => 0) 0 0))), ((a 17), .inl (g.2.1.2.1, 64, .inl (upd (upd (fun _ => 0) 0 0) 0 1)))] := hD
  exact g_vr hx hb hr hlocks hP hD hS () [2, 1, 0, 3, 4] rfl (by decide) rfl dX1_findPreferred_98 (Nat.le_of_ble_eq_true rfl) (Nat.le_of_ble_eq_true rfl) (trivial)
set_option maxHeartbeats 4000000 in
set_option maxRecDepth 100000 in
theorem c_J6_bitCount0 (l : Launch) (g : gG) (sz : Nat) : gMi l yJ6_bitCount_0f7a4 wsJ6_bitCount_0f7a4 ({ frames := 0, cells := 0, slots := 0, locals := 0 } : Room) g [.int 0] [] sz (fun (r : Int32) (u : Unit) => r = 0) (fun (u : Unit) => []) 0 0 := by
  refine g_of (l := l) (y := yJ6_bitCount_0f7a4) (wy := wsJ6_bitCount_0f7a4) (rm := ({ frames := 0, cells := 0, slots := 0, locals := 0 } : Room)) (g := g) (av := [.int 0]) (ws := []) (sz := sz) (mc := 0) (ms := 0) (Qc := fun A => va_Qi (fun (r : Int32) (u : Unit) => r = 0) (fun u t9 => gPost g A ((fun (u : Unit) => []) u) t9) A) (cc := cJ6_bitCount_0f7a4) (maxL := 1) (ret := some .int) (by decide) rfl (Nat.le_of_ble_eq_true rfl) ?_
  intro p e s m below meth c A ls hx hb hr hml hown hts hlocks hnm hA hK hE hP hD hS hl
  have hl : lv_has ls 1 [(0, .int 0)] := hl
  have hown : s.vm.findClass RJ6 = some m.cls := hown
  have hP : va_P g.1 vwCl [] s.heap := hP
  refine lv_iload_n hx hb dJ6_bitCount_0f7a4_0 rfl (lv_at hl 0 rfl) ?_
  refine lv_iload_n hx hb dJ6_bitCount_0f7a4_1 rfl (lv_at hl 0 rfl) ?_
  refine lv_iconst (v := 1) hx hb dJ6_bitCount_0f7a4_2 (by decide) ?_
  refine lv_iushr (v := 0) hx hb dJ6_bitCount_0f7a4_3 (by decide) ?_
  refine lv_ldcw (v := 1431655765) hx hb hown (hts (.constant RJ6 265 (1431655765)) (by decide +kernel)) dJ6_bitCount_0f7a4_4 ?_
  refine lv_iand hx hb dJ6_bitCount_0f7a4_7 ?_
  refine sy_i (y := 0) (by decide) ?_
  refine lv_isub hx hb dJ6_bitCount_0f7a4_8 ?_
  refine sy_i (y := 0) (by decide) ?_
  refine lv_istore_n (lv' := [(0, .int 0)]) hx hb dJ6_bitCount_0f7a4_9 rfl hl (by decide) rfl (fun ls hl => ?_)
  refine lv_iload_n hx hb dJ6_bitCount_0f7a4_10 rfl (lv_at hl 0 rfl) ?_
  refine lv_ldcw (v := 858993459) hx hb hown (hts (.constant RJ6 266 (858993459)) (by decide +kernel)) dJ6_bitCount_0f7a4_11 ?_
  refine lv_iand hx hb dJ6_bitCount_0f7a4_14 ?_
  refine sy_i (y := 0) (by decide) ?_
  refine lv_iload_n hx hb dJ6_bitCount_0f7a4_15 rfl (lv_at hl 0 rfl) ?_
  refine lv_iconst (v := 2) hx hb dJ6_bitCount_0f7a4_16 (by decide) ?_
  refine lv_iushr (v := 0) hx hb dJ6_bitCount_0f7a4_17 (by decide) ?_
  refine lv_ldcw (v := 858993459) hx hb hown (hts (.constant RJ6 266 (858993459)) (by decide +kernel)) dJ6_bitCount_0f7a4_18 ?_
  refine lv_iand hx hb dJ6_bitCount_0f7a4_21 ?_
  refine sy_i (y := 0) (by decide) ?_
  refine lv_iadd hx hb dJ6_bitCount_0f7a4_22 ?_
  refine sy_i (y := 0) (by decide) ?_
  refine lv_istore_n (lv' := [(0, .int 0)]) hx hb dJ6_bitCount_0f7a4_23 rfl hl (by decide) rfl (fun ls hl => ?_)
  refine lv_iload_n hx hb dJ6_bitCount_0f7a4_24 rfl (lv_at hl 0 rfl) ?_
  refine lv_iload_n hx hb dJ6_bitCount_0f7a4_25 rfl (lv_at hl 0 rfl) ?_
  refine lv_iconst (v := 4) hx hb dJ6_bitCount_0f7a4_26 (by decide) ?_
  refine lv_iushr (v := 0) hx hb dJ6_bitCount_0f7a4_27 (by decide) ?_
  refine lv_iadd hx hb dJ6_bitCount_0f7a4_28 ?_
  refine sy_i (y := 0) (by decide) ?_
  refine lv_ldcw (v := 252645135) hx hb hown (hts (.constant RJ6 267 (252645135)) (by decide +kernel)) dJ6_bitCount_0f7a4_29 ?_
  refine lv_iand hx hb dJ6_bitCount_0f7a4_32 ?_
  refine sy_i (y := 0) (by decide) ?_
  refine lv_istore_n (lv' := [(0, .int 0)]) hx hb dJ6_bitCount_0f7a4_33 rfl hl (by decide) rfl (fun ls hl => ?_)
  refine lv_iload_n hx hb dJ6_bitCount_0f7a4_34 rfl (lv_at hl 0 rfl) ?_
  refine lv_iload_n hx hb dJ6_bitCount_0f7a4_35 rfl (lv_at hl 0 rfl) ?_
  refine lv_bipush (v := 8) hx hb dJ6_bitCount_0f7a4_36 (by decide) ?_
  refine lv_iushr (v := 0) hx hb dJ6_bitCount_0f7a4_38 (by decide) ?_
  refine lv_iadd hx hb dJ6_bitCount_0f7a4_39 ?_
  refine sy_i (y := 0) (by decide) ?_
  refine lv_istore_n (lv' := [(0, .int 0)]) hx hb dJ6_bitCount_0f7a4_40 rfl hl (by decide) rfl (fun ls hl => ?_)
  refine lv_iload_n hx hb dJ6_bitCount_0f7a4_41 rfl (lv_at hl 0 rfl) ?_
  refine lv_iload_n hx hb dJ6_bitCount_0f7a4_42 rfl (lv_at hl 0 rfl) ?_
  refine lv_bipush (v := 16) hx hb dJ6_bitCount_0f7a4_43 (by decide) ?_
  refine lv_iushr (v := 0) hx hb dJ6_bitCount_0f7a4_45 (by decide) ?_
  refine lv_iadd hx hb dJ6_bitCount_0f7a4_46 ?_
  refine sy_i (y := 0) (by decide) ?_
  refine lv_istore_n (lv' := [(0, .int 0)]) hx hb dJ6_bitCount_0f7a4_47 rfl hl (by decide) rfl (fun ls hl => ?_)
  refine lv_iload_n hx hb dJ6_bitCount_0f7a4_48 rfl (lv_at hl 0 rfl) ?_
  refine lv_bipush (v := 63) hx hb dJ6_bitCount_0f7a4_49 (by decide) ?_
  refine lv_iand hx hb dJ6_bitCount_0f7a4_51 ?_
  refine sy_i (y := 0) (by decide) ?_
  exact g_ir hx hb hr hlocks hP hD hS () [] rfl (by decide) rfl dJ6_bitCount_0f7a4_52 (Nat.le_of_ble_eq_true rfl) (Nat.le_of_ble_eq_true rfl) (rfl)
set_option maxHeartbeats 4000000 in
set_option maxRecDepth 100000 in
theorem c_X0_pairs (l : Launch) (g : gG) (sz : Nat) (h : Nat) (a : Nat → Nat) : gMi l yX0_pairs wsX0_pairs ({ frames := 1, cells := 0, slots := 0, locals := 20 } : Room) g [.ref h] [(h, .inr (0, [.ref (a 20), .ref (a 21)])), ((a 21), .inl (g.2.1.1, 6, .inl (fun _ => 0)))] sz (fun (r : Int32) (u : Unit) => r = 0) (fun (u : Unit) => [(h, .inr (0, [.ref (a 20), .ref (a 21)])), ((a 21), .inl (g.2.1.1, 6, .inl (fun _ => 0)))]) 0 0 := by
  refine g_of (l := l) (y := yX0_pairs) (wy := wsX0_pairs) (rm := ({ frames := 1, cells := 0, slots := 0, locals := 20 } : Room)) (g := g) (av := [.ref h]) (ws := [(h, .inr (0, [.ref (a 20), .ref (a 21)])), ((a 21), .inl (g.2.1.1, 6, .inl (fun _ => 0)))]) (sz := sz) (mc := 0) (ms := 0) (Qc := fun A => va_Qi (fun (r : Int32) (u : Unit) => r = 0) (fun u t9 => gPost g A ((fun (u : Unit) => [(h, .inr (0, [.ref (a 20), .ref (a 21)])), ((a 21), .inl (g.2.1.1, 6, .inl (fun _ => 0)))]) u) t9) A) (cc := cX0_pairs) (maxL := 3) (ret := some .int) (by decide) rfl (Nat.le_of_ble_eq_true rfl) ?_
  intro p e s m below meth c A ls hx hb hr hml hown hts hlocks hnm hA hK hE hP hD hS hl
  have hl : lv_has ls 3 [(0, .ref h)] := hl
  have hown : s.vm.findClass RX0 = some m.cls := hown
  have hP : va_P g.1 vwCl [(h, .inr (0, [.ref (a 20), .ref (a 21)])), ((a 21), .inl (g.2.1.1, 6, .inl (fun _ => 0)))] s.heap := hP
  have hinX0 : ∀ w ∈ u_ws RX0 TX0 2, w ∈ wsX0_pairs := by decide +kernel
  refine lv_iconst (v := 0) hx hb dX0_pairs_0 (by decide) ?_
  refine lv_istore_n (lv' := [(1, .int 0), (0, .ref h)]) hx hb dX0_pairs_1 rfl hl (by decide) rfl (fun ls hl => ?_)
  refine lv_iconst (v := 0) hx hb dX0_pairs_2 (by decide) ?_
  refine lv_istore_n (lv' := [(2, .int 0), (1, .int 0), (0, .ref h)]) hx hb dX0_pairs_3 rfl hl (by decide) rfl (fun ls hl => ?_)
  refine lv_iload_n hx hb dX0_pairs_4 rfl (lv_at hl 0 rfl) ?_
  refine lv_bipush (v := 6) hx hb dX0_pairs_5 (by decide) ?_
  refine lv_icmp_ge (tgt := 28) hx hb dX0_pairs_7 (by decide) (fun c9 => absurd c9 (by decide)) (fun _ => ?_)
  refine lv_iload_n hx hb dX0_pairs_10 rfl (lv_at hl 1 rfl) ?_
  refine lv_aload_n hx hb dX0_pairs_11 rfl (lv_at hl 2 rfl) ?_
  refine va_get (D := g.1) (ci := 0) (v := .ref (a 21)) (C := RX0) (T := TX0) (N := 2) hx hb hts hinX0 hown hK hP 0 rfl rfl 1 (by decide) (hts (.fieldLink RX0 15 "DefaultReasoner$Priorities" "reached" "[I") (by decide +kernel)) (fun _ h9 => h9) rfl dX0_pairs_12 ?_
  refine lv_iload_n hx hb dX0_pairs_15 rfl (lv_at hl 0 rfl) ?_
  refine va_iald hx hb hK hP 1 0 rfl rfl (by unfold vp_in; decide) dX0_pairs_16 ?_
  refine sy_i (y := 0) (rfl) ?_
  refine gj_i (wc := []) (wr := [(h, .inr (0, [.ref (a 20), .ref (a 21)])), ((a 21), .inl (g.2.1.1, 6, .inl (fun _ => 0)))]) (gr_S (n := 1) ⟨hx, hb, hml, hown, hts⟩ (c_J6_bitCount0 l g s.heap.size ) gX0_pairs_J6_bitCount_0f7a4 rfl rfl rfl (by decide +kernel) ⟨Nat.le_of_ble_eq_true rfl, Nat.le_of_ble_eq_true rfl⟩ (gp_S hK hE hA hP hD hS [] rfl (by decide) rfl) rfl hl.1 rfl (Nat.le_of_ble_eq_true rfl) dX0_pairs_17 ⟨Nat.le_of_ble_eq_true rfl, Nat.le_of_ble_eq_true rfl⟩) hP hD hS hA [] [0, 1] rfl rfl (by decide) (by decide) (fun r1 u1 H locs hp1 hP hD hS => ?_)
  have hP : va_P g.1 vwCl [(h, .inr (0, [.ref (a 20), .ref (a 21)])), ((a 21), .inl (g.2.1.1, 6, .inl (fun _ => 0)))] H := hP
  have hD : va_D A [(h, .inr (0, [.ref (a 20), .ref (a 21)])), ((a 21), .inl (g.2.1.1, 6, .inl (fun _ => 0)))] := hD
  have hp1 : r1 = 0 := hp1.trans (by decide)
  subst hp1
  refine lv_iadd hx hb dX0_pairs_20 ?_
  refine sy_i (y := 0) (by decide) ?_
  refine lv_istore_n (lv' := [(1, .int 0), (2, .int 0), (0, .ref h)]) hx hb dX0_pairs_21 rfl hl (by decide) rfl (fun ls hl => ?_)
  refine lv_iinc (v := 1) (lv' := [(2, .int 1), (1, .int 0), (0, .ref h)]) hx hb dX0_pairs_22 hl (k := 1) rfl (by decide) (by decide) rfl (fun ls hl => ?_)
  refine lv_goto (tgt := 4) hx hb dX0_pairs_25 (by decide) ?_
  refine lv_iload_n hx hb dX0_pairs_4 rfl (lv_at hl 0 rfl) ?_
  refine lv_bipush (v := 6) hx hb dX0_pairs_5 (by decide) ?_
  refine lv_icmp_ge (tgt := 28) hx hb dX0_pairs_7 (by decide) (fun c9 => absurd c9 (by decide)) (fun _ => ?_)
  refine lv_iload_n hx hb dX0_pairs_10 rfl (lv_at hl 1 rfl) ?_
  refine lv_aload_n hx hb dX0_pairs_11 rfl (lv_at hl 2 rfl) ?_
  refine va_get (D := g.1) (ci := 0) (v := .ref (a 21)) (C := RX0) (T := TX0) (N := 2) hx hb hts hinX0 hown hK hP 0 rfl rfl 1 (by decide) (hts (.fieldLink RX0 15 "DefaultReasoner$Priorities" "reached" "[I") (by decide +kernel)) (fun _ h9 => h9) rfl dX0_pairs_12 ?_
  refine lv_iload_n hx hb dX0_pairs_15 rfl (lv_at hl 0 rfl) ?_
  refine va_iald hx hb hK hP 1 0 rfl rfl (by unfold vp_in; decide) dX0_pairs_16 ?_
  refine sy_i (y := 0) (rfl) ?_
  refine gj_i (wc := []) (wr := [(h, .inr (0, [.ref (a 20), .ref (a 21)])), ((a 21), .inl (g.2.1.1, 6, .inl (fun _ => 0)))]) (gr_S (n := 1) ⟨hx, hb, hml, hown, hts⟩ (c_J6_bitCount0 l g H.size ) gX0_pairs_J6_bitCount_0f7a4 rfl rfl rfl (by decide +kernel) ⟨Nat.le_of_ble_eq_true rfl, Nat.le_of_ble_eq_true rfl⟩ (gp_S hK hE hA hP hD hS [] rfl (by decide) rfl) rfl hl.1 rfl (Nat.le_of_ble_eq_true rfl) dX0_pairs_17 ⟨Nat.le_of_ble_eq_true rfl, Nat.le_of_ble_eq_true rfl⟩) hP hD hS hA [] [0, 1] rfl rfl (by decide) (by decide) (fun r2 u2 H locs hp2 hP hD hS => ?_)
  have hP : va_P g.1 vwCl [(h, .inr (0, [.ref (a 20), .ref (a 21)])), ((a 21), .inl (g.2.1.1, 6, .inl (fun _ => 0)))] H := hP
  have hD : va_D A [(h, .inr (0, [.ref (a 20), .ref (a 21)])), ((a 21), .inl (g.2.1.1, 6, .inl (fun _ => 0)))] := hD
  have hp2 : r2 = 0 := hp2.trans (by decide)
  subst hp2
  refine lv_iadd hx hb dX0_pairs_20 ?_
  refine sy_i (y := 0) (by decide) ?_
  refine lv_istore_n (lv' := [(1, .int 0), (2, .int 1), (0, .ref h)]) hx hb dX0_pairs_21 rfl hl (by decide) rfl (fun ls hl => ?_)
  refine lv_iinc (v := 2) (lv' := [(2, .int 2), (1, .int 0), (0, .ref h)]) hx hb dX0_pairs_22 hl (k := 1) rfl (by decide) (by decide) rfl (fun ls hl => ?_)
  refine lv_goto (tgt := 4) hx hb dX0_pairs_25 (by decide) ?_
  refine lv_iload_n hx hb dX0_pairs_4 rfl (lv_at hl 0 rfl) ?_
  refine lv_bipush (v := 6) hx hb dX0_pairs_5 (by decide) ?_
  refine lv_icmp_ge (tgt := 28) hx hb dX0_pairs_7 (by decide) (fun c9 => absurd c9 (by decide)) (fun _ => ?_)
  refine lv_iload_n hx hb dX0_pairs_10 rfl (lv_at hl 1 rfl) ?_
  refine lv_aload_n hx hb dX0_pairs_11 rfl (lv_at hl 2 rfl) ?_
  refine va_get (D := g.1) (ci := 0) (v := .ref (a 21)) (C := RX0) (T := TX0) (N := 2) hx hb hts hinX0 hown hK hP 0 rfl rfl 1 (by decide) (hts (.fieldLink RX0 15 "DefaultReasoner$Priorities" "reached" "[I") (by decide +kernel)) (fun _ h9 => h9) rfl dX0_pairs_12 ?_
  refine lv_iload_n hx hb dX0_pairs_15 rfl (lv_at hl 0 rfl) ?_
  refine va_iald hx hb hK hP 1 0 rfl rfl (by unfold vp_in; decide) dX0_pairs_16 ?_
  refine sy_i (y := 0) (rfl) ?_
  refine gj_i (wc := []) (wr := [(h, .inr (0, [.ref (a 20), .ref (a 21)])), ((a 21), .inl (g.2.1.1, 6, .inl (fun _ => 0)))]) (gr_S (n := 1) ⟨hx, hb, hml, hown, hts⟩ (c_J6_bitCount0 l g H.size ) gX0_pairs_J6_bitCount_0f7a4 rfl rfl rfl (by decide +kernel) ⟨Nat.le_of_ble_eq_true rfl, Nat.le_of_ble_eq_true rfl⟩ (gp_S hK hE hA hP hD hS [] rfl (by decide) rfl) rfl hl.1 rfl (Nat.le_of_ble_eq_true rfl) dX0_pairs_17 ⟨Nat.le_of_ble_eq_true rfl, Nat.le_of_ble_eq_true rfl⟩) hP hD hS hA [] [0, 1] rfl rfl (by decide) (by decide) (fun r3 u3 H locs hp3 hP hD hS => ?_)
  have hP : va_P g.1 vwCl [(h, .inr (0, [.ref (a 20), .ref (a 21)])), ((a 21), .inl (g.2.1.1, 6, .inl (fun _ => 0)))] H := hP
  have hD : va_D A [(h, .inr (0, [.ref (a 20), .ref (a 21)])), ((a 21), .inl (g.2.1.1, 6, .inl (fun _ => 0)))] := hD
  have hp3 : r3 = 0 := hp3.trans (by decide)
  subst hp3
  refine lv_iadd hx hb dX0_pairs_20 ?_
  refine sy_i (y := 0) (by decide) ?_
  refine lv_istore_n (lv' := [(1, .int 0), (2, .int 2), (0, .ref h)]) hx hb dX0_pairs_21 rfl hl (by decide) rfl (fun ls hl => ?_)
  refine lv_iinc (v := 3) (lv' := [(2, .int 3), (1, .int 0), (0, .ref h)]) hx hb dX0_pairs_22 hl (k := 1) rfl (by decide) (by decide) rfl (fun ls hl => ?_)
  refine lv_goto (tgt := 4) hx hb dX0_pairs_25 (by decide) ?_
  refine lv_iload_n hx hb dX0_pairs_4 rfl (lv_at hl 0 rfl) ?_
  refine lv_bipush (v := 6) hx hb dX0_pairs_5 (by decide) ?_
  refine lv_icmp_ge (tgt := 28) hx hb dX0_pairs_7 (by decide) (fun c9 => absurd c9 (by decide)) (fun _ => ?_)
  refine lv_iload_n hx hb dX0_pairs_10 rfl (lv_at hl 1 rfl) ?_
  refine lv_aload_n hx hb dX0_pairs_11 rfl (lv_at hl 2 rfl) ?_
  refine va_get (D := g.1) (ci := 0) (v := .ref (a 21)) (C := RX0) (T := TX0) (N := 2) hx hb hts hinX0 hown hK hP 0 rfl rfl 1 (by decide) (hts (.fieldLink RX0 15 "DefaultReasoner$Priorities" "reached" "[I") (by decide +kernel)) (fun _ h9 => h9) rfl dX0_pairs_12 ?_
  refine lv_iload_n hx hb dX0_pairs_15 rfl (lv_at hl 0 rfl) ?_
  refine va_iald hx hb hK hP 1 0 rfl rfl (by unfold vp_in; decide) dX0_pairs_16 ?_
  refine sy_i (y := 0) (rfl) ?_
  refine gj_i (wc := []) (wr := [(h, .inr (0, [.ref (a 20), .ref (a 21)])), ((a 21), .inl (g.2.1.1, 6, .inl (fun _ => 0)))]) (gr_S (n := 1) ⟨hx, hb, hml, hown, hts⟩ (c_J6_bitCount0 l g H.size ) gX0_pairs_J6_bitCount_0f7a4 rfl rfl rfl (by decide +kernel) ⟨Nat.le_of_ble_eq_true rfl, Nat.le_of_ble_eq_true rfl⟩ (gp_S hK hE hA hP hD hS [] rfl (by decide) rfl) rfl hl.1 rfl (Nat.le_of_ble_eq_true rfl) dX0_pairs_17 ⟨Nat.le_of_ble_eq_true rfl, Nat.le_of_ble_eq_true rfl⟩) hP hD hS hA [] [0, 1] rfl rfl (by decide) (by decide) (fun r4 u4 H locs hp4 hP hD hS => ?_)
  have hP : va_P g.1 vwCl [(h, .inr (0, [.ref (a 20), .ref (a 21)])), ((a 21), .inl (g.2.1.1, 6, .inl (fun _ => 0)))] H := hP
  have hD : va_D A [(h, .inr (0, [.ref (a 20), .ref (a 21)])), ((a 21), .inl (g.2.1.1, 6, .inl (fun _ => 0)))] := hD
  have hp4 : r4 = 0 := hp4.trans (by decide)
  subst hp4
  refine lv_iadd hx hb dX0_pairs_20 ?_
  refine sy_i (y := 0) (by decide) ?_
  refine lv_istore_n (lv' := [(1, .int 0), (2, .int 3), (0, .ref h)]) hx hb dX0_pairs_21 rfl hl (by decide) rfl (fun ls hl => ?_)
  refine lv_iinc (v := 4) (lv' := [(2, .int 4), (1, .int 0), (0, .ref h)]) hx hb dX0_pairs_22 hl (k := 1) rfl (by decide) (by decide) rfl (fun ls hl => ?_)
  refine lv_goto (tgt := 4) hx hb dX0_pairs_25 (by decide) ?_
  refine lv_iload_n hx hb dX0_pairs_4 rfl (lv_at hl 0 rfl) ?_
  refine lv_bipush (v := 6) hx hb dX0_pairs_5 (by decide) ?_
  refine lv_icmp_ge (tgt := 28) hx hb dX0_pairs_7 (by decide) (fun c9 => absurd c9 (by decide)) (fun _ => ?_)
  refine lv_iload_n hx hb dX0_pairs_10 rfl (lv_at hl 1 rfl) ?_
  refine lv_aload_n hx hb dX0_pairs_11 rfl (lv_at hl 2 rfl) ?_
  refine va_get (D := g.1) (ci := 0) (v := .ref (a 21)) (C := RX0) (T := TX0) (N := 2) hx hb hts hinX0 hown hK hP 0 rfl rfl 1 (by decide) (hts (.fieldLink RX0 15 "DefaultReasoner$Priorities" "reached" "[I") (by decide +kernel)) (fun _ h9 => h9) rfl dX0_pairs_12 ?_
  refine lv_iload_n hx hb dX0_pairs_15 rfl (lv_at hl 0 rfl) ?_
  refine va_iald hx hb hK hP 1 0 rfl rfl (by unfold vp_in; decide) dX0_pairs_16 ?_
  refine sy_i (y := 0) (rfl) ?_
  refine gj_i (wc := []) (wr := [(h, .inr (0, [.ref (a 20), .ref (a 21)])), ((a 21), .inl (g.2.1.1, 6, .inl (fun _ => 0)))]) (gr_S (n := 1) ⟨hx, hb, hml, hown, hts⟩ (c_J6_bitCount0 l g H.size ) gX0_pairs_J6_bitCount_0f7a4 rfl rfl rfl (by decide +kernel) ⟨Nat.le_of_ble_eq_true rfl, Nat.le_of_ble_eq_true rfl⟩ (gp_S hK hE hA hP hD hS [] rfl (by decide) rfl) rfl hl.1 rfl (Nat.le_of_ble_eq_true rfl) dX0_pairs_17 ⟨Nat.le_of_ble_eq_true rfl, Nat.le_of_ble_eq_true rfl⟩) hP hD hS hA [] [0, 1] rfl rfl (by decide) (by decide) (fun r5 u5 H locs hp5 hP hD hS => ?_)
  have hP : va_P g.1 vwCl [(h, .inr (0, [.ref (a 20), .ref (a 21)])), ((a 21), .inl (g.2.1.1, 6, .inl (fun _ => 0)))] H := hP
  have hD : va_D A [(h, .inr (0, [.ref (a 20), .ref (a 21)])), ((a 21), .inl (g.2.1.1, 6, .inl (fun _ => 0)))] := hD
  have hp5 : r5 = 0 := hp5.trans (by decide)
  subst hp5
  refine lv_iadd hx hb dX0_pairs_20 ?_
  refine sy_i (y := 0) (by decide) ?_
  refine lv_istore_n (lv' := [(1, .int 0), (2, .int 4), (0, .ref h)]) hx hb dX0_pairs_21 rfl hl (by decide) rfl (fun ls hl => ?_)
  refine lv_iinc (v := 5) (lv' := [(2, .int 5), (1, .int 0), (0, .ref h)]) hx hb dX0_pairs_22 hl (k := 1) rfl (by decide) (by decide) rfl (fun ls hl => ?_)
  refine lv_goto (tgt := 4) hx hb dX0_pairs_25 (by decide) ?_
  refine lv_iload_n hx hb dX0_pairs_4 rfl (lv_at hl 0 rfl) ?_
  refine lv_bipush (v := 6) hx hb dX0_pairs_5 (by decide) ?_
  refine lv_icmp_ge (tgt := 28) hx hb dX0_pairs_7 (by decide) (fun c9 => absurd c9 (by decide)) (fun _ => ?_)
  refine lv_iload_n hx hb dX0_pairs_10 rfl (lv_at hl 1 rfl) ?_
  refine lv_aload_n hx hb dX0_pairs_11 rfl (lv_at hl 2 rfl) ?_
  refine va_get (D := g.1) (ci := 0) (v := .ref (a 21)) (C := RX0) (T := TX0) (N := 2) hx hb hts hinX0 hown hK hP 0 rfl rfl 1 (by decide) (hts (.fieldLink RX0 15 "DefaultReasoner$Priorities" "reached" "[I") (by decide +kernel)) (fun _ h9 => h9) rfl dX0_pairs_12 ?_
  refine lv_iload_n hx hb dX0_pairs_15 rfl (lv_at hl 0 rfl) ?_
  refine va_iald hx hb hK hP 1 0 rfl rfl (by unfold vp_in; decide) dX0_pairs_16 ?_
  refine sy_i (y := 0) (rfl) ?_
  refine gj_i (wc := []) (wr := [(h, .inr (0, [.ref (a 20), .ref (a 21)])), ((a 21), .inl (g.2.1.1, 6, .inl (fun _ => 0)))]) (gr_S (n := 1) ⟨hx, hb, hml, hown, hts⟩ (c_J6_bitCount0 l g H.size ) gX0_pairs_J6_bitCount_0f7a4 rfl rfl rfl (by decide +kernel) ⟨Nat.le_of_ble_eq_true rfl, Nat.le_of_ble_eq_true rfl⟩ (gp_S hK hE hA hP hD hS [] rfl (by decide) rfl) rfl hl.1 rfl (Nat.le_of_ble_eq_true rfl) dX0_pairs_17 ⟨Nat.le_of_ble_eq_true rfl, Nat.le_of_ble_eq_true rfl⟩) hP hD hS hA [] [0, 1] rfl rfl (by decide) (by decide) (fun r6 u6 H locs hp6 hP hD hS => ?_)
  have hP : va_P g.1 vwCl [(h, .inr (0, [.ref (a 20), .ref (a 21)])), ((a 21), .inl (g.2.1.1, 6, .inl (fun _ => 0)))] H := hP
  have hD : va_D A [(h, .inr (0, [.ref (a 20), .ref (a 21)])), ((a 21), .inl (g.2.1.1, 6, .inl (fun _ => 0)))] := hD
  have hp6 : r6 = 0 := hp6.trans (by decide)
  subst hp6
  refine lv_iadd hx hb dX0_pairs_20 ?_
  refine sy_i (y := 0) (by decide) ?_
  refine lv_istore_n (lv' := [(1, .int 0), (2, .int 5), (0, .ref h)]) hx hb dX0_pairs_21 rfl hl (by decide) rfl (fun ls hl => ?_)
  refine lv_iinc (v := 6) (lv' := [(2, .int 6), (1, .int 0), (0, .ref h)]) hx hb dX0_pairs_22 hl (k := 1) rfl (by decide) (by decide) rfl (fun ls hl => ?_)
  refine lv_goto (tgt := 4) hx hb dX0_pairs_25 (by decide) ?_
  refine lv_iload_n hx hb dX0_pairs_4 rfl (lv_at hl 0 rfl) ?_
  refine lv_bipush (v := 6) hx hb dX0_pairs_5 (by decide) ?_
  refine lv_icmp_ge (tgt := 28) hx hb dX0_pairs_7 (by decide) (fun _ => ?_) (fun c9 => absurd (by decide) c9)
  refine lv_iload_n hx hb dX0_pairs_28 rfl (lv_at hl 1 rfl) ?_
  exact g_ir hx hb hr hlocks hP hD hS () [0, 1] rfl (by decide) rfl dX0_pairs_29 (Nat.le_of_ble_eq_true rfl) (Nat.le_of_ble_eq_true rfl) (rfl)
set_option maxHeartbeats 4000000 in
set_option maxRecDepth 100000 in
theorem c_X0_clear (l : Launch) (g : gG) (sz : Nat) (h : Nat) (a : Nat → Nat) : gMv l yX0_clear wsX0_clear ({ frames := 0, cells := 0, slots := 0, locals := 0 } : Room) g [.ref h] [(h, .inr (0, [.ref (a 20), .ref (a 21)])), ((a 20), .inl (g.2.1.1, 6, .inl (fun _ => 0))), ((a 21), .inl (g.2.1.1, 6, .inl (fun _ => 0)))] sz (fun (u : Unit) => True) (fun (u : Unit) => [(h, .inr (0, [.ref (a 20), .ref (a 21)]))]) 0 0 := by
  refine g_of (l := l) (y := yX0_clear) (wy := wsX0_clear) (rm := ({ frames := 0, cells := 0, slots := 0, locals := 0 } : Room)) (g := g) (av := [.ref h]) (ws := [(h, .inr (0, [.ref (a 20), .ref (a 21)])), ((a 20), .inl (g.2.1.1, 6, .inl (fun _ => 0))), ((a 21), .inl (g.2.1.1, 6, .inl (fun _ => 0)))]) (sz := sz) (mc := 0) (ms := 0) (Qc := fun A => va_Qv (fun (u : Unit) => True) (fun u t9 => gPost g A ((fun (u : Unit) => [(h, .inr (0, [.ref (a 20), .ref (a 21)]))]) u) t9) A) (cc := cX0_clear) (maxL := 2) (ret := none) (by decide) rfl (Nat.le_of_ble_eq_true rfl) ?_
  intro p e s m below meth c A ls hx hb hr hml hown hts hlocks hnm hA hK hE hP hD hS hl
  have hl : lv_has ls 2 [(0, .ref h)] := hl
  have hown : s.vm.findClass RX0 = some m.cls := hown
  have hP : va_P g.1 vwCl [(h, .inr (0, [.ref (a 20), .ref (a 21)])), ((a 20), .inl (g.2.1.1, 6, .inl (fun _ => 0))), ((a 21), .inl (g.2.1.1, 6, .inl (fun _ => 0)))] s.heap := hP
  have hinX0 : ∀ w ∈ u_ws RX0 TX0 2, w ∈ wsX0_clear := by decide +kernel
  refine lv_iconst (v := 0) hx hb dX0_clear_0 (by decide) ?_
  refine lv_istore_n (lv' := [(1, .int 0), (0, .ref h)]) hx hb dX0_clear_1 rfl hl (by decide) rfl (fun ls hl => ?_)
  refine lv_iload_n hx hb dX0_clear_2 rfl (lv_at hl 0 rfl) ?_
  refine lv_bipush (v := 6) hx hb dX0_clear_3 (by decide) ?_
  refine lv_icmp_ge (tgt := 28) hx hb dX0_clear_5 (by decide) (fun c9 => absurd c9 (by decide)) (fun _ => ?_)
  refine lv_aload_n hx hb dX0_clear_8 rfl (lv_at hl 1 rfl) ?_
  refine va_get (D := g.1) (ci := 0) (v := .ref (a 20)) (C := RX0) (T := TX0) (N := 2) hx hb hts hinX0 hown hK hP 0 rfl rfl 0 (by decide) (hts (.fieldLink RX0 9 "DefaultReasoner$Priorities" "given" "[I") (by decide +kernel)) (fun _ h9 => h9) rfl dX0_clear_9 ?_
  refine lv_iload_n hx hb dX0_clear_12 rfl (lv_at hl 0 rfl) ?_
  refine lv_iconst (v := 0) hx hb dX0_clear_13 (by decide) ?_
  refine va_iast hx hb hK hP hD hS 1 0 rfl rfl (by unfold vp_in; decide) dX0_clear_14 (fun H locs hP hD hS => ?_)
  have hP : va_P g.1 vwCl [(h, .inr (0, [.ref (a 20), .ref (a 21)])), ((a 20), .inl (g.2.1.1, 6, .inl (upd (fun _ => 0) 0 0))), ((a 21), .inl (g.2.1.1, 6, .inl (fun _ => 0)))] H := hP
  have hD : va_D A [(h, .inr (0, [.ref (a 20), .ref (a 21)])), ((a 20), .inl (g.2.1.1, 6, .inl (upd (fun _ => 0) 0 0))), ((a 21), .inl (g.2.1.1, 6, .inl (fun _ => 0)))] := hD
  refine lv_aload_n hx hb dX0_clear_15 rfl (lv_at hl 1 rfl) ?_
  refine va_get (D := g.1) (ci := 0) (v := .ref (a 21)) (C := RX0) (T := TX0) (N := 2) hx hb hts hinX0 hown hK hP 0 rfl rfl 1 (by decide) (hts (.fieldLink RX0 15 "DefaultReasoner$Priorities" "reached" "[I") (by decide +kernel)) (fun _ h9 => h9) rfl dX0_clear_16 ?_
  refine lv_iload_n hx hb dX0_clear_19 rfl (lv_at hl 0 rfl) ?_
  refine lv_iconst (v := 0) hx hb dX0_clear_20 (by decide) ?_
  refine va_iast hx hb hK hP hD hS 2 0 rfl rfl (by unfold vp_in; decide) dX0_clear_21 (fun H locs hP hD hS => ?_)
  have hP : va_P g.1 vwCl [(h, .inr (0, [.ref (a 20), .ref (a 21)])), ((a 20), .inl (g.2.1.1, 6, .inl (upd (fun _ => 0) 0 0))), ((a 21), .inl (g.2.1.1, 6, .inl (upd (fun _ => 0) 0 0)))] H := hP
  have hD : va_D A [(h, .inr (0, [.ref (a 20), .ref (a 21)])), ((a 20), .inl (g.2.1.1, 6, .inl (upd (fun _ => 0) 0 0))), ((a 21), .inl (g.2.1.1, 6, .inl (upd (fun _ => 0) 0 0)))] := hD
  refine lv_iinc (v := 1) (lv' := [(1, .int 1), (0, .ref h)]) hx hb dX0_clear_22 hl (k := 0) rfl (by decide) (by decide) rfl (fun ls hl => ?_)
  refine lv_goto (tgt := 2) hx hb dX0_clear_25 (by decide) ?_
  refine lv_iload_n hx hb dX0_clear_2 rfl (lv_at hl 0 rfl) ?_
  refine lv_bipush (v := 6) hx hb dX0_clear_3 (by decide) ?_
  refine lv_icmp_ge (tgt := 28) hx hb dX0_clear_5 (by decide) (fun c9 => absurd c9 (by decide)) (fun _ => ?_)
  refine lv_aload_n hx hb dX0_clear_8 rfl (lv_at hl 1 rfl) ?_
  refine va_get (D := g.1) (ci := 0) (v := .ref (a 20)) (C := RX0) (T := TX0) (N := 2) hx hb hts hinX0 hown hK hP 0 rfl rfl 0 (by decide) (hts (.fieldLink RX0 9 "DefaultReasoner$Priorities" "given" "[I") (by decide +kernel)) (fun _ h9 => h9) rfl dX0_clear_9 ?_
  refine lv_iload_n hx hb dX0_clear_12 rfl (lv_at hl 0 rfl) ?_
  refine lv_iconst (v := 0) hx hb dX0_clear_13 (by decide) ?_
  refine va_iast hx hb hK hP hD hS 1 0 rfl rfl (by unfold vp_in; decide) dX0_clear_14 (fun H locs hP hD hS => ?_)
  have hP : va_P g.1 vwCl [(h, .inr (0, [.ref (a 20), .ref (a 21)])), ((a 20), .inl (g.2.1.1, 6, .inl (upd (upd (fun _ => 0) 0 0) 1 0))), ((a 21), .inl (g.2.1.1, 6, .inl (upd (fun _ => 0) 0 0)))] H := hP
  have hD : va_D A [(h, .inr (0, [.ref (a 20), .ref (a 21)])), ((a 20), .inl (g.2.1.1, 6, .inl (upd (upd (fun _ => 0) 0 0) 1 0))), ((a 21), .inl (g.2.1.1, 6, .inl (upd (fun _ => 0) 0 0)))] := hD
  refine lv_aload_n hx hb dX0_clear_15 rfl (lv_at hl 1 rfl) ?_
  refine va_get (D := g.1) (ci := 0) (v := .ref (a 21)) (C := RX0) (T := TX0) (N := 2) hx hb hts hinX0 hown hK hP 0 rfl rfl 1 (by decide) (hts (.fieldLink RX0 15 "DefaultReasoner$Priorities" "reached" "[I") (by decide +kernel)) (fun _ h9 => h9) rfl dX0_clear_16 ?_
  refine lv_iload_n hx hb dX0_clear_19 rfl (lv_at hl 0 rfl) ?_
  refine lv_iconst (v := 0) hx hb dX0_clear_20 (by decide) ?_
  refine va_iast hx hb hK hP hD hS 2 0 rfl rfl (by unfold vp_in; decide) dX0_clear_21 (fun H locs hP hD hS => ?_)
  have hP : va_P g.1 vwCl [(h, .inr (0, [.ref (a 20), .ref (a 21)])), ((a 20), .inl (g.2.1.1, 6, .inl (upd (upd (fun _ => 0) 0 0) 1 0))), ((a 21), .inl (g.2.1.1, 6, .inl (upd (upd (fun _ => 0) 0 0) 1 0)))] H := hP
  have hD : va_D A [(h, .inr (0, [.ref (a 20), .ref (a 21)])), ((a 20), .inl (g.2.1.1, 6, .inl (upd (upd (fun _ => 0) 0 0) 1 0))), ((a 21), .inl (g.2.1.1, 6, .inl (upd (upd (fun _ => 0) 0 0) 1 0)))] := hD
  refine lv_iinc (v := 2) (lv' := [(1, .int 2), (0, .ref h)]) hx hb dX0_clear_22 hl (k := 0) rfl (by decide) (by decide) rfl (fun ls hl => ?_)
  refine lv_goto (tgt := 2) hx hb dX0_clear_25 (by decide) ?_
  refine lv_iload_n hx hb dX0_clear_2 rfl (lv_at hl 0 rfl) ?_
  refine lv_bipush (v := 6) hx hb dX0_clear_3 (by decide) ?_
  refine lv_icmp_ge (tgt := 28) hx hb dX0_clear_5 (by decide) (fun c9 => absurd c9 (by decide)) (fun _ => ?_)
  refine lv_aload_n hx hb dX0_clear_8 rfl (lv_at hl 1 rfl) ?_
  refine va_get (D := g.1) (ci := 0) (v := .ref (a 20)) (C := RX0) (T := TX0) (N := 2) hx hb hts hinX0 hown hK hP 0 rfl rfl 0 (by decide) (hts (.fieldLink RX0 9 "DefaultReasoner$Priorities" "given" "[I") (by decide +kernel)) (fun _ h9 => h9) rfl dX0_clear_9 ?_
  refine lv_iload_n hx hb dX0_clear_12 rfl (lv_at hl 0 rfl) ?_
  refine lv_iconst (v := 0) hx hb dX0_clear_13 (by decide) ?_
  refine va_iast hx hb hK hP hD hS 1 0 rfl rfl (by unfold vp_in; decide) dX0_clear_14 (fun H locs hP hD hS => ?_)
  have hP : va_P g.1 vwCl [(h, .inr (0, [.ref (a 20), .ref (a 21)])), ((a 20), .inl (g.2.1.1, 6, .inl (upd (upd (upd (fun _ => 0) 0 0) 1 0) 2 0))), ((a 21), .inl (g.2.1.1, 6, .inl (upd (upd (fun _ => 0) 0 0) 1 0)))] H := hP
  have hD : va_D A [(h, .inr (0, [.ref (a 20), .ref (a 21)])), ((a 20), .inl (g.2.1.1, 6, .inl (upd (upd (upd (fun _ => 0) 0 0) 1 0) 2 0))), ((a 21), .inl (g.2.1.1, 6, .inl (upd (upd (fun _ => 0) 0 0) 1 0)))] := hD
  refine lv_aload_n hx hb dX0_clear_15 rfl (lv_at hl 1 rfl) ?_
  refine va_get (D := g.1) (ci := 0) (v := .ref (a 21)) (C := RX0) (T := TX0) (N := 2) hx hb hts hinX0 hown hK hP 0 rfl rfl 1 (by decide) (hts (.fieldLink RX0 15 "DefaultReasoner$Priorities" "reached" "[I") (by decide +kernel)) (fun _ h9 => h9) rfl dX0_clear_16 ?_
  refine lv_iload_n hx hb dX0_clear_19 rfl (lv_at hl 0 rfl) ?_
  refine lv_iconst (v := 0) hx hb dX0_clear_20 (by decide) ?_
  refine va_iast hx hb hK hP hD hS 2 0 rfl rfl (by unfold vp_in; decide) dX0_clear_21 (fun H locs hP hD hS => ?_)
  have hP : va_P g.1 vwCl [(h, .inr (0, [.ref (a 20), .ref (a 21)])), ((a 20), .inl (g.2.1.1, 6, .inl (upd (upd (upd (fun _ => 0) 0 0) 1 0) 2 0))), ((a 21), .inl (g.2.1.1, 6, .inl (upd (upd (upd (fun _ => 0) 0 0) 1 0) 2 0)))] H := hP
  have hD : va_D A [(h, .inr (0, [.ref (a 20), .ref (a 21)])), ((a 20), .inl (g.2.1.1, 6, .inl (upd (upd (upd (fun _ => 0) 0 0) 1 0) 2 0))), ((a 21), .inl (g.2.1.1, 6, .inl (upd (upd (upd (fun _ => 0) 0 0) 1 0) 2 0)))] := hD
  refine lv_iinc (v := 3) (lv' := [(1, .int 3), (0, .ref h)]) hx hb dX0_clear_22 hl (k := 0) rfl (by decide) (by decide) rfl (fun ls hl => ?_)
  refine lv_goto (tgt := 2) hx hb dX0_clear_25 (by decide) ?_
  refine lv_iload_n hx hb dX0_clear_2 rfl (lv_at hl 0 rfl) ?_
  refine lv_bipush (v := 6) hx hb dX0_clear_3 (by decide) ?_
  refine lv_icmp_ge (tgt := 28) hx hb dX0_clear_5 (by decide) (fun c9 => absurd c9 (by decide)) (fun _ => ?_)
  refine lv_aload_n hx hb dX0_clear_8 rfl (lv_at hl 1 rfl) ?_
  refine va_get (D := g.1) (ci := 0) (v := .ref (a 20)) (C := RX0) (T := TX0) (N := 2) hx hb hts hinX0 hown hK hP 0 rfl rfl 0 (by decide) (hts (.fieldLink RX0 9 "DefaultReasoner$Priorities" "given" "[I") (by decide +kernel)) (fun _ h9 => h9) rfl dX0_clear_9 ?_
  refine lv_iload_n hx hb dX0_clear_12 rfl (lv_at hl 0 rfl) ?_
  refine lv_iconst (v := 0) hx hb dX0_clear_13 (by decide) ?_
  refine va_iast hx hb hK hP hD hS 1 0 rfl rfl (by unfold vp_in; decide) dX0_clear_14 (fun H locs hP hD hS => ?_)
  have hP : va_P g.1 vwCl [(h, .inr (0, [.ref (a 20), .ref (a 21)])), ((a 20), .inl (g.2.1.1, 6, .inl (upd (upd (upd (upd (fun _ => 0) 0 0) 1 0) 2 0) 3 0))), ((a 21), .inl (g.2.1.1, 6, .inl (upd (upd (upd (fun _ => 0) 0 0) 1 0) 2 0)))] H := hP
  have hD : va_D A [(h, .inr (0, [.ref (a 20), .ref (a 21)])), ((a 20), .inl (g.2.1.1, 6, .inl (upd (upd (upd (upd (fun _ => 0) 0 0) 1 0) 2 0) 3 0))), ((a 21), .inl (g.2.1.1, 6, .inl (upd (upd (upd (fun _ => 0) 0 0) 1 0) 2 0)))] := hD
  refine lv_aload_n hx hb dX0_clear_15 rfl (lv_at hl 1 rfl) ?_
  refine va_get (D := g.1) (ci := 0) (v := .ref (a 21)) (C := RX0) (T := TX0) (N := 2) hx hb hts hinX0 hown hK hP 0 rfl rfl 1 (by decide) (hts (.fieldLink RX0 15 "DefaultReasoner$Priorities" "reached" "[I") (by decide +kernel)) (fun _ h9 => h9) rfl dX0_clear_16 ?_
  refine lv_iload_n hx hb dX0_clear_19 rfl (lv_at hl 0 rfl) ?_
  refine lv_iconst (v := 0) hx hb dX0_clear_20 (by decide) ?_
  refine va_iast hx hb hK hP hD hS 2 0 rfl rfl (by unfold vp_in; decide) dX0_clear_21 (fun H locs hP hD hS => ?_)
  have hP : va_P g.1 vwCl [(h, .inr (0, [.ref (a 20), .ref (a 21)])), ((a 20), .inl (g.2.1.1, 6, .inl (upd (upd (upd (upd (fun _ => 0) 0 0) 1 0) 2 0) 3 0))), ((a 21), .inl (g.2.1.1, 6, .inl (upd (upd (upd (upd (fun _ => 0) 0 0) 1 0) 2 0) 3 0)))] H := hP
  have hD : va_D A [(h, .inr (0, [.ref (a 20), .ref (a 21)])), ((a 20), .inl (g.2.1.1, 6, .inl (upd (upd (upd (upd (fun _ => 0) 0 0) 1 0) 2 0) 3 0))), ((a 21), .inl (g.2.1.1, 6, .inl (upd (upd (upd (upd (fun _ => 0) 0 0) 1 0) 2 0) 3 0)))] := hD
  refine lv_iinc (v := 4) (lv' := [(1, .int 4), (0, .ref h)]) hx hb dX0_clear_22 hl (k := 0) rfl (by decide) (by decide) rfl (fun ls hl => ?_)
  refine lv_goto (tgt := 2) hx hb dX0_clear_25 (by decide) ?_
  refine lv_iload_n hx hb dX0_clear_2 rfl (lv_at hl 0 rfl) ?_
  refine lv_bipush (v := 6) hx hb dX0_clear_3 (by decide) ?_
  refine lv_icmp_ge (tgt := 28) hx hb dX0_clear_5 (by decide) (fun c9 => absurd c9 (by decide)) (fun _ => ?_)
  refine lv_aload_n hx hb dX0_clear_8 rfl (lv_at hl 1 rfl) ?_
  refine va_get (D := g.1) (ci := 0) (v := .ref (a 20)) (C := RX0) (T := TX0) (N := 2) hx hb hts hinX0 hown hK hP 0 rfl rfl 0 (by decide) (hts (.fieldLink RX0 9 "DefaultReasoner$Priorities" "given" "[I") (by decide +kernel)) (fun _ h9 => h9) rfl dX0_clear_9 ?_
  refine lv_iload_n hx hb dX0_clear_12 rfl (lv_at hl 0 rfl) ?_
  refine lv_iconst (v := 0) hx hb dX0_clear_13 (by decide) ?_
  refine va_iast hx hb hK hP hD hS 1 0 rfl rfl (by unfold vp_in; decide) dX0_clear_14 (fun H locs hP hD hS => ?_)
  have hP : va_P g.1 vwCl [(h, .inr (0, [.ref (a 20), .ref (a 21)])), ((a 20), .inl (g.2.1.1, 6, .inl (upd (upd (upd (upd (upd (fun _ => 0) 0 0) 1 0) 2 0) 3 0) 4 0))), ((a 21), .inl (g.2.1.1, 6, .inl (upd (upd (upd (upd (fun _ => 0) 0 0) 1 0) 2 0) 3 0)))] H := hP
  have hD : va_D A [(h, .inr (0, [.ref (a 20), .ref (a 21)])), ((a 20), .inl (g.2.1.1, 6, .inl (upd (upd (upd (upd (upd (fun _ => 0) 0 0) 1 0) 2 0) 3 0) 4 0))), ((a 21), .inl (g.2.1.1, 6, .inl (upd (upd (upd (upd (fun _ => 0) 0 0) 1 0) 2 0) 3 0)))] := hD
  refine lv_aload_n hx hb dX0_clear_15 rfl (lv_at hl 1 rfl) ?_
  refine va_get (D := g.1) (ci := 0) (v := .ref (a 21)) (C := RX0) (T := TX0) (N := 2) hx hb hts hinX0 hown hK hP 0 rfl rfl 1 (by decide) (hts (.fieldLink RX0 15 "DefaultReasoner$Priorities" "reached" "[I") (by decide +kernel)) (fun _ h9 => h9) rfl dX0_clear_16 ?_
  refine lv_iload_n hx hb dX0_clear_19 rfl (lv_at hl 0 rfl) ?_
  refine lv_iconst (v := 0) hx hb dX0_clear_20 (by decide) ?_
  refine va_iast hx hb hK hP hD hS 2 0 rfl rfl (by unfold vp_in; decide) dX0_clear_21 (fun H locs hP hD hS => ?_)
  have hP : va_P g.1 vwCl [(h, .inr (0, [.ref (a 20), .ref (a 21)])), ((a 20), .inl (g.2.1.1, 6, .inl (upd (upd (upd (upd (upd (fun _ => 0) 0 0) 1 0) 2 0) 3 0) 4 0))), ((a 21), .inl (g.2.1.1, 6, .inl (upd (upd (upd (upd (upd (fun _ => 0) 0 0) 1 0) 2 0) 3 0) 4 0)))] H := hP
  have hD : va_D A [(h, .inr (0, [.ref (a 20), .ref (a 21)])), ((a 20), .inl (g.2.1.1, 6, .inl (upd (upd (upd (upd (upd (fun _ => 0) 0 0) 1 0) 2 0) 3 0) 4 0))), ((a 21), .inl (g.2.1.1, 6, .inl (upd (upd (upd (upd (upd (fun _ => 0) 0 0) 1 0) 2 0) 3 0) 4 0)))] := hD
  refine lv_iinc (v := 5) (lv' := [(1, .int 5), (0, .ref h)]) hx hb dX0_clear_22 hl (k := 0) rfl (by decide) (by decide) rfl (fun ls hl => ?_)
  refine lv_goto (tgt := 2) hx hb dX0_clear_25 (by decide) ?_
  refine lv_iload_n hx hb dX0_clear_2 rfl (lv_at hl 0 rfl) ?_
  refine lv_bipush (v := 6) hx hb dX0_clear_3 (by decide) ?_
  refine lv_icmp_ge (tgt := 28) hx hb dX0_clear_5 (by decide) (fun c9 => absurd c9 (by decide)) (fun _ => ?_)
  refine lv_aload_n hx hb dX0_clear_8 rfl (lv_at hl 1 rfl) ?_
  refine va_get (D := g.1) (ci := 0) (v := .ref (a 20)) (C := RX0) (T := TX0) (N := 2) hx hb hts hinX0 hown hK hP 0 rfl rfl 0 (by decide) (hts (.fieldLink RX0 9 "DefaultReasoner$Priorities" "given" "[I") (by decide +kernel)) (fun _ h9 => h9) rfl dX0_clear_9 ?_
  refine lv_iload_n hx hb dX0_clear_12 rfl (lv_at hl 0 rfl) ?_
  refine lv_iconst (v := 0) hx hb dX0_clear_13 (by decide) ?_
  refine va_iast hx hb hK hP hD hS 1 0 rfl rfl (by unfold vp_in; decide) dX0_clear_14 (fun H locs hP hD hS => ?_)
  have hP : va_P g.1 vwCl [(h, .inr (0, [.ref (a 20), .ref (a 21)])), ((a 20), .inl (g.2.1.1, 6, .inl (upd (upd (upd (upd (upd (upd (fun _ => 0) 0 0) 1 0) 2 0) 3 0) 4 0) 5 0))), ((a 21), .inl (g.2.1.1, 6, .inl (upd (upd (upd (upd (upd (fun _ => 0) 0 0) 1 0) 2 0) 3 0) 4 0)))] H := hP
  have hD : va_D A [(h, .inr (0, [.ref (a 20), .ref (a 21)])), ((a 20), .inl (g.2.1.1, 6, .inl (upd (upd (upd (upd (upd (upd (fun _ => 0) 0 0) 1 0) 2 0) 3 0) 4 0) 5 0))), ((a 21), .inl (g.2.1.1, 6, .inl (upd (upd (upd (upd (upd (fun _ => 0) 0 0) 1 0) 2 0) 3 0) 4 0)))] := hD
  refine lv_aload_n hx hb dX0_clear_15 rfl (lv_at hl 1 rfl) ?_
  refine va_get (D := g.1) (ci := 0) (v := .ref (a 21)) (C := RX0) (T := TX0) (N := 2) hx hb hts hinX0 hown hK hP 0 rfl rfl 1 (by decide) (hts (.fieldLink RX0 15 "DefaultReasoner$Priorities" "reached" "[I") (by decide +kernel)) (fun _ h9 => h9) rfl dX0_clear_16 ?_
  refine lv_iload_n hx hb dX0_clear_19 rfl (lv_at hl 0 rfl) ?_
  refine lv_iconst (v := 0) hx hb dX0_clear_20 (by decide) ?_
  refine va_iast hx hb hK hP hD hS 2 0 rfl rfl (by unfold vp_in; decide) dX0_clear_21 (fun H locs hP hD hS => ?_)
  have hP : va_P g.1 vwCl [(h, .inr (0, [.ref (a 20), .ref (a 21)])), ((a 20), .inl (g.2.1.1, 6, .inl (upd (upd (upd (upd (upd (upd (fun _ => 0) 0 0) 1 0) 2 0) 3 0) 4 0) 5 0))), ((a 21), .inl (g.2.1.1, 6, .inl (upd (upd (upd (upd (upd (upd (fun _ => 0) 0 0) 1 0) 2 0) 3 0) 4 0) 5 0)))] H := hP
  have hD : va_D A [(h, .inr (0, [.ref (a 20), .ref (a 21)])), ((a 20), .inl (g.2.1.1, 6, .inl (upd (upd (upd (upd (upd (upd (fun _ => 0) 0 0) 1 0) 2 0) 3 0) 4 0) 5 0))), ((a 21), .inl (g.2.1.1, 6, .inl (upd (upd (upd (upd (upd (upd (fun _ => 0) 0 0) 1 0) 2 0) 3 0) 4 0) 5 0)))] := hD
  refine lv_iinc (v := 6) (lv' := [(1, .int 6), (0, .ref h)]) hx hb dX0_clear_22 hl (k := 0) rfl (by decide) (by decide) rfl (fun ls hl => ?_)
  refine lv_goto (tgt := 2) hx hb dX0_clear_25 (by decide) ?_
  refine lv_iload_n hx hb dX0_clear_2 rfl (lv_at hl 0 rfl) ?_
  refine lv_bipush (v := 6) hx hb dX0_clear_3 (by decide) ?_
  refine lv_icmp_ge (tgt := 28) hx hb dX0_clear_5 (by decide) (fun _ => ?_) (fun c9 => absurd (by decide) c9)
  exact g_vr hx hb hr hlocks hP hD hS () [0] rfl (by decide) rfl dX0_clear_28 (Nat.le_of_ble_eq_true rfl) (Nat.le_of_ble_eq_true rfl) (trivial)
set_option maxHeartbeats 4000000 in
set_option maxRecDepth 100000 in
theorem c_X0_init (l : Launch) (g : gG) (sz : Nat) (h : Nat) : gMv l yX0_init wsX0_init ({ frames := 1, cells := 2, slots := 12, locals := 12 } : Room) g [.ref h] [(h, .inr (0, [.null, .null]))] sz (fun (u : (Nat → Nat)) => True) (fun (u : (Nat → Nat)) => [(h, .inr (0, [.ref (u 0), .ref (u 1)])), ((u 0), .inl (g.2.1.1, 6, .inl (fun _ => 0))), ((u 1), .inl (g.2.1.1, 6, .inl (fun _ => 0)))]) 2 12 := by
  refine g_of (l := l) (y := yX0_init) (wy := wsX0_init) (rm := ({ frames := 1, cells := 2, slots := 12, locals := 12 } : Room)) (g := g) (av := [.ref h]) (ws := [(h, .inr (0, [.null, .null]))]) (sz := sz) (mc := 2) (ms := 12) (Qc := fun A => va_Qv (fun (u : (Nat → Nat)) => True) (fun u t9 => gPost g A ((fun (u : (Nat → Nat)) => [(h, .inr (0, [.ref (u 0), .ref (u 1)])), ((u 0), .inl (g.2.1.1, 6, .inl (fun _ => 0))), ((u 1), .inl (g.2.1.1, 6, .inl (fun _ => 0)))]) u) t9) A) (cc := cX0_init) (maxL := 1) (ret := none) (by decide) rfl (Nat.le_of_ble_eq_true rfl) ?_
  intro p e s m below meth c A ls hx hb hr hml hown hts hlocks hnm hA hK hE hP hD hS hl
  have hl : lv_has ls 1 [(0, .ref h)] := hl
  have hown : s.vm.findClass RX0 = some m.cls := hown
  have hP : va_P g.1 vwCl [(h, .inr (0, [.null, .null]))] s.heap := hP
  have hinX0 : ∀ w ∈ u_ws RX0 TX0 2, w ∈ wsX0_init := by decide +kernel
  refine lv_aload_n hx hb dX0_init_0 rfl (lv_at hl 0 rfl) ?_
  refine W.objInit hx hb hown (hts (.methodLink RX0 3 objectInit) (by decide +kernel)) (hts (.instanceMethod objectInit) (by decide +kernel)) (hts (.code objectInit ⟨#[0xb1]⟩ 1 none) (by decide +kernel)) rfl (by rw [hml]; exact hl.1) rfl dX0_init_1 (Nat.le_of_ble_eq_true rfl) (Nat.le_of_ble_eq_true rfl) ?_
  refine W.eq (g2 := F0 m 4 ls []) rfl ?_
  refine lv_aload_n hx hb dX0_init_4 rfl (lv_at hl 0 rfl) ?_
  refine lv_bipush (v := 6) hx hb dX0_init_5 (by decide) ?_
  refine g_newa (a0 := (6, .inl (fun _ => 0))) (atype := .int) (ty := .int) (N' := 6) hx hb (hts (.arrayClass .int) (by decide +kernel)) rfl hK 0 rfl (fun _ h => h) hP hD hS hA (fun z => by rw [vp_cell_i]; rfl) (by decide) (by decide) (by decide) (Nat.le_of_ble_eq_true rfl) (Nat.le_of_ble_eq_true rfl) dX0_init_7 (fun qa1 H hP hD hS => ?_)
  have hP : va_P g.1 vwCl [(h, .inr (0, [.null, .null])), (qa1, .inl (g.2.1.1, 6, .inl (fun _ => 0)))] H := hP
  have hD : va_D A [(h, .inr (0, [.null, .null])), (qa1, .inl (g.2.1.1, 6, .inl (fun _ => 0)))] := hD
  refine va_putF (D := g.1) (ci := 0) (v := .ref qa1) (ty := .array .int) (C := RX0) (T := TX0) (N := 2) hx hb hts hinX0 tyX0 tyX0_ok nmX0 hown hK hP hD hS 0 rfl rfl 0 (by decide) (hts (.fieldLink RX0 9 "DefaultReasoner$Priorities" "given" "[I") (by decide +kernel)) (fun _ h9 => h9) rfl hnm rfl (by decide +kernel) rfl rfl (Nat.le_of_ble_eq_true rfl) dX0_init_9 (fun H locs hP hD hS => ?_)
  have hP : va_P g.1 vwCl [(h, .inr (0, [.ref qa1, .null])), (qa1, .inl (g.2.1.1, 6, .inl (fun _ => 0)))] H := hP
  have hD : va_D A [(h, .inr (0, [.ref qa1, .null])), (qa1, .inl (g.2.1.1, 6, .inl (fun _ => 0)))] := hD
  refine lv_aload_n hx hb dX0_init_12 rfl (lv_at hl 0 rfl) ?_
  refine lv_bipush (v := 6) hx hb dX0_init_13 (by decide) ?_
  refine g_newa (a0 := (6, .inl (fun _ => 0))) (atype := .int) (ty := .int) (N' := 6) hx hb (hts (.arrayClass .int) (by decide +kernel)) rfl hK 0 rfl (fun _ h => h) hP hD hS hA (fun z => by rw [vp_cell_i]; rfl) (by decide) (by decide) (by decide) (Nat.le_of_ble_eq_true rfl) (Nat.le_of_ble_eq_true rfl) dX0_init_15 (fun qa2 H hP hD hS => ?_)
  have hP : va_P g.1 vwCl [(h, .inr (0, [.ref qa1, .null])), (qa1, .inl (g.2.1.1, 6, .inl (fun _ => 0))), (qa2, .inl (g.2.1.1, 6, .inl (fun _ => 0)))] H := hP
  have hD : va_D A [(h, .inr (0, [.ref qa1, .null])), (qa1, .inl (g.2.1.1, 6, .inl (fun _ => 0))), (qa2, .inl (g.2.1.1, 6, .inl (fun _ => 0)))] := hD
  refine va_putF (D := g.1) (ci := 0) (v := .ref qa2) (ty := .array .int) (C := RX0) (T := TX0) (N := 2) hx hb hts hinX0 tyX0 tyX0_ok nmX0 hown hK hP hD hS 0 rfl rfl 1 (by decide) (hts (.fieldLink RX0 15 "DefaultReasoner$Priorities" "reached" "[I") (by decide +kernel)) (fun _ h9 => h9) rfl hnm rfl (by decide +kernel) rfl rfl (Nat.le_of_ble_eq_true rfl) dX0_init_17 (fun H locs hP hD hS => ?_)
  have hP : va_P g.1 vwCl [(h, .inr (0, [.ref qa1, .ref qa2])), (qa1, .inl (g.2.1.1, 6, .inl (fun _ => 0))), (qa2, .inl (g.2.1.1, 6, .inl (fun _ => 0)))] H := hP
  have hD : va_D A [(h, .inr (0, [.ref qa1, .ref qa2])), (qa1, .inl (g.2.1.1, 6, .inl (fun _ => 0))), (qa2, .inl (g.2.1.1, 6, .inl (fun _ => 0)))] := hD
  exact g_vr hx hb hr hlocks hP hD hS (fun k => match k with | 0 => qa1 | 1 => qa2 | _ => 0) [0, 1, 2] rfl (by decide) rfl dX0_init_20 (Nat.le_of_ble_eq_true rfl) (Nat.le_of_ble_eq_true rfl) (trivial)
set_option maxHeartbeats 4000000 in
set_option maxRecDepth 100000 in
theorem c_X1_init (l : Launch) (g : gG) (sz : Nat) (xx : Nat) : gMv l yX1_init wsX1_init ({ frames := 2, cells := 14, slots := 332, locals := 32 } : Room) g [.ref xx] [(xx, .inr (1, [.int 0, .int 0, .null, .null, .int 0, .null, .null, .null, .null, .null, .int 0, .null, .null, .null, .null, .int 0, .int 0, .null, .int 0, .int 0]))] sz (fun (u : (Nat → Nat)) => True) (fun (u : (Nat → Nat)) => [(xx, .inr (1, [.int 0, .int 0, .ref (u 2), .ref (u 3), .int 0, .ref (u 5), .ref (u 6), .ref (u 7), .ref (u 8), .ref (u 9), .int 0, .ref (u 11), .ref (u 12), .ref (u 13), .ref (u 14), .int 0, .int 0, .ref (u 17), .int 0, .int 0])), ((u 2), .inl (g.2.1.1, 16, .inl (fun _ => 0))), ((u 3), .inl (g.2.1.1, 16, .inl (fun _ => 0))), ((u 5), .inl (g.2.1.1, 6, .inl (fun _ => 0))), ((u 6), .inl (g.2.1.1, 6, .inl (fun _ => 0))), ((u 7), .inl (g.2.1.1, 6, .inl (fun _ => 0))), ((u 9), .inl (g.2.1.1, 6, .inl (fun _ => 0))), ((u 11), .inl (g.2.1.1, 6, .inl (fun _ => 0))), ((u 12), .inl (g.2.1.1, 64, .inl (fun _ => 0))), ((u 13), .inl (g.2.1.1, 64, .inl (fun _ => 0))), ((u 14), .inl (g.2.1.1, 64, .inl (fun _ => 0))), ((u 17), .inl (g.2.1.2.1, 64, .inl (fun _ => 0))), ((u 8), .inr (0, [.ref (u 20), .ref (u 21)])), ((u 20), .inl (g.2.1.1, 6, .inl (fun _ => 0))), ((u 21), .inl (g.2.1.1, 6, .inl (fun _ => 0)))]) 14 332 := by
  refine g_of (l := l) (y := yX1_init) (wy := wsX1_init) (rm := ({ frames := 2, cells := 14, slots := 332, locals := 32 } : Room)) (g := g) (av := [.ref xx]) (ws := [(xx, .inr (1, [.int 0, .int 0, .null, .null, .int 0, .null, .null, .null, .null, .null, .int 0, .null, .null, .null, .null, .int 0, .int 0, .null, .int 0, .int 0]))]) (sz := sz) (mc := 14) (ms := 332) (Qc := fun A => va_Qv (fun (u : (Nat → Nat)) => True) (fun u t9 => gPost g A ((fun (u : (Nat → Nat)) => [(xx, .inr (1, [.int 0, .int 0, .ref (u 2), .ref (u 3), .int 0, .ref (u 5), .ref (u 6), .ref (u 7), .ref (u 8), .ref (u 9), .int 0, .ref (u 11), .ref (u 12), .ref (u 13), .ref (u 14), .int 0, .int 0, .ref (u 17), .int 0, .int 0])), ((u 2), .inl (g.2.1.1, 16, .inl (fun _ => 0))), ((u 3), .inl (g.2.1.1, 16, .inl (fun _ => 0))), ((u 5), .inl (g.2.1.1, 6, .inl (fun _ => 0))), ((u 6), .inl (g.2.1.1, 6, .inl (fun _ => 0))), ((u 7), .inl (g.2.1.1, 6, .inl (fun _ => 0))), ((u 9), .inl (g.2.1.1, 6, .inl (fun _ => 0))), ((u 11), .inl (g.2.1.1, 6, .inl (fun _ => 0))), ((u 12), .inl (g.2.1.1, 64, .inl (fun _ => 0))), ((u 13), .inl (g.2.1.1, 64, .inl (fun _ => 0))), ((u 14), .inl (g.2.1.1, 64, .inl (fun _ => 0))), ((u 17), .inl (g.2.1.2.1, 64, .inl (fun _ => 0))), ((u 8), .inr (0, [.ref (u 20), .ref (u 21)])), ((u 20), .inl (g.2.1.1, 6, .inl (fun _ => 0))), ((u 21), .inl (g.2.1.1, 6, .inl (fun _ => 0)))]) u) t9) A) (cc := cX1_init) (maxL := 1) (ret := none) (by decide) rfl (Nat.le_of_ble_eq_true rfl) ?_
  intro p e s m below meth c A ls hx hb hr hml hown hts hlocks hnm hA hK hE hP hD hS hl
  have hl : lv_has ls 1 [(0, .ref xx)] := hl
  have hown : s.vm.findClass RX1 = some m.cls := hown
  have hP : va_P g.1 vwCl [(xx, .inr (1, [.int 0, .int 0, .null, .null, .int 0, .null, .null, .null, .null, .null, .int 0, .null, .null, .null, .null, .int 0, .int 0, .null, .int 0, .int 0]))] s.heap := hP
  have hinX0 : ∀ w ∈ u_ws RX0 TX0 2, w ∈ wsX1_init := by decide +kernel
  have hinX1 : ∀ w ∈ u_ws RX1 TX1 20, w ∈ wsX1_init := by decide +kernel
  refine lv_aload_n hx hb dX1_init_0 rfl (lv_at hl 0 rfl) ?_
  refine W.objInit hx hb hown (hts (.methodLink RX1 1 objectInit) (by decide +kernel)) (hts (.instanceMethod objectInit) (by decide +kernel)) (hts (.code objectInit ⟨#[0xb1]⟩ 1 none) (by decide +kernel)) rfl (by rw [hml]; exact hl.1) rfl dX1_init_1 (Nat.le_of_ble_eq_true rfl) (Nat.le_of_ble_eq_true rfl) ?_
  refine W.eq (g2 := F0 m 4 ls []) rfl ?_
  refine lv_aload_n hx hb dX1_init_4 rfl (lv_at hl 0 rfl) ?_
  refine lv_bipush (v := 16) hx hb dX1_init_5 (by decide) ?_
  refine g_newa (a0 := (16, .inl (fun _ => 0))) (atype := .int) (ty := .int) (N' := 16) hx hb (hts (.arrayClass .int) (by decide +kernel)) rfl hK 0 rfl (fun _ h => h) hP hD hS hA (fun z => by rw [vp_cell_i]; rfl) (by decide) (by decide) (by decide) (Nat.le_of_ble_eq_true rfl) (Nat.le_of_ble_eq_true rfl) dX1_init_7 (fun qa1 H hP hD hS => ?_)
  have hP : va_P g.1 vwCl [(xx, .inr (1, [.int 0, .int 0, .null, .null, .int 0, .null, .null, .null, .null, .null, .int 0, .null, .null, .null, .null, .int 0, .int 0, .null, .int 0, .int 0])), (qa1, .inl (g.2.1.1, 16, .inl (fun _ => 0)))] H := hP
  have hD : va_D A [(xx, .inr (1, [.int 0, .int 0, .null, .null, .int 0, .null, .null, .null, .null, .null, .int 0, .null, .null, .null, .null, .int 0, .int 0, .null, .int 0, .int 0])), (qa1, .inl (g.2.1.1, 16, .inl (fun _ => 0)))] := hD
  refine va_putF (D := g.1) (ci := 1) (v := .ref qa1) (ty := .array .int) (C := RX1) (T := TX1) (N := 20) hx hb hts hinX1 tyX1 tyX1_ok nmX1 hown hK hP hD hS 0 rfl rfl 2 (by decide) (hts (.fieldLink RX1 9 "DefaultReasoner" "bodies" "[I") (by decide +kernel)) (fun _ h9 => h9) rfl hnm rfl (by decide +kernel) rfl rfl (Nat.le_of_ble_eq_true rfl) dX1_init_9 (fun H locs hP hD hS => ?_)
  have hP : va_P g.1 vwCl [(xx, .inr (1, [.int 0, .int 0, .ref qa1, .null, .int 0, .null, .null, .null, .null, .null, .int 0, .null, .null, .null, .null, .int 0, .int 0, .null, .int 0, .int 0])), (qa1, .inl (g.2.1.1, 16, .inl (fun _ => 0)))] H := hP
  have hD : va_D A [(xx, .inr (1, [.int 0, .int 0, .ref qa1, .null, .int 0, .null, .null, .null, .null, .null, .int 0, .null, .null, .null, .null, .int 0, .int 0, .null, .int 0, .int 0])), (qa1, .inl (g.2.1.1, 16, .inl (fun _ => 0)))] := hD
  refine lv_aload_n hx hb dX1_init_12 rfl (lv_at hl 0 rfl) ?_
  refine lv_bipush (v := 16) hx hb dX1_init_13 (by decide) ?_
  refine g_newa (a0 := (16, .inl (fun _ => 0))) (atype := .int) (ty := .int) (N' := 16) hx hb (hts (.arrayClass .int) (by decide +kernel)) rfl hK 0 rfl (fun _ h => h) hP hD hS hA (fun z => by rw [vp_cell_i]; rfl) (by decide) (by decide) (by decide) (Nat.le_of_ble_eq_true rfl) (Nat.le_of_ble_eq_true rfl) dX1_init_15 (fun qa2 H hP hD hS => ?_)
  have hP : va_P g.1 vwCl [(xx, .inr (1, [.int 0, .int 0, .ref qa1, .null, .int 0, .null, .null, .null, .null, .null, .int 0, .null, .null, .null, .null, .int 0, .int 0, .null, .int 0, .int 0])), (qa1, .inl (g.2.1.1, 16, .inl (fun _ => 0))), (qa2, .inl (g.2.1.1, 16, .inl (fun _ => 0)))] H := hP
  have hD : va_D A [(xx, .inr (1, [.int 0, .int 0, .ref qa1, .null, .int 0, .null, .null, .null, .null, .null, .int 0, .null, .null, .null, .null, .int 0, .int 0, .null, .int 0, .int 0])), (qa1, .inl (g.2.1.1, 16, .inl (fun _ => 0))), (qa2, .inl (g.2.1.1, 16, .inl (fun _ => 0)))] := hD
  refine va_putF (D := g.1) (ci := 1) (v := .ref qa2) (ty := .array .int) (C := RX1) (T := TX1) (N := 20) hx hb hts hinX1 tyX1 tyX1_ok nmX1 hown hK hP hD hS 0 rfl rfl 3 (by decide) (hts (.fieldLink RX1 13 "DefaultReasoner" "heads" "[I") (by decide +kernel)) (fun _ h9 => h9) rfl hnm rfl (by decide +kernel) rfl rfl (Nat.le_of_ble_eq_true rfl) dX1_init_17 (fun H locs hP hD hS => ?_)
  have hP : va_P g.1 vwCl [(xx, .inr (1, [.int 0, .int 0, .ref qa1, .ref qa2, .int 0, .null, .null, .null, .null, .null, .int 0, .null, .null, .null, .null, .int 0, .int 0, .null, .int 0, .int 0])), (qa1, .inl (g.2.1.1, 16, .inl (fun _ => 0))), (qa2, .inl (g.2.1.1, 16, .inl (fun _ => 0)))] H := hP
  have hD : va_D A [(xx, .inr (1, [.int 0, .int 0, .ref qa1, .ref qa2, .int 0, .null, .null, .null, .null, .null, .int 0, .null, .null, .null, .null, .int 0, .int 0, .null, .int 0, .int 0])), (qa1, .inl (g.2.1.1, 16, .inl (fun _ => 0))), (qa2, .inl (g.2.1.1, 16, .inl (fun _ => 0)))] := hD
  refine lv_aload_n hx hb dX1_init_20 rfl (lv_at hl 0 rfl) ?_
  refine lv_bipush (v := 6) hx hb dX1_init_21 (by decide) ?_
  refine g_newa (a0 := (6, .inl (fun _ => 0))) (atype := .int) (ty := .int) (N' := 6) hx hb (hts (.arrayClass .int) (by decide +kernel)) rfl hK 0 rfl (fun _ h => h) hP hD hS hA (fun z => by rw [vp_cell_i]; rfl) (by decide) (by decide) (by decide) (Nat.le_of_ble_eq_true rfl) (Nat.le_of_ble_eq_true rfl) dX1_init_23 (fun qa3 H hP hD hS => ?_)
  have hP : va_P g.1 vwCl [(xx, .inr (1, [.int 0, .int 0, .ref qa1, .ref qa2, .int 0, .null, .null, .null, .null, .null, .int 0, .null, .null, .null, .null, .int 0, .int 0, .null, .int 0, .int 0])), (qa1, .inl (g.2.1.1, 16, .inl (fun _ => 0))), (qa2, .inl (g.2.1.1, 16, .inl (fun _ => 0))), (qa3, .inl (g.2.1.1, 6, .inl (fun _ => 0)))] H := hP
  have hD : va_D A [(xx, .inr (1, [.int 0, .int 0, .ref qa1, .ref qa2, .int 0, .null, .null, .null, .null, .null, .int 0, .null, .null, .null, .null, .int 0, .int 0, .null, .int 0, .int 0])), (qa1, .inl (g.2.1.1, 16, .inl (fun _ => 0))), (qa2, .inl (g.2.1.1, 16, .inl (fun _ => 0))), (qa3, .inl (g.2.1.1, 6, .inl (fun _ => 0)))] := hD
  refine va_putF (D := g.1) (ci := 1) (v := .ref qa3) (ty := .array .int) (C := RX1) (T := TX1) (N := 20) hx hb hts hinX1 tyX1 tyX1_ok nmX1 hown hK hP hD hS 0 rfl rfl 5 (by decide) (hts (.fieldLink RX1 16 "DefaultReasoner" "prerequisites" "[I") (by decide +kernel)) (fun _ h9 => h9) rfl hnm rfl (by decide +kernel) rfl rfl (Nat.le_of_ble_eq_true rfl) dX1_init_25 (fun H locs hP hD hS => ?_)
  have hP : va_P g.1 vwCl [(xx, .inr (1, [.int 0, .int 0, .ref qa1, .ref qa2, .int 0, .ref qa3, .null, .null, .null, .null, .int 0, .null, .null, .null, .null, .int 0, .int 0, .null, .int 0, .int 0])), (qa1, .inl (g.2.1.1, 16, .inl (fun _ => 0))), (qa2, .inl (g.2.1.1, 16, .inl (fun _ => 0))), (qa3, .inl (g.2.1.1, 6, .inl (fun _ => 0)))] H := hP
  have hD : va_D A [(xx, .inr (1, [.int 0, .int 0, .ref qa1, .ref qa2, .int 0, .ref qa3, .null, .null, .null, .null, .int 0, .null, .null, .null, .null, .int 0, .int 0, .null, .int 0, .int 0])), (qa1, .inl (g.2.1.1, 16, .inl (fun _ => 0))), (qa2, .inl (g.2.1.1, 16, .inl (fun _ => 0))), (qa3, .inl (g.2.1.1, 6, .inl (fun _ => 0)))] := hD
  refine lv_aload_n hx hb dX1_init_28 rfl (lv_at hl 0 rfl) ?_
  refine lv_bipush (v := 6) hx hb dX1_init_29 (by decide) ?_
  refine g_newa (a0 := (6, .inl (fun _ => 0))) (atype := .int) (ty := .int) (N' := 6) hx hb (hts (.arrayClass .int) (by decide +kernel)) rfl hK 0 rfl (fun _ h => h) hP hD hS hA (fun z => by rw [vp_cell_i]; rfl) (by decide) (by decide) (by decide) (Nat.le_of_ble_eq_true rfl) (Nat.le_of_ble_eq_true rfl) dX1_init_31 (fun qa4 H hP hD hS => ?_)
  have hP : va_P g.1 vwCl [(xx, .inr (1, [.int 0, .int 0, .ref qa1, .ref qa2, .int 0, .ref qa3, .null, .null, .null, .null, .int 0, .null, .null, .null, .null, .int 0, .int 0, .null, .int 0, .int 0])), (qa1, .inl (g.2.1.1, 16, .inl (fun _ => 0))), (qa2, .inl (g.2.1.1, 16, .inl (fun _ => 0))), (qa3, .inl (g.2.1.1, 6, .inl (fun _ => 0))), (qa4, .inl (g.2.1.1, 6, .inl (fun _ => 0)))] H := hP
  have hD : va_D A [(xx, .inr (1, [.int 0, .int 0, .ref qa1, .ref qa2, .int 0, .ref qa3, .null, .null, .null, .null, .int 0, .null, .null, .null, .null, .int 0, .int 0, .null, .int 0, .int 0])), (qa1, .inl (g.2.1.1, 16, .inl (fun _ => 0))), (qa2, .inl (g.2.1.1, 16, .inl (fun _ => 0))), (qa3, .inl (g.2.1.1, 6, .inl (fun _ => 0))), (qa4, .inl (g.2.1.1, 6, .inl (fun _ => 0)))] := hD
  refine va_putF (D := g.1) (ci := 1) (v := .ref qa4) (ty := .array .int) (C := RX1) (T := TX1) (N := 20) hx hb hts hinX1 tyX1 tyX1_ok nmX1 hown hK hP hD hS 0 rfl rfl 6 (by decide) (hts (.fieldLink RX1 19 "DefaultReasoner" "justifications" "[I") (by decide +kernel)) (fun _ h9 => h9) rfl hnm rfl (by decide +kernel) rfl rfl (Nat.le_of_ble_eq_true rfl) dX1_init_33 (fun H locs hP hD hS => ?_)
  have hP : va_P g.1 vwCl [(xx, .inr (1, [.int 0, .int 0, .ref qa1, .ref qa2, .int 0, .ref qa3, .ref qa4, .null, .null, .null, .int 0, .null, .null, .null, .null, .int 0, .int 0, .null, .int 0, .int 0])), (qa1, .inl (g.2.1.1, 16, .inl (fun _ => 0))), (qa2, .inl (g.2.1.1, 16, .inl (fun _ => 0))), (qa3, .inl (g.2.1.1, 6, .inl (fun _ => 0))), (qa4, .inl (g.2.1.1, 6, .inl (fun _ => 0)))] H := hP
  have hD : va_D A [(xx, .inr (1, [.int 0, .int 0, .ref qa1, .ref qa2, .int 0, .ref qa3, .ref qa4, .null, .null, .null, .int 0, .null, .null, .null, .null, .int 0, .int 0, .null, .int 0, .int 0])), (qa1, .inl (g.2.1.1, 16, .inl (fun _ => 0))), (qa2, .inl (g.2.1.1, 16, .inl (fun _ => 0))), (qa3, .inl (g.2.1.1, 6, .inl (fun _ => 0))), (qa4, .inl (g.2.1.1, 6, .inl (fun _ => 0)))] := hD
  refine lv_aload_n hx hb dX1_init_36 rfl (lv_at hl 0 rfl) ?_
  refine lv_bipush (v := 6) hx hb dX1_init_37 (by decide) ?_
  refine g_newa (a0 := (6, .inl (fun _ => 0))) (atype := .int) (ty := .int) (N' := 6) hx hb (hts (.arrayClass .int) (by decide +kernel)) rfl hK 0 rfl (fun _ h => h) hP hD hS hA (fun z => by rw [vp_cell_i]; rfl) (by decide) (by decide) (by decide) (Nat.le_of_ble_eq_true rfl) (Nat.le_of_ble_eq_true rfl) dX1_init_39 (fun qa5 H hP hD hS => ?_)
  have hP : va_P g.1 vwCl [(xx, .inr (1, [.int 0, .int 0, .ref qa1, .ref qa2, .int 0, .ref qa3, .ref qa4, .null, .null, .null, .int 0, .null, .null, .null, .null, .int 0, .int 0, .null, .int 0, .int 0])), (qa1, .inl (g.2.1.1, 16, .inl (fun _ => 0))), (qa2, .inl (g.2.1.1, 16, .inl (fun _ => 0))), (qa3, .inl (g.2.1.1, 6, .inl (fun _ => 0))), (qa4, .inl (g.2.1.1, 6, .inl (fun _ => 0))), (qa5, .inl (g.2.1.1, 6, .inl (fun _ => 0)))] H := hP
  have hD : va_D A [(xx, .inr (1, [.int 0, .int 0, .ref qa1, .ref qa2, .int 0, .ref qa3, .ref qa4, .null, .null, .null, .int 0, .null, .null, .null, .null, .int 0, .int 0, .null, .int 0, .int 0])), (qa1, .inl (g.2.1.1, 16, .inl (fun _ => 0))), (qa2, .inl (g.2.1.1, 16, .inl (fun _ => 0))), (qa3, .inl (g.2.1.1, 6, .inl (fun _ => 0))), (qa4, .inl (g.2.1.1, 6, .inl (fun _ => 0))), (qa5, .inl (g.2.1.1, 6, .inl (fun _ => 0)))] := hD
  refine va_putF (D := g.1) (ci := 1) (v := .ref qa5) (ty := .array .int) (C := RX1) (T := TX1) (N := 20) hx hb hts hinX1 tyX1 tyX1_ok nmX1 hown hK hP hD hS 0 rfl rfl 7 (by decide) (hts (.fieldLink RX1 22 "DefaultReasoner" "conclusions" "[I") (by decide +kernel)) (fun _ h9 => h9) rfl hnm rfl (by decide +kernel) rfl rfl (Nat.le_of_ble_eq_true rfl) dX1_init_41 (fun H locs hP hD hS => ?_)
  have hP : va_P g.1 vwCl [(xx, .inr (1, [.int 0, .int 0, .ref qa1, .ref qa2, .int 0, .ref qa3, .ref qa4, .ref qa5, .null, .null, .int 0, .null, .null, .null, .null, .int 0, .int 0, .null, .int 0, .int 0])), (qa1, .inl (g.2.1.1, 16, .inl (fun _ => 0))), (qa2, .inl (g.2.1.1, 16, .inl (fun _ => 0))), (qa3, .inl (g.2.1.1, 6, .inl (fun _ => 0))), (qa4, .inl (g.2.1.1, 6, .inl (fun _ => 0))), (qa5, .inl (g.2.1.1, 6, .inl (fun _ => 0)))] H := hP
  have hD : va_D A [(xx, .inr (1, [.int 0, .int 0, .ref qa1, .ref qa2, .int 0, .ref qa3, .ref qa4, .ref qa5, .null, .null, .int 0, .null, .null, .null, .null, .int 0, .int 0, .null, .int 0, .int 0])), (qa1, .inl (g.2.1.1, 16, .inl (fun _ => 0))), (qa2, .inl (g.2.1.1, 16, .inl (fun _ => 0))), (qa3, .inl (g.2.1.1, 6, .inl (fun _ => 0))), (qa4, .inl (g.2.1.1, 6, .inl (fun _ => 0))), (qa5, .inl (g.2.1.1, 6, .inl (fun _ => 0)))] := hD
  refine lv_aload_n hx hb dX1_init_44 rfl (lv_at hl 0 rfl) ?_
  refine va_new (ci := 0) (fs := [.null, .null]) (C := RX0) (T := TX0) (N := 2) hx hb hts hinX0 tyX0 tyX0_ok hown (hts (.classLink RX1 25 RX0) (by decide +kernel)) (hts (.instantiable RX0 2) (by decide +kernel)) (hts (.initialized RX0) (by decide +kernel)) hK hP hD hS hA rfl (fun j hj => by revert j; decide) (Nat.le_of_ble_eq_true rfl) (Nat.le_of_ble_eq_true rfl) dX1_init_45 (fun qo6 H hP hD hS => ?_)
  have hP : va_P g.1 vwCl [(xx, .inr (1, [.int 0, .int 0, .ref qa1, .ref qa2, .int 0, .ref qa3, .ref qa4, .ref qa5, .null, .null, .int 0, .null, .null, .null, .null, .int 0, .int 0, .null, .int 0, .int 0])), (qa1, .inl (g.2.1.1, 16, .inl (fun _ => 0))), (qa2, .inl (g.2.1.1, 16, .inl (fun _ => 0))), (qa3, .inl (g.2.1.1, 6, .inl (fun _ => 0))), (qa4, .inl (g.2.1.1, 6, .inl (fun _ => 0))), (qa5, .inl (g.2.1.1, 6, .inl (fun _ => 0))), (qo6, .inr (0, [.null, .null]))] H := hP
  have hD : va_D A [(xx, .inr (1, [.int 0, .int 0, .ref qa1, .ref qa2, .int 0, .ref qa3, .ref qa4, .ref qa5, .null, .null, .int 0, .null, .null, .null, .null, .int 0, .int 0, .null, .int 0, .int 0])), (qa1, .inl (g.2.1.1, 16, .inl (fun _ => 0))), (qa2, .inl (g.2.1.1, 16, .inl (fun _ => 0))), (qa3, .inl (g.2.1.1, 6, .inl (fun _ => 0))), (qa4, .inl (g.2.1.1, 6, .inl (fun _ => 0))), (qa5, .inl (g.2.1.1, 6, .inl (fun _ => 0))), (qo6, .inr (0, [.null, .null]))] := hD
  refine lv_dup hx hb dX1_init_48 rfl ?_
  refine gj_v (wc := [(qo6, .inr (0, [.null, .null]))]) (wr := [(xx, .inr (1, [.int 0, .int 0, .ref qa1, .ref qa2, .int 0, .ref qa3, .ref qa4, .ref qa5, .null, .null, .int 0, .null, .null, .null, .null, .int 0, .int 0, .null, .int 0, .int 0])), (qa1, .inl (g.2.1.1, 16, .inl (fun _ => 0))), (qa2, .inl (g.2.1.1, 16, .inl (fun _ => 0))), (qa3, .inl (g.2.1.1, 6, .inl (fun _ => 0))), (qa4, .inl (g.2.1.1, 6, .inl (fun _ => 0))), (qa5, .inl (g.2.1.1, 6, .inl (fun _ => 0)))]) (gr_IN (n := 0) ⟨hx, hb, hml, hown, hts⟩ (c_X0_init l g H.size qo6) gX1_init_X0_init_n27 rfl rfl rfl (hE.1.2.2.2.1 (.methodLinkNest RX1 27 yX0_init RX1) (by decide +kernel)) (hts (.initialized RX0) (by decide +kernel)) (hts (.instanceMethod yX0_init) (by decide +kernel)) rfl (by decide +kernel) ⟨Nat.le_of_ble_eq_true rfl, Nat.le_of_ble_eq_true rfl⟩ (gp_S hK hE hA hP hD hS [6] rfl (by decide) rfl) rfl hl.1 rfl (Nat.le_of_ble_eq_true rfl) dX1_init_49 ⟨Nat.le_of_ble_eq_true rfl, Nat.le_of_ble_eq_true rfl⟩) hP hD hS hA [6] [0, 1, 2, 3, 4, 5] rfl rfl (by decide) (by decide) (fun u7 H locs hp7 hP hD hS => ?_)
  have hP : va_P g.1 vwCl [(xx, .inr (1, [.int 0, .int 0, .ref qa1, .ref qa2, .int 0, .ref qa3, .ref qa4, .ref qa5, .null, .null, .int 0, .null, .null, .null, .null, .int 0, .int 0, .null, .int 0, .int 0])), (qa1, .inl (g.2.1.1, 16, .inl (fun _ => 0))), (qa2, .inl (g.2.1.1, 16, .inl (fun _ => 0))), (qa3, .inl (g.2.1.1, 6, .inl (fun _ => 0))), (qa4, .inl (g.2.1.1, 6, .inl (fun _ => 0))), (qa5, .inl (g.2.1.1, 6, .inl (fun _ => 0))), (qo6, .inr (0, [.ref (u7 0), .ref (u7 1)])), ((u7 0), .inl (g.2.1.1, 6, .inl (fun _ => 0))), ((u7 1), .inl (g.2.1.1, 6, .inl (fun _ => 0)))] H := hP
  have hD : va_D A [(xx, .inr (1, [.int 0, .int 0, .ref qa1, .ref qa2, .int 0, .ref qa3, .ref qa4, .ref qa5, .null, .null, .int 0, .null, .null, .null, .null, .int 0, .int 0, .null, .int 0, .int 0])), (qa1, .inl (g.2.1.1, 16, .inl (fun _ => 0))), (qa2, .inl (g.2.1.1, 16, .inl (fun _ => 0))), (qa3, .inl (g.2.1.1, 6, .inl (fun _ => 0))), (qa4, .inl (g.2.1.1, 6, .inl (fun _ => 0))), (qa5, .inl (g.2.1.1, 6, .inl (fun _ => 0))), (qo6, .inr (0, [.ref (u7 0), .ref (u7 1)])), ((u7 0), .inl (g.2.1.1, 6, .inl (fun _ => 0))), ((u7 1), .inl (g.2.1.1, 6, .inl (fun _ => 0)))] := hD
  refine va_putF (D := g.1) (ci := 1) (v := .ref qo6) (ty := .object "DefaultReasoner$Priorities") (C := RX1) (T := TX1) (N := 20) hx hb hts hinX1 tyX1 tyX1_ok nmX1 hown hK hP hD hS 0 rfl rfl 8 (by decide) (hts (.fieldLink RX1 28 "DefaultReasoner" "priorities" "LDefaultReasoner$Priorities;") (by decide +kernel)) (fun _ h9 => h9) rfl hnm rfl (by decide +kernel) rfl rfl (Nat.le_of_ble_eq_true rfl) dX1_init_52 (fun H locs hP hD hS => ?_)
  have hP : va_P g.1 vwCl [(xx, .inr (1, [.int 0, .int 0, .ref qa1, .ref qa2, .int 0, .ref qa3, .ref qa4, .ref qa5, .ref qo6, .null, .int 0, .null, .null, .null, .null, .int 0, .int 0, .null, .int 0, .int 0])), (qa1, .inl (g.2.1.1, 16, .inl (fun _ => 0))), (qa2, .inl (g.2.1.1, 16, .inl (fun _ => 0))), (qa3, .inl (g.2.1.1, 6, .inl (fun _ => 0))), (qa4, .inl (g.2.1.1, 6, .inl (fun _ => 0))), (qa5, .inl (g.2.1.1, 6, .inl (fun _ => 0))), (qo6, .inr (0, [.ref (u7 0), .ref (u7 1)])), ((u7 0), .inl (g.2.1.1, 6, .inl (fun _ => 0))), ((u7 1), .inl (g.2.1.1, 6, .inl (fun _ => 0)))] H := hP
  have hD : va_D A [(xx, .inr (1, [.int 0, .int 0, .ref qa1, .ref qa2, .int 0, .ref qa3, .ref qa4, .ref qa5, .ref qo6, .null, .int 0, .null, .null, .null, .null, .int 0, .int 0, .null, .int 0, .int 0])), (qa1, .inl (g.2.1.1, 16, .inl (fun _ => 0))), (qa2, .inl (g.2.1.1, 16, .inl (fun _ => 0))), (qa3, .inl (g.2.1.1, 6, .inl (fun _ => 0))), (qa4, .inl (g.2.1.1, 6, .inl (fun _ => 0))), (qa5, .inl (g.2.1.1, 6, .inl (fun _ => 0))), (qo6, .inr (0, [.ref (u7 0), .ref (u7 1)])), ((u7 0), .inl (g.2.1.1, 6, .inl (fun _ => 0))), ((u7 1), .inl (g.2.1.1, 6, .inl (fun _ => 0)))] := hD
  refine lv_aload_n hx hb dX1_init_55 rfl (lv_at hl 0 rfl) ?_
  refine lv_bipush (v := 6) hx hb dX1_init_56 (by decide) ?_
  refine g_newa (a0 := (6, .inl (fun _ => 0))) (atype := .int) (ty := .int) (N' := 6) hx hb (hts (.arrayClass .int) (by decide +kernel)) rfl hK 0 rfl (fun _ h => h) hP hD hS hA (fun z => by rw [vp_cell_i]; rfl) (by decide) (by decide) (by decide) (Nat.le_of_ble_eq_true rfl) (Nat.le_of_ble_eq_true rfl) dX1_init_58 (fun qa8 H hP hD hS => ?_)
  have hP : va_P g.1 vwCl [(xx, .inr (1, [.int 0, .int 0, .ref qa1, .ref qa2, .int 0, .ref qa3, .ref qa4, .ref qa5, .ref qo6, .null, .int 0, .null, .null, .null, .null, .int 0, .int 0, .null, .int 0, .int 0])), (qa1, .inl (g.2.1.1, 16, .inl (fun _ => 0))), (qa2, .inl (g.2.1.1, 16, .inl (fun _ => 0))), (qa3, .inl (g.2.1.1, 6, .inl (fun _ => 0))), (qa4, .inl (g.2.1.1, 6, .inl (fun _ => 0))), (qa5, .inl (g.2.1.1, 6, .inl (fun _ => 0))), (qo6, .inr (0, [.ref (u7 0), .ref (u7 1)])), ((u7 0), .inl (g.2.1.1, 6, .inl (fun _ => 0))), ((u7 1), .inl (g.2.1.1, 6, .inl (fun _ => 0))), (qa8, .inl (g.2.1.1, 6, .inl (fun _ => 0)))] H := hP
  have hD : va_D A [(xx, .inr (1, [.int 0, .int 0, .ref qa1, .ref qa2, .int 0, .ref qa3, .ref qa4, .ref qa5, .ref qo6, .null, .int 0, .null, .null, .null, .null, .int 0, .int 0, .null, .int 0, .int 0])), (qa1, .inl (g.2.1.1, 16, .inl (fun _ => 0))), (qa2, .inl (g.2.1.1, 16, .inl (fun _ => 0))), (qa3, .inl (g.2.1.1, 6, .inl (fun _ => 0))), (qa4, .inl (g.2.1.1, 6, .inl (fun _ => 0))), (qa5, .inl (g.2.1.1, 6, .inl (fun _ => 0))), (qo6, .inr (0, [.ref (u7 0), .ref (u7 1)])), ((u7 0), .inl (g.2.1.1, 6, .inl (fun _ => 0))), ((u7 1), .inl (g.2.1.1, 6, .inl (fun _ => 0))), (qa8, .inl (g.2.1.1, 6, .inl (fun _ => 0)))] := hD
  refine va_putF (D := g.1) (ci := 1) (v := .ref qa8) (ty := .array .int) (C := RX1) (T := TX1) (N := 20) hx hb hts hinX1 tyX1 tyX1_ok nmX1 hown hK hP hD hS 0 rfl rfl 9 (by decide) (hts (.fieldLink RX1 32 "DefaultReasoner" "latestWalk" "[I") (by decide +kernel)) (fun _ h9 => h9) rfl hnm rfl (by decide +kernel) rfl rfl (Nat.le_of_ble_eq_true rfl) dX1_init_60 (fun H locs hP hD hS => ?_)
  have hP : va_P g.1 vwCl [(xx, .inr (1, [.int 0, .int 0, .ref qa1, .ref qa2, .int 0, .ref qa3, .ref qa4, .ref qa5, .ref qo6, .ref qa8, .int 0, .null, .null, .null, .null, .int 0, .int 0, .null, .int 0, .int 0])), (qa1, .inl (g.2.1.1, 16, .inl (fun _ => 0))), (qa2, .inl (g.2.1.1, 16, .inl (fun _ => 0))), (qa3, .inl (g.2.1.1, 6, .inl (fun _ => 0))), (qa4, .inl (g.2.1.1, 6, .inl (fun _ => 0))), (qa5, .inl (g.2.1.1, 6, .inl (fun _ => 0))), (qo6, .inr (0, [.ref (u7 0), .ref (u7 1)])), ((u7 0), .inl (g.2.1.1, 6, .inl (fun _ => 0))), ((u7 1), .inl (g.2.1.1, 6, .inl (fun _ => 0))), (qa8, .inl (g.2.1.1, 6, .inl (fun _ => 0)))] H := hP
  have hD : va_D A [(xx, .inr (1, [.int 0, .int 0, .ref qa1, .ref qa2, .int 0, .ref qa3, .ref qa4, .ref qa5, .ref qo6, .ref qa8, .int 0, .null, .null, .null, .null, .int 0, .int 0, .null, .int 0, .int 0])), (qa1, .inl (g.2.1.1, 16, .inl (fun _ => 0))), (qa2, .inl (g.2.1.1, 16, .inl (fun _ => 0))), (qa3, .inl (g.2.1.1, 6, .inl (fun _ => 0))), (qa4, .inl (g.2.1.1, 6, .inl (fun _ => 0))), (qa5, .inl (g.2.1.1, 6, .inl (fun _ => 0))), (qo6, .inr (0, [.ref (u7 0), .ref (u7 1)])), ((u7 0), .inl (g.2.1.1, 6, .inl (fun _ => 0))), ((u7 1), .inl (g.2.1.1, 6, .inl (fun _ => 0))), (qa8, .inl (g.2.1.1, 6, .inl (fun _ => 0)))] := hD
  refine lv_aload_n hx hb dX1_init_63 rfl (lv_at hl 0 rfl) ?_
  refine lv_bipush (v := 6) hx hb dX1_init_64 (by decide) ?_
  refine g_newa (a0 := (6, .inl (fun _ => 0))) (atype := .int) (ty := .int) (N' := 6) hx hb (hts (.arrayClass .int) (by decide +kernel)) rfl hK 0 rfl (fun _ h => h) hP hD hS hA (fun z => by rw [vp_cell_i]; rfl) (by decide) (by decide) (by decide) (Nat.le_of_ble_eq_true rfl) (Nat.le_of_ble_eq_true rfl) dX1_init_66 (fun qa9 H hP hD hS => ?_)
  have hP : va_P g.1 vwCl [(xx, .inr (1, [.int 0, .int 0, .ref qa1, .ref qa2, .int 0, .ref qa3, .ref qa4, .ref qa5, .ref qo6, .ref qa8, .int 0, .null, .null, .null, .null, .int 0, .int 0, .null, .int 0, .int 0])), (qa1, .inl (g.2.1.1, 16, .inl (fun _ => 0))), (qa2, .inl (g.2.1.1, 16, .inl (fun _ => 0))), (qa3, .inl (g.2.1.1, 6, .inl (fun _ => 0))), (qa4, .inl (g.2.1.1, 6, .inl (fun _ => 0))), (qa5, .inl (g.2.1.1, 6, .inl (fun _ => 0))), (qo6, .inr (0, [.ref (u7 0), .ref (u7 1)])), ((u7 0), .inl (g.2.1.1, 6, .inl (fun _ => 0))), ((u7 1), .inl (g.2.1.1, 6, .inl (fun _ => 0))), (qa8, .inl (g.2.1.1, 6, .inl (fun _ => 0))), (qa9, .inl (g.2.1.1, 6, .inl (fun _ => 0)))] H := hP
  have hD : va_D A [(xx, .inr (1, [.int 0, .int 0, .ref qa1, .ref qa2, .int 0, .ref qa3, .ref qa4, .ref qa5, .ref qo6, .ref qa8, .int 0, .null, .null, .null, .null, .int 0, .int 0, .null, .int 0, .int 0])), (qa1, .inl (g.2.1.1, 16, .inl (fun _ => 0))), (qa2, .inl (g.2.1.1, 16, .inl (fun _ => 0))), (qa3, .inl (g.2.1.1, 6, .inl (fun _ => 0))), (qa4, .inl (g.2.1.1, 6, .inl (fun _ => 0))), (qa5, .inl (g.2.1.1, 6, .inl (fun _ => 0))), (qo6, .inr (0, [.ref (u7 0), .ref (u7 1)])), ((u7 0), .inl (g.2.1.1, 6, .inl (fun _ => 0))), ((u7 1), .inl (g.2.1.1, 6, .inl (fun _ => 0))), (qa8, .inl (g.2.1.1, 6, .inl (fun _ => 0))), (qa9, .inl (g.2.1.1, 6, .inl (fun _ => 0)))] := hD
  refine va_putF (D := g.1) (ci := 1) (v := .ref qa9) (ty := .array .int) (C := RX1) (T := TX1) (N := 20) hx hb hts hinX1 tyX1 tyX1_ok nmX1 hown hK hP hD hS 0 rfl rfl 11 (by decide) (hts (.fieldLink RX1 35 "DefaultReasoner" "lineup" "[I") (by decide +kernel)) (fun _ h9 => h9) rfl hnm rfl (by decide +kernel) rfl rfl (Nat.le_of_ble_eq_true rfl) dX1_init_68 (fun H locs hP hD hS => ?_)
  have hP : va_P g.1 vwCl [(xx, .inr (1, [.int 0, .int 0, .ref qa1, .ref qa2, .int 0, .ref qa3, .ref qa4, .ref qa5, .ref qo6, .ref qa8, .int 0, .ref qa9, .null, .null, .null, .int 0, .int 0, .null, .int 0, .int 0])), (qa1, .inl (g.2.1.1, 16, .inl (fun _ => 0))), (qa2, .inl (g.2.1.1, 16, .inl (fun _ => 0))), (qa3, .inl (g.2.1.1, 6, .inl (fun _ => 0))), (qa4, .inl (g.2.1.1, 6, .inl (fun _ => 0))), (qa5, .inl (g.2.1.1, 6, .inl (fun _ => 0))), (qo6, .inr (0, [.ref (u7 0), .ref (u7 1)])), ((u7 0), .inl (g.2.1.1, 6, .inl (fun _ => 0))), ((u7 1), .inl (g.2.1.1, 6, .inl (fun _ => 0))), (qa8, .inl (g.2.1.1, 6, .inl (fun _ => 0))), (qa9, .inl (g.2.1.1, 6, .inl (fun _ => 0)))] H := hP
  have hD : va_D A [(xx, .inr (1, [.int 0, .int 0, .ref qa1, .ref qa2, .int 0, .ref qa3, .ref qa4, .ref qa5, .ref qo6, .ref qa8, .int 0, .ref qa9, .null, .null, .null, .int 0, .int 0, .null, .int 0, .int 0])), (qa1, .inl (g.2.1.1, 16, .inl (fun _ => 0))), (qa2, .inl (g.2.1.1, 16, .inl (fun _ => 0))), (qa3, .inl (g.2.1.1, 6, .inl (fun _ => 0))), (qa4, .inl (g.2.1.1, 6, .inl (fun _ => 0))), (qa5, .inl (g.2.1.1, 6, .inl (fun _ => 0))), (qo6, .inr (0, [.ref (u7 0), .ref (u7 1)])), ((u7 0), .inl (g.2.1.1, 6, .inl (fun _ => 0))), ((u7 1), .inl (g.2.1.1, 6, .inl (fun _ => 0))), (qa8, .inl (g.2.1.1, 6, .inl (fun _ => 0))), (qa9, .inl (g.2.1.1, 6, .inl (fun _ => 0)))] := hD
  refine lv_aload_n hx hb dX1_init_71 rfl (lv_at hl 0 rfl) ?_
  refine lv_bipush (v := 64) hx hb dX1_init_72 (by decide) ?_
  refine g_newa (a0 := (64, .inl (fun _ => 0))) (atype := .int) (ty := .int) (N' := 64) hx hb (hts (.arrayClass .int) (by decide +kernel)) rfl hK 0 rfl (fun _ h => h) hP hD hS hA (fun z => by rw [vp_cell_i]; rfl) (by decide) (by decide) (by decide) (Nat.le_of_ble_eq_true rfl) (Nat.le_of_ble_eq_true rfl) dX1_init_74 (fun qa10 H hP hD hS => ?_)
  have hP : va_P g.1 vwCl [(xx, .inr (1, [.int 0, .int 0, .ref qa1, .ref qa2, .int 0, .ref qa3, .ref qa4, .ref qa5, .ref qo6, .ref qa8, .int 0, .ref qa9, .null, .null, .null, .int 0, .int 0, .null, .int 0, .int 0])), (qa1, .inl (g.2.1.1, 16, .inl (fun _ => 0))), (qa2, .inl (g.2.1.1, 16, .inl (fun _ => 0))), (qa3, .inl (g.2.1.1, 6, .inl (fun _ => 0))), (qa4, .inl (g.2.1.1, 6, .inl (fun _ => 0))), (qa5, .inl (g.2.1.1, 6, .inl (fun _ => 0))), (qo6, .inr (0, [.ref (u7 0), .ref (u7 1)])), ((u7 0), .inl (g.2.1.1, 6, .inl (fun _ => 0))), ((u7 1), .inl (g.2.1.1, 6, .inl (fun _ => 0))), (qa8, .inl (g.2.1.1, 6, .inl (fun _ => 0))), (qa9, .inl (g.2.1.1, 6, .inl (fun _ => 0))), (qa10, .inl (g.2.1.1, 64, .inl (fun _ => 0)))] H := hP
  have hD : va_D A [(xx, .inr (1, [.int 0, .int 0, .ref qa1, .ref qa2, .int 0, .ref qa3, .ref qa4, .ref qa5, .ref qo6, .ref qa8, .int 0, .ref qa9, .null, .null, .null, .int 0, .int 0, .null, .int 0, .int 0])), (qa1, .inl (g.2.1.1, 16, .inl (fun _ => 0))), (qa2, .inl (g.2.1.1, 16, .inl (fun _ => 0))), (qa3, .inl (g.2.1.1, 6, .inl (fun _ => 0))), (qa4, .inl (g.2.1.1, 6, .inl (fun _ => 0))), (qa5, .inl (g.2.1.1, 6, .inl (fun _ => 0))), (qo6, .inr (0, [.ref (u7 0), .ref (u7 1)])), ((u7 0), .inl (g.2.1.1, 6, .inl (fun _ => 0))), ((u7 1), .inl (g.2.1.1, 6, .inl (fun _ => 0))), (qa8, .inl (g.2.1.1, 6, .inl (fun _ => 0))), (qa9, .inl (g.2.1.1, 6, .inl (fun _ => 0))), (qa10, .inl (g.2.1.1, 64, .inl (fun _ => 0)))] := hD
  refine va_putF (D := g.1) (ci := 1) (v := .ref qa10) (ty := .array .int) (C := RX1) (T := TX1) (N := 20) hx hb hts hinX1 tyX1 tyX1_ok nmX1 hown hK hP hD hS 0 rfl rfl 12 (by decide) (hts (.fieldLink RX1 38 "DefaultReasoner" "held" "[I") (by decide +kernel)) (fun _ h9 => h9) rfl hnm rfl (by decide +kernel) rfl rfl (Nat.le_of_ble_eq_true rfl) dX1_init_76 (fun H locs hP hD hS => ?_)
  have hP : va_P g.1 vwCl [(xx, .inr (1, [.int 0, .int 0, .ref qa1, .ref qa2, .int 0, .ref qa3, .ref qa4, .ref qa5, .ref qo6, .ref qa8, .int 0, .ref qa9, .ref qa10, .null, .null, .int 0, .int 0, .null, .int 0, .int 0])), (qa1, .inl (g.2.1.1, 16, .inl (fun _ => 0))), (qa2, .inl (g.2.1.1, 16, .inl (fun _ => 0))), (qa3, .inl (g.2.1.1, 6, .inl (fun _ => 0))), (qa4, .inl (g.2.1.1, 6, .inl (fun _ => 0))), (qa5, .inl (g.2.1.1, 6, .inl (fun _ => 0))), (qo6, .inr (0, [.ref (u7 0), .ref (u7 1)])), ((u7 0), .inl (g.2.1.1, 6, .inl (fun _ => 0))), ((u7 1), .inl (g.2.1.1, 6, .inl (fun _ => 0))), (qa8, .inl (g.2.1.1, 6, .inl (fun _ => 0))), (qa9, .inl (g.2.1.1, 6, .inl (fun _ => 0))), (qa10, .inl (g.2.1.1, 64, .inl (fun _ => 0)))] H := hP
  have hD : va_D A [(xx, .inr (1, [.int 0, .int 0, .ref qa1, .ref qa2, .int 0, .ref qa3, .ref qa4, .ref qa5, .ref qo6, .ref qa8, .int 0, .ref qa9, .ref qa10, .null, .null, .int 0, .int 0, .null, .int 0, .int 0])), (qa1, .inl (g.2.1.1, 16, .inl (fun _ => 0))), (qa2, .inl (g.2.1.1, 16, .inl (fun _ => 0))), (qa3, .inl (g.2.1.1, 6, .inl (fun _ => 0))), (qa4, .inl (g.2.1.1, 6, .inl (fun _ => 0))), (qa5, .inl (g.2.1.1, 6, .inl (fun _ => 0))), (qo6, .inr (0, [.ref (u7 0), .ref (u7 1)])), ((u7 0), .inl (g.2.1.1, 6, .inl (fun _ => 0))), ((u7 1), .inl (g.2.1.1, 6, .inl (fun _ => 0))), (qa8, .inl (g.2.1.1, 6, .inl (fun _ => 0))), (qa9, .inl (g.2.1.1, 6, .inl (fun _ => 0))), (qa10, .inl (g.2.1.1, 64, .inl (fun _ => 0)))] := hD
  refine lv_aload_n hx hb dX1_init_79 rfl (lv_at hl 0 rfl) ?_
  refine lv_bipush (v := 64) hx hb dX1_init_80 (by decide) ?_
  refine g_newa (a0 := (64, .inl (fun _ => 0))) (atype := .int) (ty := .int) (N' := 64) hx hb (hts (.arrayClass .int) (by decide +kernel)) rfl hK 0 rfl (fun _ h => h) hP hD hS hA (fun z => by rw [vp_cell_i]; rfl) (by decide) (by decide) (by decide) (Nat.le_of_ble_eq_true rfl) (Nat.le_of_ble_eq_true rfl) dX1_init_82 (fun qa11 H hP hD hS => ?_)
  have hP : va_P g.1 vwCl [(xx, .inr (1, [.int 0, .int 0, .ref qa1, .ref qa2, .int 0, .ref qa3, .ref qa4, .ref qa5, .ref qo6, .ref qa8, .int 0, .ref qa9, .ref qa10, .null, .null, .int 0, .int 0, .null, .int 0, .int 0])), (qa1, .inl (g.2.1.1, 16, .inl (fun _ => 0))), (qa2, .inl (g.2.1.1, 16, .inl (fun _ => 0))), (qa3, .inl (g.2.1.1, 6, .inl (fun _ => 0))), (qa4, .inl (g.2.1.1, 6, .inl (fun _ => 0))), (qa5, .inl (g.2.1.1, 6, .inl (fun _ => 0))), (qo6, .inr (0, [.ref (u7 0), .ref (u7 1)])), ((u7 0), .inl (g.2.1.1, 6, .inl (fun _ => 0))), ((u7 1), .inl (g.2.1.1, 6, .inl (fun _ => 0))), (qa8, .inl (g.2.1.1, 6, .inl (fun _ => 0))), (qa9, .inl (g.2.1.1, 6, .inl (fun _ => 0))), (qa10, .inl (g.2.1.1, 64, .inl (fun _ => 0))), (qa11, .inl (g.2.1.1, 64, .inl (fun _ => 0)))] H := hP
  have hD : va_D A [(xx, .inr (1, [.int 0, .int 0, .ref qa1, .ref qa2, .int 0, .ref qa3, .ref qa4, .ref qa5, .ref qo6, .ref qa8, .int 0, .ref qa9, .ref qa10, .null, .null, .int 0, .int 0, .null, .int 0, .int 0])), (qa1, .inl (g.2.1.1, 16, .inl (fun _ => 0))), (qa2, .inl (g.2.1.1, 16, .inl (fun _ => 0))), (qa3, .inl (g.2.1.1, 6, .inl (fun _ => 0))), (qa4, .inl (g.2.1.1, 6, .inl (fun _ => 0))), (qa5, .inl (g.2.1.1, 6, .inl (fun _ => 0))), (qo6, .inr (0, [.ref (u7 0), .ref (u7 1)])), ((u7 0), .inl (g.2.1.1, 6, .inl (fun _ => 0))), ((u7 1), .inl (g.2.1.1, 6, .inl (fun _ => 0))), (qa8, .inl (g.2.1.1, 6, .inl (fun _ => 0))), (qa9, .inl (g.2.1.1, 6, .inl (fun _ => 0))), (qa10, .inl (g.2.1.1, 64, .inl (fun _ => 0))), (qa11, .inl (g.2.1.1, 64, .inl (fun _ => 0)))] := hD
  refine va_putF (D := g.1) (ci := 1) (v := .ref qa11) (ty := .array .int) (C := RX1) (T := TX1) (N := 20) hx hb hts hinX1 tyX1 tyX1_ok nmX1 hown hK hP hD hS 0 rfl rfl 13 (by decide) (hts (.fieldLink RX1 41 "DefaultReasoner" "usable" "[I") (by decide +kernel)) (fun _ h9 => h9) rfl hnm rfl (by decide +kernel) rfl rfl (Nat.le_of_ble_eq_true rfl) dX1_init_84 (fun H locs hP hD hS => ?_)
  have hP : va_P g.1 vwCl [(xx, .inr (1, [.int 0, .int 0, .ref qa1, .ref qa2, .int 0, .ref qa3, .ref qa4, .ref qa5, .ref qo6, .ref qa8, .int 0, .ref qa9, .ref qa10, .ref qa11, .null, .int 0, .int 0, .null, .int 0, .int 0])), (qa1, .inl (g.2.1.1, 16, .inl (fun _ => 0))), (qa2, .inl (g.2.1.1, 16, .inl (fun _ => 0))), (qa3, .inl (g.2.1.1, 6, .inl (fun _ => 0))), (qa4, .inl (g.2.1.1, 6, .inl (fun _ => 0))), (qa5, .inl (g.2.1.1, 6, .inl (fun _ => 0))), (qo6, .inr (0, [.ref (u7 0), .ref (u7 1)])), ((u7 0), .inl (g.2.1.1, 6, .inl (fun _ => 0))), ((u7 1), .inl (g.2.1.1, 6, .inl (fun _ => 0))), (qa8, .inl (g.2.1.1, 6, .inl (fun _ => 0))), (qa9, .inl (g.2.1.1, 6, .inl (fun _ => 0))), (qa10, .inl (g.2.1.1, 64, .inl (fun _ => 0))), (qa11, .inl (g.2.1.1, 64, .inl (fun _ => 0)))] H := hP
  have hD : va_D A [(xx, .inr (1, [.int 0, .int 0, .ref qa1, .ref qa2, .int 0, .ref qa3, .ref qa4, .ref qa5, .ref qo6, .ref qa8, .int 0, .ref qa9, .ref qa10, .ref qa11, .null, .int 0, .int 0, .null, .int 0, .int 0])), (qa1, .inl (g.2.1.1, 16, .inl (fun _ => 0))), (qa2, .inl (g.2.1.1, 16, .inl (fun _ => 0))), (qa3, .inl (g.2.1.1, 6, .inl (fun _ => 0))), (qa4, .inl (g.2.1.1, 6, .inl (fun _ => 0))), (qa5, .inl (g.2.1.1, 6, .inl (fun _ => 0))), (qo6, .inr (0, [.ref (u7 0), .ref (u7 1)])), ((u7 0), .inl (g.2.1.1, 6, .inl (fun _ => 0))), ((u7 1), .inl (g.2.1.1, 6, .inl (fun _ => 0))), (qa8, .inl (g.2.1.1, 6, .inl (fun _ => 0))), (qa9, .inl (g.2.1.1, 6, .inl (fun _ => 0))), (qa10, .inl (g.2.1.1, 64, .inl (fun _ => 0))), (qa11, .inl (g.2.1.1, 64, .inl (fun _ => 0)))] := hD
  refine lv_aload_n hx hb dX1_init_87 rfl (lv_at hl 0 rfl) ?_
  refine lv_bipush (v := 64) hx hb dX1_init_88 (by decide) ?_
  refine g_newa (a0 := (64, .inl (fun _ => 0))) (atype := .int) (ty := .int) (N' := 64) hx hb (hts (.arrayClass .int) (by decide +kernel)) rfl hK 0 rfl (fun _ h => h) hP hD hS hA (fun z => by rw [vp_cell_i]; rfl) (by decide) (by decide) (by decide) (Nat.le_of_ble_eq_true rfl) (Nat.le_of_ble_eq_true rfl) dX1_init_90 (fun qa12 H hP hD hS => ?_)
  have hP : va_P g.1 vwCl [(xx, .inr (1, [.int 0, .int 0, .ref qa1, .ref qa2, .int 0, .ref qa3, .ref qa4, .ref qa5, .ref qo6, .ref qa8, .int 0, .ref qa9, .ref qa10, .ref qa11, .null, .int 0, .int 0, .null, .int 0, .int 0])), (qa1, .inl (g.2.1.1, 16, .inl (fun _ => 0))), (qa2, .inl (g.2.1.1, 16, .inl (fun _ => 0))), (qa3, .inl (g.2.1.1, 6, .inl (fun _ => 0))), (qa4, .inl (g.2.1.1, 6, .inl (fun _ => 0))), (qa5, .inl (g.2.1.1, 6, .inl (fun _ => 0))), (qo6, .inr (0, [.ref (u7 0), .ref (u7 1)])), ((u7 0), .inl (g.2.1.1, 6, .inl (fun _ => 0))), ((u7 1), .inl (g.2.1.1, 6, .inl (fun _ => 0))), (qa8, .inl (g.2.1.1, 6, .inl (fun _ => 0))), (qa9, .inl (g.2.1.1, 6, .inl (fun _ => 0))), (qa10, .inl (g.2.1.1, 64, .inl (fun _ => 0))), (qa11, .inl (g.2.1.1, 64, .inl (fun _ => 0))), (qa12, .inl (g.2.1.1, 64, .inl (fun _ => 0)))] H := hP
  have hD : va_D A [(xx, .inr (1, [.int 0, .int 0, .ref qa1, .ref qa2, .int 0, .ref qa3, .ref qa4, .ref qa5, .ref qo6, .ref qa8, .int 0, .ref qa9, .ref qa10, .ref qa11, .null, .int 0, .int 0, .null, .int 0, .int 0])), (qa1, .inl (g.2.1.1, 16, .inl (fun _ => 0))), (qa2, .inl (g.2.1.1, 16, .inl (fun _ => 0))), (qa3, .inl (g.2.1.1, 6, .inl (fun _ => 0))), (qa4, .inl (g.2.1.1, 6, .inl (fun _ => 0))), (qa5, .inl (g.2.1.1, 6, .inl (fun _ => 0))), (qo6, .inr (0, [.ref (u7 0), .ref (u7 1)])), ((u7 0), .inl (g.2.1.1, 6, .inl (fun _ => 0))), ((u7 1), .inl (g.2.1.1, 6, .inl (fun _ => 0))), (qa8, .inl (g.2.1.1, 6, .inl (fun _ => 0))), (qa9, .inl (g.2.1.1, 6, .inl (fun _ => 0))), (qa10, .inl (g.2.1.1, 64, .inl (fun _ => 0))), (qa11, .inl (g.2.1.1, 64, .inl (fun _ => 0))), (qa12, .inl (g.2.1.1, 64, .inl (fun _ => 0)))] := hD
  refine va_putF (D := g.1) (ci := 1) (v := .ref qa12) (ty := .array .int) (C := RX1) (T := TX1) (N := 20) hx hb hts hinX1 tyX1 tyX1_ok nmX1 hown hK hP hD hS 0 rfl rfl 14 (by decide) (hts (.fieldLink RX1 44 "DefaultReasoner" "extensions" "[I") (by decide +kernel)) (fun _ h9 => h9) rfl hnm rfl (by decide +kernel) rfl rfl (Nat.le_of_ble_eq_true rfl) dX1_init_92 (fun H locs hP hD hS => ?_)
  have hP : va_P g.1 vwCl [(xx, .inr (1, [.int 0, .int 0, .ref qa1, .ref qa2, .int 0, .ref qa3, .ref qa4, .ref qa5, .ref qo6, .ref qa8, .int 0, .ref qa9, .ref qa10, .ref qa11, .ref qa12, .int 0, .int 0, .null, .int 0, .int 0])), (qa1, .inl (g.2.1.1, 16, .inl (fun _ => 0))), (qa2, .inl (g.2.1.1, 16, .inl (fun _ => 0))), (qa3, .inl (g.2.1.1, 6, .inl (fun _ => 0))), (qa4, .inl (g.2.1.1, 6, .inl (fun _ => 0))), (qa5, .inl (g.2.1.1, 6, .inl (fun _ => 0))), (qo6, .inr (0, [.ref (u7 0), .ref (u7 1)])), ((u7 0), .inl (g.2.1.1, 6, .inl (fun _ => 0))), ((u7 1), .inl (g.2.1.1, 6, .inl (fun _ => 0))), (qa8, .inl (g.2.1.1, 6, .inl (fun _ => 0))), (qa9, .inl (g.2.1.1, 6, .inl (fun _ => 0))), (qa10, .inl (g.2.1.1, 64, .inl (fun _ => 0))), (qa11, .inl (g.2.1.1, 64, .inl (fun _ => 0))), (qa12, .inl (g.2.1.1, 64, .inl (fun _ => 0)))] H := hP
  have hD : va_D A [(xx, .inr (1, [.int 0, .int 0, .ref qa1, .ref qa2, .int 0, .ref qa3, .ref qa4, .ref qa5, .ref qo6, .ref qa8, .int 0, .ref qa9, .ref qa10, .ref qa11, .ref qa12, .int 0, .int 0, .null, .int 0, .int 0])), (qa1, .inl (g.2.1.1, 16, .inl (fun _ => 0))), (qa2, .inl (g.2.1.1, 16, .inl (fun _ => 0))), (qa3, .inl (g.2.1.1, 6, .inl (fun _ => 0))), (qa4, .inl (g.2.1.1, 6, .inl (fun _ => 0))), (qa5, .inl (g.2.1.1, 6, .inl (fun _ => 0))), (qo6, .inr (0, [.ref (u7 0), .ref (u7 1)])), ((u7 0), .inl (g.2.1.1, 6, .inl (fun _ => 0))), ((u7 1), .inl (g.2.1.1, 6, .inl (fun _ => 0))), (qa8, .inl (g.2.1.1, 6, .inl (fun _ => 0))), (qa9, .inl (g.2.1.1, 6, .inl (fun _ => 0))), (qa10, .inl (g.2.1.1, 64, .inl (fun _ => 0))), (qa11, .inl (g.2.1.1, 64, .inl (fun _ => 0))), (qa12, .inl (g.2.1.1, 64, .inl (fun _ => 0)))] := hD
  refine lv_aload_n hx hb dX1_init_95 rfl (lv_at hl 0 rfl) ?_
  refine lv_bipush (v := 64) hx hb dX1_init_96 (by decide) ?_
  refine g_newa (a0 := (64, .inl (fun _ => 0))) (atype := .boolean) (ty := .boolean) (N' := 64) hx hb (hts (.arrayClass .boolean) (by decide +kernel)) rfl hK 1 rfl (fun _ h => h) hP hD hS hA (fun z => by rw [vp_cell_i]; rfl) (by decide) (by decide) (by decide) (Nat.le_of_ble_eq_true rfl) (Nat.le_of_ble_eq_true rfl) dX1_init_98 (fun qa13 H hP hD hS => ?_)
  have hP : va_P g.1 vwCl [(xx, .inr (1, [.int 0, .int 0, .ref qa1, .ref qa2, .int 0, .ref qa3, .ref qa4, .ref qa5, .ref qo6, .ref qa8, .int 0, .ref qa9, .ref qa10, .ref qa11, .ref qa12, .int 0, .int 0, .null, .int 0, .int 0])), (qa1, .inl (g.2.1.1, 16, .inl (fun _ => 0))), (qa2, .inl (g.2.1.1, 16, .inl (fun _ => 0))), (qa3, .inl (g.2.1.1, 6, .inl (fun _ => 0))), (qa4, .inl (g.2.1.1, 6, .inl (fun _ => 0))), (qa5, .inl (g.2.1.1, 6, .inl (fun _ => 0))), (qo6, .inr (0, [.ref (u7 0), .ref (u7 1)])), ((u7 0), .inl (g.2.1.1, 6, .inl (fun _ => 0))), ((u7 1), .inl (g.2.1.1, 6, .inl (fun _ => 0))), (qa8, .inl (g.2.1.1, 6, .inl (fun _ => 0))), (qa9, .inl (g.2.1.1, 6, .inl (fun _ => 0))), (qa10, .inl (g.2.1.1, 64, .inl (fun _ => 0))), (qa11, .inl (g.2.1.1, 64, .inl (fun _ => 0))), (qa12, .inl (g.2.1.1, 64, .inl (fun _ => 0))), (qa13, .inl (g.2.1.2.1, 64, .inl (fun _ => 0)))] H := hP
  have hD : va_D A [(xx, .inr (1, [.int 0, .int 0, .ref qa1, .ref qa2, .int 0, .ref qa3, .ref qa4, .ref qa5, .ref qo6, .ref qa8, .int 0, .ref qa9, .ref qa10, .ref qa11, .ref qa12, .int 0, .int 0, .null, .int 0, .int 0])), (qa1, .inl (g.2.1.1, 16, .inl (fun _ => 0))), (qa2, .inl (g.2.1.1, 16, .inl (fun _ => 0))), (qa3, .inl (g.2.1.1, 6, .inl (fun _ => 0))), (qa4, .inl (g.2.1.1, 6, .inl (fun _ => 0))), (qa5, .inl (g.2.1.1, 6, .inl (fun _ => 0))), (qo6, .inr (0, [.ref (u7 0), .ref (u7 1)])), ((u7 0), .inl (g.2.1.1, 6, .inl (fun _ => 0))), ((u7 1), .inl (g.2.1.1, 6, .inl (fun _ => 0))), (qa8, .inl (g.2.1.1, 6, .inl (fun _ => 0))), (qa9, .inl (g.2.1.1, 6, .inl (fun _ => 0))), (qa10, .inl (g.2.1.1, 64, .inl (fun _ => 0))), (qa11, .inl (g.2.1.1, 64, .inl (fun _ => 0))), (qa12, .inl (g.2.1.1, 64, .inl (fun _ => 0))), (qa13, .inl (g.2.1.2.1, 64, .inl (fun _ => 0)))] := hD
  refine va_putF (D := g.1) (ci := 1) (v := .ref qa13) (ty := .array .boolean) (C := RX1) (T := TX1) (N := 20) hx hb hts hinX1 tyX1 tyX1_ok nmX1 hown hK hP hD hS 0 rfl rfl 17 (by decide) (hts (.fieldLink RX1 47 "DefaultReasoner" "preferred" "[Z") (by decide +kernel)) (fun _ h9 => h9) rfl hnm rfl (by decide +kernel) rfl rfl (Nat.le_of_ble_eq_true rfl) dX1_init_100 (fun H locs hP hD hS => ?_)
  have hP : va_P g.1 vwCl [(xx, .inr (1, [.int 0, .int 0, .ref qa1, .ref qa2, .int 0, .ref qa3, .ref qa4, .ref qa5, .ref qo6, .ref qa8, .int 0, .ref qa9, .ref qa10, .ref qa11, .ref qa12, .int 0, .int 0, .ref qa13, .int 0, .int 0])), (qa1, .inl (g.2.1.1, 16, .inl (fun _ => 0))), (qa2, .inl (g.2.1.1, 16, .inl (fun _ => 0))), (qa3, .inl (g.2.1.1, 6, .inl (fun _ => 0))), (qa4, .inl (g.2.1.1, 6, .inl (fun _ => 0))), (qa5, .inl (g.2.1.1, 6, .inl (fun _ => 0))), (qo6, .inr (0, [.ref (u7 0), .ref (u7 1)])), ((u7 0), .inl (g.2.1.1, 6, .inl (fun _ => 0))), ((u7 1), .inl (g.2.1.1, 6, .inl (fun _ => 0))), (qa8, .inl (g.2.1.1, 6, .inl (fun _ => 0))), (qa9, .inl (g.2.1.1, 6, .inl (fun _ => 0))), (qa10, .inl (g.2.1.1, 64, .inl (fun _ => 0))), (qa11, .inl (g.2.1.1, 64, .inl (fun _ => 0))), (qa12, .inl (g.2.1.1, 64, .inl (fun _ => 0))), (qa13, .inl (g.2.1.2.1, 64, .inl (fun _ => 0)))] H := hP
  have hD : va_D A [(xx, .inr (1, [.int 0, .int 0, .ref qa1, .ref qa2, .int 0, .ref qa3, .ref qa4, .ref qa5, .ref qo6, .ref qa8, .int 0, .ref qa9, .ref qa10, .ref qa11, .ref qa12, .int 0, .int 0, .ref qa13, .int 0, .int 0])), (qa1, .inl (g.2.1.1, 16, .inl (fun _ => 0))), (qa2, .inl (g.2.1.1, 16, .inl (fun _ => 0))), (qa3, .inl (g.2.1.1, 6, .inl (fun _ => 0))), (qa4, .inl (g.2.1.1, 6, .inl (fun _ => 0))), (qa5, .inl (g.2.1.1, 6, .inl (fun _ => 0))), (qo6, .inr (0, [.ref (u7 0), .ref (u7 1)])), ((u7 0), .inl (g.2.1.1, 6, .inl (fun _ => 0))), ((u7 1), .inl (g.2.1.1, 6, .inl (fun _ => 0))), (qa8, .inl (g.2.1.1, 6, .inl (fun _ => 0))), (qa9, .inl (g.2.1.1, 6, .inl (fun _ => 0))), (qa10, .inl (g.2.1.1, 64, .inl (fun _ => 0))), (qa11, .inl (g.2.1.1, 64, .inl (fun _ => 0))), (qa12, .inl (g.2.1.1, 64, .inl (fun _ => 0))), (qa13, .inl (g.2.1.2.1, 64, .inl (fun _ => 0)))] := hD
  exact g_vr hx hb hr hlocks hP hD hS (fun k => match k with | 2 => qa1 | 3 => qa2 | 5 => qa3 | 6 => qa4 | 7 => qa5 | 8 => qo6 | 9 => qa8 | 11 => qa9 | 12 => qa10 | 13 => qa11 | 14 => qa12 | 17 => qa13 | 20 => (u7 0) | 21 => (u7 1) | _ => 0) [0, 1, 2, 3, 4, 5, 9, 10, 11, 12, 13, 14, 6, 7, 8] rfl (by decide) rfl dX1_init_103 (Nat.le_of_ble_eq_true rfl) (Nat.le_of_ble_eq_true rfl) (trivial)
set_option maxHeartbeats 4000000 in
set_option maxRecDepth 100000 in
theorem c_X2_init (l : Launch) (g : gG) (sz : Nat) (mm : Nat) : gMv l yX2_init wsX2_init ({ frames := 1, cells := 9, slots := 220, locals := 12 } : Room) g [.ref mm] [(mm, .inr (2, [.int 0, .int 0, .int 0, .null, .null, .int 0, .null, .null, .null, .null, .int 0, .null, .int 0, .null, .null]))] sz (fun (u : (Nat → Nat)) => True) (fun (u : (Nat → Nat)) => [(mm, .inr (2, [.int 0, .int 0, .int 0, .ref (u 3), .ref (u 4), .int 0, .ref (u 6), .ref (u 7), .ref (u 8), .ref (u 9), .int 0, .ref (u 11), .int 0, .ref (u 13), .ref (u 14)])), ((u 3), .inl (g.2.1.1, 16, .inl (fun _ => 0))), ((u 4), .inl (g.2.1.1, 16, .inl (fun _ => 0))), ((u 6), .inl (g.2.1.1, 6, .inl (fun _ => 0))), ((u 7), .inl (g.2.1.1, 6, .inl (fun _ => 0))), ((u 8), .inl (g.2.1.1, 6, .inl (fun _ => 0))), ((u 9), .inl (g.2.1.2.1, 36, .inl (fun _ => 0))), ((u 11), .inl (g.2.1.1, 6, .inl (fun _ => 0))), ((u 13), .inl (g.2.1.1, 64, .inl (fun _ => 0))), ((u 14), .inl (g.2.1.2.1, 64, .inl (fun _ => 0)))]) 9 220 := by
  refine g_of (l := l) (y := yX2_init) (wy := wsX2_init) (rm := ({ frames := 1, cells := 9, slots := 220, locals := 12 } : Room)) (g := g) (av := [.ref mm]) (ws := [(mm, .inr (2, [.int 0, .int 0, .int 0, .null, .null, .int 0, .null, .null, .null, .null, .int 0, .null, .int 0, .null, .null]))]) (sz := sz) (mc := 9) (ms := 220) (Qc := fun A => va_Qv (fun (u : (Nat → Nat)) => True) (fun u t9 => gPost g A ((fun (u : (Nat → Nat)) => [(mm, .inr (2, [.int 0, .int 0, .int 0, .ref (u 3), .ref (u 4), .int 0, .ref (u 6), .ref (u 7), .ref (u 8), .ref (u 9), .int 0, .ref (u 11), .int 0, .ref (u 13), .ref (u 14)])), ((u 3), .inl (g.2.1.1, 16, .inl (fun _ => 0))), ((u 4), .inl (g.2.1.1, 16, .inl (fun _ => 0))), ((u 6), .inl (g.2.1.1, 6, .inl (fun _ => 0))), ((u 7), .inl (g.2.1.1, 6, .inl (fun _ => 0))), ((u 8), .inl (g.2.1.1, 6, .inl (fun _ => 0))), ((u 9), .inl (g.2.1.2.1, 36, .inl (fun _ => 0))), ((u 11), .inl (g.2.1.1, 6, .inl (fun _ => 0))), ((u 13), .inl (g.2.1.1, 64, .inl (fun _ => 0))), ((u 14), .inl (g.2.1.2.1, 64, .inl (fun _ => 0)))]) u) t9) A) (cc := cX2_init) (maxL := 1) (ret := none) (by decide) rfl (Nat.le_of_ble_eq_true rfl) ?_
  intro p e s m below meth c A ls hx hb hr hml hown hts hlocks hnm hA hK hE hP hD hS hl
  have hl : lv_has ls 1 [(0, .ref mm)] := hl
  have hown : s.vm.findClass RX2 = some m.cls := hown
  have hP : va_P g.1 vwCl [(mm, .inr (2, [.int 0, .int 0, .int 0, .null, .null, .int 0, .null, .null, .null, .null, .int 0, .null, .int 0, .null, .null]))] s.heap := hP
  have hinX2 : ∀ w ∈ u_ws RX2 TX2 15, w ∈ wsX2_init := by decide +kernel
  refine lv_aload_n hx hb dX2_init_0 rfl (lv_at hl 0 rfl) ?_
  refine W.objInit hx hb hown (hts (.methodLink RX2 1 objectInit) (by decide +kernel)) (hts (.instanceMethod objectInit) (by decide +kernel)) (hts (.code objectInit ⟨#[0xb1]⟩ 1 none) (by decide +kernel)) rfl (by rw [hml]; exact hl.1) rfl dX2_init_1 (Nat.le_of_ble_eq_true rfl) (Nat.le_of_ble_eq_true rfl) ?_
  refine W.eq (g2 := F0 m 4 ls []) rfl ?_
  refine lv_aload_n hx hb dX2_init_4 rfl (lv_at hl 0 rfl) ?_
  refine lv_bipush (v := 16) hx hb dX2_init_5 (by decide) ?_
  refine g_newa (a0 := (16, .inl (fun _ => 0))) (atype := .int) (ty := .int) (N' := 16) hx hb (hts (.arrayClass .int) (by decide +kernel)) rfl hK 0 rfl (fun _ h => h) hP hD hS hA (fun z => by rw [vp_cell_i]; rfl) (by decide) (by decide) (by decide) (Nat.le_of_ble_eq_true rfl) (Nat.le_of_ble_eq_true rfl) dX2_init_7 (fun qa1 H hP hD hS => ?_)
  have hP : va_P g.1 vwCl [(mm, .inr (2, [.int 0, .int 0, .int 0, .null, .null, .int 0, .null, .null, .null, .null, .int 0, .null, .int 0, .null, .null])), (qa1, .inl (g.2.1.1, 16, .inl (fun _ => 0)))] H := hP
  have hD : va_D A [(mm, .inr (2, [.int 0, .int 0, .int 0, .null, .null, .int 0, .null, .null, .null, .null, .int 0, .null, .int 0, .null, .null])), (qa1, .inl (g.2.1.1, 16, .inl (fun _ => 0)))] := hD
  refine va_putF (D := g.1) (ci := 2) (v := .ref qa1) (ty := .array .int) (C := RX2) (T := TX2) (N := 15) hx hb hts hinX2 tyX2 tyX2_ok nmX2 hown hK hP hD hS 0 rfl rfl 3 (by decide) (hts (.fieldLink RX2 9 "DefaultReasonerModel" "bodies" "[I") (by decide +kernel)) (fun _ h9 => h9) rfl hnm rfl (by decide +kernel) rfl rfl (Nat.le_of_ble_eq_true rfl) dX2_init_9 (fun H locs hP hD hS => ?_)
  have hP : va_P g.1 vwCl [(mm, .inr (2, [.int 0, .int 0, .int 0, .ref qa1, .null, .int 0, .null, .null, .null, .null, .int 0, .null, .int 0, .null, .null])), (qa1, .inl (g.2.1.1, 16, .inl (fun _ => 0)))] H := hP
  have hD : va_D A [(mm, .inr (2, [.int 0, .int 0, .int 0, .ref qa1, .null, .int 0, .null, .null, .null, .null, .int 0, .null, .int 0, .null, .null])), (qa1, .inl (g.2.1.1, 16, .inl (fun _ => 0)))] := hD
  refine lv_aload_n hx hb dX2_init_12 rfl (lv_at hl 0 rfl) ?_
  refine lv_bipush (v := 16) hx hb dX2_init_13 (by decide) ?_
  refine g_newa (a0 := (16, .inl (fun _ => 0))) (atype := .int) (ty := .int) (N' := 16) hx hb (hts (.arrayClass .int) (by decide +kernel)) rfl hK 0 rfl (fun _ h => h) hP hD hS hA (fun z => by rw [vp_cell_i]; rfl) (by decide) (by decide) (by decide) (Nat.le_of_ble_eq_true rfl) (Nat.le_of_ble_eq_true rfl) dX2_init_15 (fun qa2 H hP hD hS => ?_)
  have hP : va_P g.1 vwCl [(mm, .inr (2, [.int 0, .int 0, .int 0, .ref qa1, .null, .int 0, .null, .null, .null, .null, .int 0, .null, .int 0, .null, .null])), (qa1, .inl (g.2.1.1, 16, .inl (fun _ => 0))), (qa2, .inl (g.2.1.1, 16, .inl (fun _ => 0)))] H := hP
  have hD : va_D A [(mm, .inr (2, [.int 0, .int 0, .int 0, .ref qa1, .null, .int 0, .null, .null, .null, .null, .int 0, .null, .int 0, .null, .null])), (qa1, .inl (g.2.1.1, 16, .inl (fun _ => 0))), (qa2, .inl (g.2.1.1, 16, .inl (fun _ => 0)))] := hD
  refine va_putF (D := g.1) (ci := 2) (v := .ref qa2) (ty := .array .int) (C := RX2) (T := TX2) (N := 15) hx hb hts hinX2 tyX2 tyX2_ok nmX2 hown hK hP hD hS 0 rfl rfl 4 (by decide) (hts (.fieldLink RX2 13 "DefaultReasonerModel" "heads" "[I") (by decide +kernel)) (fun _ h9 => h9) rfl hnm rfl (by decide +kernel) rfl rfl (Nat.le_of_ble_eq_true rfl) dX2_init_17 (fun H locs hP hD hS => ?_)
  have hP : va_P g.1 vwCl [(mm, .inr (2, [.int 0, .int 0, .int 0, .ref qa1, .ref qa2, .int 0, .null, .null, .null, .null, .int 0, .null, .int 0, .null, .null])), (qa1, .inl (g.2.1.1, 16, .inl (fun _ => 0))), (qa2, .inl (g.2.1.1, 16, .inl (fun _ => 0)))] H := hP
  have hD : va_D A [(mm, .inr (2, [.int 0, .int 0, .int 0, .ref qa1, .ref qa2, .int 0, .null, .null, .null, .null, .int 0, .null, .int 0, .null, .null])), (qa1, .inl (g.2.1.1, 16, .inl (fun _ => 0))), (qa2, .inl (g.2.1.1, 16, .inl (fun _ => 0)))] := hD
  refine lv_aload_n hx hb dX2_init_20 rfl (lv_at hl 0 rfl) ?_
  refine lv_bipush (v := 6) hx hb dX2_init_21 (by decide) ?_
  refine g_newa (a0 := (6, .inl (fun _ => 0))) (atype := .int) (ty := .int) (N' := 6) hx hb (hts (.arrayClass .int) (by decide +kernel)) rfl hK 0 rfl (fun _ h => h) hP hD hS hA (fun z => by rw [vp_cell_i]; rfl) (by decide) (by decide) (by decide) (Nat.le_of_ble_eq_true rfl) (Nat.le_of_ble_eq_true rfl) dX2_init_23 (fun qa3 H hP hD hS => ?_)
  have hP : va_P g.1 vwCl [(mm, .inr (2, [.int 0, .int 0, .int 0, .ref qa1, .ref qa2, .int 0, .null, .null, .null, .null, .int 0, .null, .int 0, .null, .null])), (qa1, .inl (g.2.1.1, 16, .inl (fun _ => 0))), (qa2, .inl (g.2.1.1, 16, .inl (fun _ => 0))), (qa3, .inl (g.2.1.1, 6, .inl (fun _ => 0)))] H := hP
  have hD : va_D A [(mm, .inr (2, [.int 0, .int 0, .int 0, .ref qa1, .ref qa2, .int 0, .null, .null, .null, .null, .int 0, .null, .int 0, .null, .null])), (qa1, .inl (g.2.1.1, 16, .inl (fun _ => 0))), (qa2, .inl (g.2.1.1, 16, .inl (fun _ => 0))), (qa3, .inl (g.2.1.1, 6, .inl (fun _ => 0)))] := hD
  refine va_putF (D := g.1) (ci := 2) (v := .ref qa3) (ty := .array .int) (C := RX2) (T := TX2) (N := 15) hx hb hts hinX2 tyX2 tyX2_ok nmX2 hown hK hP hD hS 0 rfl rfl 6 (by decide) (hts (.fieldLink RX2 16 "DefaultReasonerModel" "needs" "[I") (by decide +kernel)) (fun _ h9 => h9) rfl hnm rfl (by decide +kernel) rfl rfl (Nat.le_of_ble_eq_true rfl) dX2_init_25 (fun H locs hP hD hS => ?_)
  have hP : va_P g.1 vwCl [(mm, .inr (2, [.int 0, .int 0, .int 0, .ref qa1, .ref qa2, .int 0, .ref qa3, .null, .null, .null, .int 0, .null, .int 0, .null, .null])), (qa1, .inl (g.2.1.1, 16, .inl (fun _ => 0))), (qa2, .inl (g.2.1.1, 16, .inl (fun _ => 0))), (qa3, .inl (g.2.1.1, 6, .inl (fun _ => 0)))] H := hP
  have hD : va_D A [(mm, .inr (2, [.int 0, .int 0, .int 0, .ref qa1, .ref qa2, .int 0, .ref qa3, .null, .null, .null, .int 0, .null, .int 0, .null, .null])), (qa1, .inl (g.2.1.1, 16, .inl (fun _ => 0))), (qa2, .inl (g.2.1.1, 16, .inl (fun _ => 0))), (qa3, .inl (g.2.1.1, 6, .inl (fun _ => 0)))] := hD
  refine lv_aload_n hx hb dX2_init_28 rfl (lv_at hl 0 rfl) ?_
  refine lv_bipush (v := 6) hx hb dX2_init_29 (by decide) ?_
  refine g_newa (a0 := (6, .inl (fun _ => 0))) (atype := .int) (ty := .int) (N' := 6) hx hb (hts (.arrayClass .int) (by decide +kernel)) rfl hK 0 rfl (fun _ h => h) hP hD hS hA (fun z => by rw [vp_cell_i]; rfl) (by decide) (by decide) (by decide) (Nat.le_of_ble_eq_true rfl) (Nat.le_of_ble_eq_true rfl) dX2_init_31 (fun qa4 H hP hD hS => ?_)
  have hP : va_P g.1 vwCl [(mm, .inr (2, [.int 0, .int 0, .int 0, .ref qa1, .ref qa2, .int 0, .ref qa3, .null, .null, .null, .int 0, .null, .int 0, .null, .null])), (qa1, .inl (g.2.1.1, 16, .inl (fun _ => 0))), (qa2, .inl (g.2.1.1, 16, .inl (fun _ => 0))), (qa3, .inl (g.2.1.1, 6, .inl (fun _ => 0))), (qa4, .inl (g.2.1.1, 6, .inl (fun _ => 0)))] H := hP
  have hD : va_D A [(mm, .inr (2, [.int 0, .int 0, .int 0, .ref qa1, .ref qa2, .int 0, .ref qa3, .null, .null, .null, .int 0, .null, .int 0, .null, .null])), (qa1, .inl (g.2.1.1, 16, .inl (fun _ => 0))), (qa2, .inl (g.2.1.1, 16, .inl (fun _ => 0))), (qa3, .inl (g.2.1.1, 6, .inl (fun _ => 0))), (qa4, .inl (g.2.1.1, 6, .inl (fun _ => 0)))] := hD
  refine va_putF (D := g.1) (ci := 2) (v := .ref qa4) (ty := .array .int) (C := RX2) (T := TX2) (N := 15) hx hb hts hinX2 tyX2 tyX2_ok nmX2 hown hK hP hD hS 0 rfl rfl 7 (by decide) (hts (.fieldLink RX2 19 "DefaultReasonerModel" "justifications" "[I") (by decide +kernel)) (fun _ h9 => h9) rfl hnm rfl (by decide +kernel) rfl rfl (Nat.le_of_ble_eq_true rfl) dX2_init_33 (fun H locs hP hD hS => ?_)
  have hP : va_P g.1 vwCl [(mm, .inr (2, [.int 0, .int 0, .int 0, .ref qa1, .ref qa2, .int 0, .ref qa3, .ref qa4, .null, .null, .int 0, .null, .int 0, .null, .null])), (qa1, .inl (g.2.1.1, 16, .inl (fun _ => 0))), (qa2, .inl (g.2.1.1, 16, .inl (fun _ => 0))), (qa3, .inl (g.2.1.1, 6, .inl (fun _ => 0))), (qa4, .inl (g.2.1.1, 6, .inl (fun _ => 0)))] H := hP
  have hD : va_D A [(mm, .inr (2, [.int 0, .int 0, .int 0, .ref qa1, .ref qa2, .int 0, .ref qa3, .ref qa4, .null, .null, .int 0, .null, .int 0, .null, .null])), (qa1, .inl (g.2.1.1, 16, .inl (fun _ => 0))), (qa2, .inl (g.2.1.1, 16, .inl (fun _ => 0))), (qa3, .inl (g.2.1.1, 6, .inl (fun _ => 0))), (qa4, .inl (g.2.1.1, 6, .inl (fun _ => 0)))] := hD
  refine lv_aload_n hx hb dX2_init_36 rfl (lv_at hl 0 rfl) ?_
  refine lv_bipush (v := 6) hx hb dX2_init_37 (by decide) ?_
  refine g_newa (a0 := (6, .inl (fun _ => 0))) (atype := .int) (ty := .int) (N' := 6) hx hb (hts (.arrayClass .int) (by decide +kernel)) rfl hK 0 rfl (fun _ h => h) hP hD hS hA (fun z => by rw [vp_cell_i]; rfl) (by decide) (by decide) (by decide) (Nat.le_of_ble_eq_true rfl) (Nat.le_of_ble_eq_true rfl) dX2_init_39 (fun qa5 H hP hD hS => ?_)
  have hP : va_P g.1 vwCl [(mm, .inr (2, [.int 0, .int 0, .int 0, .ref qa1, .ref qa2, .int 0, .ref qa3, .ref qa4, .null, .null, .int 0, .null, .int 0, .null, .null])), (qa1, .inl (g.2.1.1, 16, .inl (fun _ => 0))), (qa2, .inl (g.2.1.1, 16, .inl (fun _ => 0))), (qa3, .inl (g.2.1.1, 6, .inl (fun _ => 0))), (qa4, .inl (g.2.1.1, 6, .inl (fun _ => 0))), (qa5, .inl (g.2.1.1, 6, .inl (fun _ => 0)))] H := hP
  have hD : va_D A [(mm, .inr (2, [.int 0, .int 0, .int 0, .ref qa1, .ref qa2, .int 0, .ref qa3, .ref qa4, .null, .null, .int 0, .null, .int 0, .null, .null])), (qa1, .inl (g.2.1.1, 16, .inl (fun _ => 0))), (qa2, .inl (g.2.1.1, 16, .inl (fun _ => 0))), (qa3, .inl (g.2.1.1, 6, .inl (fun _ => 0))), (qa4, .inl (g.2.1.1, 6, .inl (fun _ => 0))), (qa5, .inl (g.2.1.1, 6, .inl (fun _ => 0)))] := hD
  refine va_putF (D := g.1) (ci := 2) (v := .ref qa5) (ty := .array .int) (C := RX2) (T := TX2) (N := 15) hx hb hts hinX2 tyX2 tyX2_ok nmX2 hown hK hP hD hS 0 rfl rfl 8 (by decide) (hts (.fieldLink RX2 22 "DefaultReasonerModel" "conclusions" "[I") (by decide +kernel)) (fun _ h9 => h9) rfl hnm rfl (by decide +kernel) rfl rfl (Nat.le_of_ble_eq_true rfl) dX2_init_41 (fun H locs hP hD hS => ?_)
  have hP : va_P g.1 vwCl [(mm, .inr (2, [.int 0, .int 0, .int 0, .ref qa1, .ref qa2, .int 0, .ref qa3, .ref qa4, .ref qa5, .null, .int 0, .null, .int 0, .null, .null])), (qa1, .inl (g.2.1.1, 16, .inl (fun _ => 0))), (qa2, .inl (g.2.1.1, 16, .inl (fun _ => 0))), (qa3, .inl (g.2.1.1, 6, .inl (fun _ => 0))), (qa4, .inl (g.2.1.1, 6, .inl (fun _ => 0))), (qa5, .inl (g.2.1.1, 6, .inl (fun _ => 0)))] H := hP
  have hD : va_D A [(mm, .inr (2, [.int 0, .int 0, .int 0, .ref qa1, .ref qa2, .int 0, .ref qa3, .ref qa4, .ref qa5, .null, .int 0, .null, .int 0, .null, .null])), (qa1, .inl (g.2.1.1, 16, .inl (fun _ => 0))), (qa2, .inl (g.2.1.1, 16, .inl (fun _ => 0))), (qa3, .inl (g.2.1.1, 6, .inl (fun _ => 0))), (qa4, .inl (g.2.1.1, 6, .inl (fun _ => 0))), (qa5, .inl (g.2.1.1, 6, .inl (fun _ => 0)))] := hD
  refine lv_aload_n hx hb dX2_init_44 rfl (lv_at hl 0 rfl) ?_
  refine lv_bipush (v := 36) hx hb dX2_init_45 (by decide) ?_
  refine g_newa (a0 := (36, .inl (fun _ => 0))) (atype := .boolean) (ty := .boolean) (N' := 36) hx hb (hts (.arrayClass .boolean) (by decide +kernel)) rfl hK 1 rfl (fun _ h => h) hP hD hS hA (fun z => by rw [vp_cell_i]; rfl) (by decide) (by decide) (by decide) (Nat.le_of_ble_eq_true rfl) (Nat.le_of_ble_eq_true rfl) dX2_init_47 (fun qa6 H hP hD hS => ?_)
  have hP : va_P g.1 vwCl [(mm, .inr (2, [.int 0, .int 0, .int 0, .ref qa1, .ref qa2, .int 0, .ref qa3, .ref qa4, .ref qa5, .null, .int 0, .null, .int 0, .null, .null])), (qa1, .inl (g.2.1.1, 16, .inl (fun _ => 0))), (qa2, .inl (g.2.1.1, 16, .inl (fun _ => 0))), (qa3, .inl (g.2.1.1, 6, .inl (fun _ => 0))), (qa4, .inl (g.2.1.1, 6, .inl (fun _ => 0))), (qa5, .inl (g.2.1.1, 6, .inl (fun _ => 0))), (qa6, .inl (g.2.1.2.1, 36, .inl (fun _ => 0)))] H := hP
  have hD : va_D A [(mm, .inr (2, [.int 0, .int 0, .int 0, .ref qa1, .ref qa2, .int 0, .ref qa3, .ref qa4, .ref qa5, .null, .int 0, .null, .int 0, .null, .null])), (qa1, .inl (g.2.1.1, 16, .inl (fun _ => 0))), (qa2, .inl (g.2.1.1, 16, .inl (fun _ => 0))), (qa3, .inl (g.2.1.1, 6, .inl (fun _ => 0))), (qa4, .inl (g.2.1.1, 6, .inl (fun _ => 0))), (qa5, .inl (g.2.1.1, 6, .inl (fun _ => 0))), (qa6, .inl (g.2.1.2.1, 36, .inl (fun _ => 0)))] := hD
  refine va_putF (D := g.1) (ci := 2) (v := .ref qa6) (ty := .array .boolean) (C := RX2) (T := TX2) (N := 15) hx hb hts hinX2 tyX2 tyX2_ok nmX2 hown hK hP hD hS 0 rfl rfl 9 (by decide) (hts (.fieldLink RX2 25 "DefaultReasonerModel" "told" "[Z") (by decide +kernel)) (fun _ h9 => h9) rfl hnm rfl (by decide +kernel) rfl rfl (Nat.le_of_ble_eq_true rfl) dX2_init_49 (fun H locs hP hD hS => ?_)
  have hP : va_P g.1 vwCl [(mm, .inr (2, [.int 0, .int 0, .int 0, .ref qa1, .ref qa2, .int 0, .ref qa3, .ref qa4, .ref qa5, .ref qa6, .int 0, .null, .int 0, .null, .null])), (qa1, .inl (g.2.1.1, 16, .inl (fun _ => 0))), (qa2, .inl (g.2.1.1, 16, .inl (fun _ => 0))), (qa3, .inl (g.2.1.1, 6, .inl (fun _ => 0))), (qa4, .inl (g.2.1.1, 6, .inl (fun _ => 0))), (qa5, .inl (g.2.1.1, 6, .inl (fun _ => 0))), (qa6, .inl (g.2.1.2.1, 36, .inl (fun _ => 0)))] H := hP
  have hD : va_D A [(mm, .inr (2, [.int 0, .int 0, .int 0, .ref qa1, .ref qa2, .int 0, .ref qa3, .ref qa4, .ref qa5, .ref qa6, .int 0, .null, .int 0, .null, .null])), (qa1, .inl (g.2.1.1, 16, .inl (fun _ => 0))), (qa2, .inl (g.2.1.1, 16, .inl (fun _ => 0))), (qa3, .inl (g.2.1.1, 6, .inl (fun _ => 0))), (qa4, .inl (g.2.1.1, 6, .inl (fun _ => 0))), (qa5, .inl (g.2.1.1, 6, .inl (fun _ => 0))), (qa6, .inl (g.2.1.2.1, 36, .inl (fun _ => 0)))] := hD
  refine lv_aload_n hx hb dX2_init_52 rfl (lv_at hl 0 rfl) ?_
  refine lv_bipush (v := 6) hx hb dX2_init_53 (by decide) ?_
  refine g_newa (a0 := (6, .inl (fun _ => 0))) (atype := .int) (ty := .int) (N' := 6) hx hb (hts (.arrayClass .int) (by decide +kernel)) rfl hK 0 rfl (fun _ h => h) hP hD hS hA (fun z => by rw [vp_cell_i]; rfl) (by decide) (by decide) (by decide) (Nat.le_of_ble_eq_true rfl) (Nat.le_of_ble_eq_true rfl) dX2_init_55 (fun qa7 H hP hD hS => ?_)
  have hP : va_P g.1 vwCl [(mm, .inr (2, [.int 0, .int 0, .int 0, .ref qa1, .ref qa2, .int 0, .ref qa3, .ref qa4, .ref qa5, .ref qa6, .int 0, .null, .int 0, .null, .null])), (qa1, .inl (g.2.1.1, 16, .inl (fun _ => 0))), (qa2, .inl (g.2.1.1, 16, .inl (fun _ => 0))), (qa3, .inl (g.2.1.1, 6, .inl (fun _ => 0))), (qa4, .inl (g.2.1.1, 6, .inl (fun _ => 0))), (qa5, .inl (g.2.1.1, 6, .inl (fun _ => 0))), (qa6, .inl (g.2.1.2.1, 36, .inl (fun _ => 0))), (qa7, .inl (g.2.1.1, 6, .inl (fun _ => 0)))] H := hP
  have hD : va_D A [(mm, .inr (2, [.int 0, .int 0, .int 0, .ref qa1, .ref qa2, .int 0, .ref qa3, .ref qa4, .ref qa5, .ref qa6, .int 0, .null, .int 0, .null, .null])), (qa1, .inl (g.2.1.1, 16, .inl (fun _ => 0))), (qa2, .inl (g.2.1.1, 16, .inl (fun _ => 0))), (qa3, .inl (g.2.1.1, 6, .inl (fun _ => 0))), (qa4, .inl (g.2.1.1, 6, .inl (fun _ => 0))), (qa5, .inl (g.2.1.1, 6, .inl (fun _ => 0))), (qa6, .inl (g.2.1.2.1, 36, .inl (fun _ => 0))), (qa7, .inl (g.2.1.1, 6, .inl (fun _ => 0)))] := hD
  refine va_putF (D := g.1) (ci := 2) (v := .ref qa7) (ty := .array .int) (C := RX2) (T := TX2) (N := 15) hx hb hts hinX2 tyX2 tyX2_ok nmX2 hown hK hP hD hS 0 rfl rfl 11 (by decide) (hts (.fieldLink RX2 29 "DefaultReasonerModel" "path" "[I") (by decide +kernel)) (fun _ h9 => h9) rfl hnm rfl (by decide +kernel) rfl rfl (Nat.le_of_ble_eq_true rfl) dX2_init_57 (fun H locs hP hD hS => ?_)
  have hP : va_P g.1 vwCl [(mm, .inr (2, [.int 0, .int 0, .int 0, .ref qa1, .ref qa2, .int 0, .ref qa3, .ref qa4, .ref qa5, .ref qa6, .int 0, .ref qa7, .int 0, .null, .null])), (qa1, .inl (g.2.1.1, 16, .inl (fun _ => 0))), (qa2, .inl (g.2.1.1, 16, .inl (fun _ => 0))), (qa3, .inl (g.2.1.1, 6, .inl (fun _ => 0))), (qa4, .inl (g.2.1.1, 6, .inl (fun _ => 0))), (qa5, .inl (g.2.1.1, 6, .inl (fun _ => 0))), (qa6, .inl (g.2.1.2.1, 36, .inl (fun _ => 0))), (qa7, .inl (g.2.1.1, 6, .inl (fun _ => 0)))] H := hP
  have hD : va_D A [(mm, .inr (2, [.int 0, .int 0, .int 0, .ref qa1, .ref qa2, .int 0, .ref qa3, .ref qa4, .ref qa5, .ref qa6, .int 0, .ref qa7, .int 0, .null, .null])), (qa1, .inl (g.2.1.1, 16, .inl (fun _ => 0))), (qa2, .inl (g.2.1.1, 16, .inl (fun _ => 0))), (qa3, .inl (g.2.1.1, 6, .inl (fun _ => 0))), (qa4, .inl (g.2.1.1, 6, .inl (fun _ => 0))), (qa5, .inl (g.2.1.1, 6, .inl (fun _ => 0))), (qa6, .inl (g.2.1.2.1, 36, .inl (fun _ => 0))), (qa7, .inl (g.2.1.1, 6, .inl (fun _ => 0)))] := hD
  refine lv_aload_n hx hb dX2_init_60 rfl (lv_at hl 0 rfl) ?_
  refine lv_bipush (v := 64) hx hb dX2_init_61 (by decide) ?_
  refine g_newa (a0 := (64, .inl (fun _ => 0))) (atype := .int) (ty := .int) (N' := 64) hx hb (hts (.arrayClass .int) (by decide +kernel)) rfl hK 0 rfl (fun _ h => h) hP hD hS hA (fun z => by rw [vp_cell_i]; rfl) (by decide) (by decide) (by decide) (Nat.le_of_ble_eq_true rfl) (Nat.le_of_ble_eq_true rfl) dX2_init_63 (fun qa8 H hP hD hS => ?_)
  have hP : va_P g.1 vwCl [(mm, .inr (2, [.int 0, .int 0, .int 0, .ref qa1, .ref qa2, .int 0, .ref qa3, .ref qa4, .ref qa5, .ref qa6, .int 0, .ref qa7, .int 0, .null, .null])), (qa1, .inl (g.2.1.1, 16, .inl (fun _ => 0))), (qa2, .inl (g.2.1.1, 16, .inl (fun _ => 0))), (qa3, .inl (g.2.1.1, 6, .inl (fun _ => 0))), (qa4, .inl (g.2.1.1, 6, .inl (fun _ => 0))), (qa5, .inl (g.2.1.1, 6, .inl (fun _ => 0))), (qa6, .inl (g.2.1.2.1, 36, .inl (fun _ => 0))), (qa7, .inl (g.2.1.1, 6, .inl (fun _ => 0))), (qa8, .inl (g.2.1.1, 64, .inl (fun _ => 0)))] H := hP
  have hD : va_D A [(mm, .inr (2, [.int 0, .int 0, .int 0, .ref qa1, .ref qa2, .int 0, .ref qa3, .ref qa4, .ref qa5, .ref qa6, .int 0, .ref qa7, .int 0, .null, .null])), (qa1, .inl (g.2.1.1, 16, .inl (fun _ => 0))), (qa2, .inl (g.2.1.1, 16, .inl (fun _ => 0))), (qa3, .inl (g.2.1.1, 6, .inl (fun _ => 0))), (qa4, .inl (g.2.1.1, 6, .inl (fun _ => 0))), (qa5, .inl (g.2.1.1, 6, .inl (fun _ => 0))), (qa6, .inl (g.2.1.2.1, 36, .inl (fun _ => 0))), (qa7, .inl (g.2.1.1, 6, .inl (fun _ => 0))), (qa8, .inl (g.2.1.1, 64, .inl (fun _ => 0)))] := hD
  refine va_putF (D := g.1) (ci := 2) (v := .ref qa8) (ty := .array .int) (C := RX2) (T := TX2) (N := 15) hx hb hts hinX2 tyX2 tyX2_ok nmX2 hown hK hP hD hS 0 rfl rfl 13 (by decide) (hts (.fieldLink RX2 32 "DefaultReasonerModel" "all" "[I") (by decide +kernel)) (fun _ h9 => h9) rfl hnm rfl (by decide +kernel) rfl rfl (Nat.le_of_ble_eq_true rfl) dX2_init_65 (fun H locs hP hD hS => ?_)
  have hP : va_P g.1 vwCl [(mm, .inr (2, [.int 0, .int 0, .int 0, .ref qa1, .ref qa2, .int 0, .ref qa3, .ref qa4, .ref qa5, .ref qa6, .int 0, .ref qa7, .int 0, .ref qa8, .null])), (qa1, .inl (g.2.1.1, 16, .inl (fun _ => 0))), (qa2, .inl (g.2.1.1, 16, .inl (fun _ => 0))), (qa3, .inl (g.2.1.1, 6, .inl (fun _ => 0))), (qa4, .inl (g.2.1.1, 6, .inl (fun _ => 0))), (qa5, .inl (g.2.1.1, 6, .inl (fun _ => 0))), (qa6, .inl (g.2.1.2.1, 36, .inl (fun _ => 0))), (qa7, .inl (g.2.1.1, 6, .inl (fun _ => 0))), (qa8, .inl (g.2.1.1, 64, .inl (fun _ => 0)))] H := hP
  have hD : va_D A [(mm, .inr (2, [.int 0, .int 0, .int 0, .ref qa1, .ref qa2, .int 0, .ref qa3, .ref qa4, .ref qa5, .ref qa6, .int 0, .ref qa7, .int 0, .ref qa8, .null])), (qa1, .inl (g.2.1.1, 16, .inl (fun _ => 0))), (qa2, .inl (g.2.1.1, 16, .inl (fun _ => 0))), (qa3, .inl (g.2.1.1, 6, .inl (fun _ => 0))), (qa4, .inl (g.2.1.1, 6, .inl (fun _ => 0))), (qa5, .inl (g.2.1.1, 6, .inl (fun _ => 0))), (qa6, .inl (g.2.1.2.1, 36, .inl (fun _ => 0))), (qa7, .inl (g.2.1.1, 6, .inl (fun _ => 0))), (qa8, .inl (g.2.1.1, 64, .inl (fun _ => 0)))] := hD
  refine lv_aload_n hx hb dX2_init_68 rfl (lv_at hl 0 rfl) ?_
  refine lv_bipush (v := 64) hx hb dX2_init_69 (by decide) ?_
  refine g_newa (a0 := (64, .inl (fun _ => 0))) (atype := .boolean) (ty := .boolean) (N' := 64) hx hb (hts (.arrayClass .boolean) (by decide +kernel)) rfl hK 1 rfl (fun _ h => h) hP hD hS hA (fun z => by rw [vp_cell_i]; rfl) (by decide) (by decide) (by decide) (Nat.le_of_ble_eq_true rfl) (Nat.le_of_ble_eq_true rfl) dX2_init_71 (fun qa9 H hP hD hS => ?_)
  have hP : va_P g.1 vwCl [(mm, .inr (2, [.int 0, .int 0, .int 0, .ref qa1, .ref qa2, .int 0, .ref qa3, .ref qa4, .ref qa5, .ref qa6, .int 0, .ref qa7, .int 0, .ref qa8, .null])), (qa1, .inl (g.2.1.1, 16, .inl (fun _ => 0))), (qa2, .inl (g.2.1.1, 16, .inl (fun _ => 0))), (qa3, .inl (g.2.1.1, 6, .inl (fun _ => 0))), (qa4, .inl (g.2.1.1, 6, .inl (fun _ => 0))), (qa5, .inl (g.2.1.1, 6, .inl (fun _ => 0))), (qa6, .inl (g.2.1.2.1, 36, .inl (fun _ => 0))), (qa7, .inl (g.2.1.1, 6, .inl (fun _ => 0))), (qa8, .inl (g.2.1.1, 64, .inl (fun _ => 0))), (qa9, .inl (g.2.1.2.1, 64, .inl (fun _ => 0)))] H := hP
  have hD : va_D A [(mm, .inr (2, [.int 0, .int 0, .int 0, .ref qa1, .ref qa2, .int 0, .ref qa3, .ref qa4, .ref qa5, .ref qa6, .int 0, .ref qa7, .int 0, .ref qa8, .null])), (qa1, .inl (g.2.1.1, 16, .inl (fun _ => 0))), (qa2, .inl (g.2.1.1, 16, .inl (fun _ => 0))), (qa3, .inl (g.2.1.1, 6, .inl (fun _ => 0))), (qa4, .inl (g.2.1.1, 6, .inl (fun _ => 0))), (qa5, .inl (g.2.1.1, 6, .inl (fun _ => 0))), (qa6, .inl (g.2.1.2.1, 36, .inl (fun _ => 0))), (qa7, .inl (g.2.1.1, 6, .inl (fun _ => 0))), (qa8, .inl (g.2.1.1, 64, .inl (fun _ => 0))), (qa9, .inl (g.2.1.2.1, 64, .inl (fun _ => 0)))] := hD
  refine va_putF (D := g.1) (ci := 2) (v := .ref qa9) (ty := .array .boolean) (C := RX2) (T := TX2) (N := 15) hx hb hts hinX2 tyX2 tyX2_ok nmX2 hown hK hP hD hS 0 rfl rfl 14 (by decide) (hts (.fieldLink RX2 35 "DefaultReasonerModel" "arePreferred" "[Z") (by decide +kernel)) (fun _ h9 => h9) rfl hnm rfl (by decide +kernel) rfl rfl (Nat.le_of_ble_eq_true rfl) dX2_init_73 (fun H locs hP hD hS => ?_)
  have hP : va_P g.1 vwCl [(mm, .inr (2, [.int 0, .int 0, .int 0, .ref qa1, .ref qa2, .int 0, .ref qa3, .ref qa4, .ref qa5, .ref qa6, .int 0, .ref qa7, .int 0, .ref qa8, .ref qa9])), (qa1, .inl (g.2.1.1, 16, .inl (fun _ => 0))), (qa2, .inl (g.2.1.1, 16, .inl (fun _ => 0))), (qa3, .inl (g.2.1.1, 6, .inl (fun _ => 0))), (qa4, .inl (g.2.1.1, 6, .inl (fun _ => 0))), (qa5, .inl (g.2.1.1, 6, .inl (fun _ => 0))), (qa6, .inl (g.2.1.2.1, 36, .inl (fun _ => 0))), (qa7, .inl (g.2.1.1, 6, .inl (fun _ => 0))), (qa8, .inl (g.2.1.1, 64, .inl (fun _ => 0))), (qa9, .inl (g.2.1.2.1, 64, .inl (fun _ => 0)))] H := hP
  have hD : va_D A [(mm, .inr (2, [.int 0, .int 0, .int 0, .ref qa1, .ref qa2, .int 0, .ref qa3, .ref qa4, .ref qa5, .ref qa6, .int 0, .ref qa7, .int 0, .ref qa8, .ref qa9])), (qa1, .inl (g.2.1.1, 16, .inl (fun _ => 0))), (qa2, .inl (g.2.1.1, 16, .inl (fun _ => 0))), (qa3, .inl (g.2.1.1, 6, .inl (fun _ => 0))), (qa4, .inl (g.2.1.1, 6, .inl (fun _ => 0))), (qa5, .inl (g.2.1.1, 6, .inl (fun _ => 0))), (qa6, .inl (g.2.1.2.1, 36, .inl (fun _ => 0))), (qa7, .inl (g.2.1.1, 6, .inl (fun _ => 0))), (qa8, .inl (g.2.1.1, 64, .inl (fun _ => 0))), (qa9, .inl (g.2.1.2.1, 64, .inl (fun _ => 0)))] := hD
  exact g_vr hx hb hr hlocks hP hD hS (fun k => match k with | 3 => qa1 | 4 => qa2 | 6 => qa3 | 7 => qa4 | 8 => qa5 | 9 => qa6 | 11 => qa7 | 13 => qa8 | 14 => qa9 | _ => 0) [0, 1, 2, 3, 4, 5, 6, 7, 8, 9] rfl (by decide) rfl dX2_init_76 (Nat.le_of_ble_eq_true rfl) (Nat.le_of_ble_eq_true rfl) (trivial)
