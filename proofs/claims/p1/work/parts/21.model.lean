set_option maxHeartbeats 4000000 in
set_option maxRecDepth 100000 in
theorem c_X2_thrown (l : Launch) (g : gG) (sz : Nat) (mm : Nat) (t : Int32) (fs : List Value) : gMi l yX2_thrown wsX2_thrown ({ frames := 0, cells := 0, slots := 0, locals := 0 } : Room) g [.ref mm] [(mm, .inr (2, .int t :: fs))] sz (fun (r : Int32) (u : Unit) => r = t) (fun (u : Unit) => [(mm, .inr (2, .int t :: fs))]) 0 0 := by
  refine g_of (l := l) (y := yX2_thrown) (wy := wsX2_thrown) (rm := ({ frames := 0, cells := 0, slots := 0, locals := 0 } : Room)) (g := g) (av := [.ref mm]) (ws := [(mm, .inr (2, .int t :: fs))]) (sz := sz) (mc := 0) (ms := 0) (Qc := fun A => va_Qi (fun (r : Int32) (u : Unit) => r = t) (fun u t9 => gPost g A ((fun (u : Unit) => [(mm, .inr (2, .int t :: fs))]) u) t9) A) (cc := cX2_thrown) (maxL := 1) (ret := some .int) (by decide) rfl (Nat.le_of_ble_eq_true rfl) ?_
  intro p e s m below meth c A ls hx hb hr hml hown hts hlocks hnm hA hK hE hP hD hS hl
  have hl : lv_has ls 1 [(0, .ref mm)] := hl
  have hown : s.vm.findClass RX2 = some m.cls := hown
  have hP : va_P g.1 vwCl [(mm, .inr (2, .int t :: fs))] s.heap := hP
  have hinX2 : ∀ w ∈ u_ws RX2 TX2 15, w ∈ wsX2_thrown := by decide +kernel
  refine lv_aload_n hx hb dX2_thrown_0 rfl (lv_at hl 0 rfl) ?_
  refine va_get (D := g.1) (ci := 2) (v := .int t) (C := RX2) (T := TX2) (N := 15) hx hb hts hinX2 hown hK hP 0 rfl rfl 0 (by decide) (hts (.fieldLink RX2 38 "DefaultReasonerModel" "thrown" "I") (by decide +kernel)) (fun _ h9 => h9) rfl dX2_thrown_1 ?_
  exact g_ir hx hb hr hlocks hP hD hS () [0] rfl (by decide) rfl dX2_thrown_4 (Nat.le_of_ble_eq_true rfl) (Nat.le_of_ble_eq_true rfl) (rfl)
set_option maxHeartbeats 4000000 in
set_option maxRecDepth 100000 in
theorem c_X2_isLiteral (l : Launch) (g : gG) (sz : Nat) (x : Int32) : gMi l yX2_isLiteral wsX2_isLiteral ({ frames := 0, cells := 0, slots := 0, locals := 0 } : Room) g [.int x] [] sz (fun (r : Int32) (u : Unit) => r = 1 ∧ gLit x ∨ r = 0 ∧ ¬ gLit x) (fun (u : Unit) => []) 0 0 := by
  refine g_of (l := l) (y := yX2_isLiteral) (wy := wsX2_isLiteral) (rm := ({ frames := 0, cells := 0, slots := 0, locals := 0 } : Room)) (g := g) (av := [.int x]) (ws := []) (sz := sz) (mc := 0) (ms := 0) (Qc := fun A => va_Qi (fun (r : Int32) (u : Unit) => r = 1 ∧ gLit x ∨ r = 0 ∧ ¬ gLit x) (fun u t9 => gPost g A ((fun (u : Unit) => []) u) t9) A) (cc := cX2_isLiteral) (maxL := 1) (ret := some .boolean) (by decide) rfl (Nat.le_of_ble_eq_true rfl) ?_
  intro p e s m below meth c A ls hx hb hr hml hown hts hlocks hnm hA hK hE hP hD hS hl
  have hl : lv_has ls 1 [(0, .int x)] := hl
  have hown : s.vm.findClass RX2 = some m.cls := hown
  have hP : va_P g.1 vwCl [] s.heap := hP
  refine lv_iload_n hx hb dX2_isLiteral_0 rfl (lv_at hl 0 rfl) ?_
  refine lv_if_lt (tgt := 14) hx hb dX2_isLiteral_1 (by decide) (fun c1 => ?_) (fun c1 => ?_)
  · refine lv_iconst (v := 0) hx hb dX2_isLiteral_14 (by decide) ?_
    exact g_zr hx hb hr hlocks hP hD hS () [] rfl (by decide) rfl dX2_isLiteral_15 (Nat.le_of_ble_eq_true rfl) (Nat.le_of_ble_eq_true rfl) (Or.inl rfl) (Or.inr ⟨rfl, fun h => h.1 c1⟩)
  · refine lv_iload_n hx hb dX2_isLiteral_4 rfl (lv_at hl 0 rfl) ?_
    refine lv_bipush (v := 16) hx hb dX2_isLiteral_5 (by decide) ?_
    refine lv_icmp_ge (tgt := 14) hx hb dX2_isLiteral_7 (by decide) (fun c7 => ?_) (fun c7 => ?_)
    · refine lv_iconst (v := 0) hx hb dX2_isLiteral_14 (by decide) ?_
      exact g_zr hx hb hr hlocks hP hD hS () [] rfl (by decide) rfl dX2_isLiteral_15 (Nat.le_of_ble_eq_true rfl) (Nat.le_of_ble_eq_true rfl) (Or.inl rfl) (Or.inr ⟨rfl, fun h => Int32.not_le.mpr h.2 c7⟩)
    · refine lv_iconst (v := 1) hx hb dX2_isLiteral_10 (by decide) ?_
      refine lv_goto (tgt := 15) hx hb dX2_isLiteral_11 (by decide) ?_
      exact g_zr hx hb hr hlocks hP hD hS () [] rfl (by decide) rfl dX2_isLiteral_15 (Nat.le_of_ble_eq_true rfl) (Nat.le_of_ble_eq_true rfl) (Or.inr rfl) (Or.inl ⟨rfl, c1, Int32.not_le.mp c7⟩)
set_option maxHeartbeats 4000000 in
set_option maxRecDepth 100000 in
theorem c_X2_isSet (l : Launch) (g : gG) (sz : Nat) (x : Int32) : gMi l yX2_isSet wsX2_isSet ({ frames := 0, cells := 0, slots := 0, locals := 0 } : Room) g [.int x] [] sz (fun (r : Int32) (u : Unit) => r = 1 ∧ gSet x ∨ r = 0 ∧ ¬ gSet x) (fun (u : Unit) => []) 0 0 := by
  refine g_of (l := l) (y := yX2_isSet) (wy := wsX2_isSet) (rm := ({ frames := 0, cells := 0, slots := 0, locals := 0 } : Room)) (g := g) (av := [.int x]) (ws := []) (sz := sz) (mc := 0) (ms := 0) (Qc := fun A => va_Qi (fun (r : Int32) (u : Unit) => r = 1 ∧ gSet x ∨ r = 0 ∧ ¬ gSet x) (fun u t9 => gPost g A ((fun (u : Unit) => []) u) t9) A) (cc := cX2_isSet) (maxL := 1) (ret := some .boolean) (by decide) rfl (Nat.le_of_ble_eq_true rfl) ?_
  intro p e s m below meth c A ls hx hb hr hml hown hts hlocks hnm hA hK hE hP hD hS hl
  have hl : lv_has ls 1 [(0, .int x)] := hl
  have hown : s.vm.findClass RX2 = some m.cls := hown
  have hP : va_P g.1 vwCl [] s.heap := hP
  refine lv_iload_n hx hb dX2_isSet_0 rfl (lv_at hl 0 rfl) ?_
  refine lv_if_lt (tgt := 14) hx hb dX2_isSet_1 (by decide) (fun c1 => ?_) (fun c1 => ?_)
  · refine lv_iconst (v := 0) hx hb dX2_isSet_14 (by decide) ?_
    exact g_zr hx hb hr hlocks hP hD hS () [] rfl (by decide) rfl dX2_isSet_15 (Nat.le_of_ble_eq_true rfl) (Nat.le_of_ble_eq_true rfl) (Or.inl rfl) (Or.inr ⟨rfl, fun h => h.1 c1⟩)
  · refine lv_iload_n hx hb dX2_isSet_4 rfl (lv_at hl 0 rfl) ?_
    refine lv_ldc (v := 65535) hx hb hown (hts (.constant RX2 42 (65535)) (by decide +kernel)) dX2_isSet_5 ?_
    refine lv_icmp_gt (tgt := 14) hx hb dX2_isSet_7 (by decide) (fun c7 => ?_) (fun c7 => ?_)
    · refine lv_iconst (v := 0) hx hb dX2_isSet_14 (by decide) ?_
      exact g_zr hx hb hr hlocks hP hD hS () [] rfl (by decide) rfl dX2_isSet_15 (Nat.le_of_ble_eq_true rfl) (Nat.le_of_ble_eq_true rfl) (Or.inl rfl) (Or.inr ⟨rfl, fun h => Int32.not_lt.mpr h.2 c7⟩)
    · refine lv_iconst (v := 1) hx hb dX2_isSet_10 (by decide) ?_
      refine lv_goto (tgt := 15) hx hb dX2_isSet_11 (by decide) ?_
      exact g_zr hx hb hr hlocks hP hD hS () [] rfl (by decide) rfl dX2_isSet_15 (Nat.le_of_ble_eq_true rfl) (Nat.le_of_ble_eq_true rfl) (Or.inr rfl) (Or.inl ⟨rfl, c1, Int32.not_lt.mp c7⟩)
set_option maxHeartbeats 4000000 in
set_option maxRecDepth 100000 in
theorem c_X2_complements (l : Launch) (g : gG) (sz : Nat) (x : Int32) : gMi l yX2_complements wsX2_complements ({ frames := 0, cells := 0, slots := 0, locals := 0 } : Room) g [.int x] [] sz (fun (r : Int32) (u : Unit) => r = gCompM x) (fun (u : Unit) => []) 0 0 := by
  refine g_of (l := l) (y := yX2_complements) (wy := wsX2_complements) (rm := ({ frames := 0, cells := 0, slots := 0, locals := 0 } : Room)) (g := g) (av := [.int x]) (ws := []) (sz := sz) (mc := 0) (ms := 0) (Qc := fun A => va_Qi (fun (r : Int32) (u : Unit) => r = gCompM x) (fun u t9 => gPost g A ((fun (u : Unit) => []) u) t9) A) (cc := cX2_complements) (maxL := 1) (ret := some .int) (by decide) rfl (Nat.le_of_ble_eq_true rfl) ?_
  intro p e s m below meth c A ls hx hb hr hml hown hts hlocks hnm hA hK hE hP hD hS hl
  have hl : lv_has ls 1 [(0, .int x)] := hl
  have hown : s.vm.findClass RX2 = some m.cls := hown
  have hP : va_P g.1 vwCl [] s.heap := hP
  refine lv_iload_n hx hb dX2_complements_0 rfl (lv_at hl 0 rfl) ?_
  refine lv_bipush (v := 8) hx hb dX2_complements_1 (by decide) ?_
  refine lv_ishr hx hb dX2_complements_3 ?_
  refine lv_topi (fun v1 ev1 => ?_)
  refine lv_iload_n hx hb dX2_complements_4 rfl (lv_at hl 0 rfl) ?_
  refine lv_sipush (v := 255) hx hb dX2_complements_5 (by decide) ?_
  refine lv_iand hx hb dX2_complements_8 ?_
  refine lv_topi (fun v2 ev2 => ?_)
  refine lv_bipush (v := 8) hx hb dX2_complements_9 (by decide) ?_
  refine lv_ishl hx hb dX2_complements_11 ?_
  refine lv_topi (fun v3 ev3 => ?_)
  refine lv_ior hx hb dX2_complements_12 ?_
  refine lv_topi (fun v4 ev4 => ?_)
  exact g_ir hx hb hr hlocks hP hD hS () [] rfl (by decide) rfl dX2_complements_13 (Nat.le_of_ble_eq_true rfl) (Nat.le_of_ble_eq_true rfl) (by subst ev1; subst ev2; subst ev3; subst ev4; rfl)
set_option maxHeartbeats 4000000 in
set_option maxRecDepth 100000 in
theorem c_X2_fail (l : Launch) (g : gG) (sz : Nat) (mm : Nat) (b : Nat → Nat) (t n : Int32) (x : Int32) : gMi l yX2_fail wsX2_fail ({ frames := 0, cells := 0, slots := 0, locals := 0 } : Room) g [.ref mm, .int x] [(mm, .inr (2, [.int t, .int 0, .int 0, .ref (b 3), .ref (b 4), .int 0, .ref (b 6), .ref (b 7), .ref (b 8), .ref (b 9), .int 0, .ref (b 11), .int n, .ref (b 13), .ref (b 14)]))] sz (fun (r : Int32) (u : Unit) => r = 0) (fun (u : Unit) => [(mm, .inr (2, [.int x, .int 0, .int 0, .ref (b 3), .ref (b 4), .int 0, .ref (b 6), .ref (b 7), .ref (b 8), .ref (b 9), .int 0, .ref (b 11), .int n, .ref (b 13), .ref (b 14)]))]) 0 0 := by
  refine g_of (l := l) (y := yX2_fail) (wy := wsX2_fail) (rm := ({ frames := 0, cells := 0, slots := 0, locals := 0 } : Room)) (g := g) (av := [.ref mm, .int x]) (ws := [(mm, .inr (2, [.int t, .int 0, .int 0, .ref (b 3), .ref (b 4), .int 0, .ref (b 6), .ref (b 7), .ref (b 8), .ref (b 9), .int 0, .ref (b 11), .int n, .ref (b 13), .ref (b 14)]))]) (sz := sz) (mc := 0) (ms := 0) (Qc := fun A => va_Qi (fun (r : Int32) (u : Unit) => r = 0) (fun u t9 => gPost g A ((fun (u : Unit) => [(mm, .inr (2, [.int x, .int 0, .int 0, .ref (b 3), .ref (b 4), .int 0, .ref (b 6), .ref (b 7), .ref (b 8), .ref (b 9), .int 0, .ref (b 11), .int n, .ref (b 13), .ref (b 14)]))]) u) t9) A) (cc := cX2_fail) (maxL := 2) (ret := some .int) (by decide) rfl (Nat.le_of_ble_eq_true rfl) ?_
  intro p e s m below meth c A ls hx hb hr hml hown hts hlocks hnm hA hK hE hP hD hS hl
  have hl : lv_has ls 2 [(0, .ref mm), (1, .int x)] := hl
  have hown : s.vm.findClass RX2 = some m.cls := hown
  have hP : va_P g.1 vwCl [(mm, .inr (2, [.int t, .int 0, .int 0, .ref (b 3), .ref (b 4), .int 0, .ref (b 6), .ref (b 7), .ref (b 8), .ref (b 9), .int 0, .ref (b 11), .int n, .ref (b 13), .ref (b 14)]))] s.heap := hP
  have hinX2 : ∀ w ∈ u_ws RX2 TX2 15, w ∈ wsX2_fail := by decide +kernel
  refine lv_aload_n hx hb dX2_fail_0 rfl (lv_at hl 0 rfl) ?_
  refine lv_iload_n hx hb dX2_fail_1 rfl (lv_at hl 1 rfl) ?_
  refine va_put (D := g.1) (ci := 2) (v := .int x) (ty := .int) (C := RX2) (T := TX2) (N := 15) hx hb hts hinX2 tyX2 tyX2_ok nmX2 hown hK hP hD hS 0 rfl rfl 0 (by decide) (hts (.fieldLink RX2 38 "DefaultReasonerModel" "thrown" "I") (by decide +kernel)) (fun _ h9 => h9) rfl (by decide +kernel) rfl rfl (Nat.le_of_ble_eq_true rfl) dX2_fail_2 (fun H locs hP hD hS => ?_)
  have hP : va_P g.1 vwCl [(mm, .inr (2, [.int x, .int 0, .int 0, .ref (b 3), .ref (b 4), .int 0, .ref (b 6), .ref (b 7), .ref (b 8), .ref (b 9), .int 0, .ref (b 11), .int n, .ref (b 13), .ref (b 14)]))] H := hP
  have hD : va_D A [(mm, .inr (2, [.int x, .int 0, .int 0, .ref (b 3), .ref (b 4), .int 0, .ref (b 6), .ref (b 7), .ref (b 8), .ref (b 9), .int 0, .ref (b 11), .int n, .ref (b 13), .ref (b 14)]))] := hD
  refine lv_iconst (v := 0) hx hb dX2_fail_5 (by decide) ?_
  exact g_ir hx hb hr hlocks hP hD hS () [0] rfl (by decide) rfl dX2_fail_6 (Nat.le_of_ble_eq_true rfl) (Nat.le_of_ble_eq_true rfl) (rfl)
set_option maxHeartbeats 4000000 in
set_option maxRecDepth 100000 in
theorem c_X2_isDefault (l : Launch) (g : gG) (sz : Nat) (mm : Nat) (b : Nat → Nat) (t n : Int32) (x : Int32) : gMi l yX2_isDefault wsX2_isDefault ({ frames := 0, cells := 0, slots := 0, locals := 0 } : Room) g [.ref mm, .int x] [(mm, .inr (2, [.int t, .int 0, .int 0, .ref (b 3), .ref (b 4), .int 0, .ref (b 6), .ref (b 7), .ref (b 8), .ref (b 9), .int 0, .ref (b 11), .int n, .ref (b 13), .ref (b 14)]))] sz (fun (r : Int32) (u : Unit) => r = 0) (fun (u : Unit) => [(mm, .inr (2, [.int t, .int 0, .int 0, .ref (b 3), .ref (b 4), .int 0, .ref (b 6), .ref (b 7), .ref (b 8), .ref (b 9), .int 0, .ref (b 11), .int n, .ref (b 13), .ref (b 14)]))]) 0 0 := by
  refine g_of (l := l) (y := yX2_isDefault) (wy := wsX2_isDefault) (rm := ({ frames := 0, cells := 0, slots := 0, locals := 0 } : Room)) (g := g) (av := [.ref mm, .int x]) (ws := [(mm, .inr (2, [.int t, .int 0, .int 0, .ref (b 3), .ref (b 4), .int 0, .ref (b 6), .ref (b 7), .ref (b 8), .ref (b 9), .int 0, .ref (b 11), .int n, .ref (b 13), .ref (b 14)]))]) (sz := sz) (mc := 0) (ms := 0) (Qc := fun A => va_Qi (fun (r : Int32) (u : Unit) => r = 0) (fun u t9 => gPost g A ((fun (u : Unit) => [(mm, .inr (2, [.int t, .int 0, .int 0, .ref (b 3), .ref (b 4), .int 0, .ref (b 6), .ref (b 7), .ref (b 8), .ref (b 9), .int 0, .ref (b 11), .int n, .ref (b 13), .ref (b 14)]))]) u) t9) A) (cc := cX2_isDefault) (maxL := 2) (ret := some .boolean) (by decide) rfl (Nat.le_of_ble_eq_true rfl) ?_
  intro p e s m below meth c A ls hx hb hr hml hown hts hlocks hnm hA hK hE hP hD hS hl
  have hl : lv_has ls 2 [(0, .ref mm), (1, .int x)] := hl
  have hown : s.vm.findClass RX2 = some m.cls := hown
  have hP : va_P g.1 vwCl [(mm, .inr (2, [.int t, .int 0, .int 0, .ref (b 3), .ref (b 4), .int 0, .ref (b 6), .ref (b 7), .ref (b 8), .ref (b 9), .int 0, .ref (b 11), .int n, .ref (b 13), .ref (b 14)]))] s.heap := hP
  have hinX2 : ∀ w ∈ u_ws RX2 TX2 15, w ∈ wsX2_isDefault := by decide +kernel
  refine lv_iload_n hx hb dX2_isDefault_0 rfl (lv_at hl 1 rfl) ?_
  refine lv_if_lt (tgt := 16) hx hb dX2_isDefault_1 (by decide) (fun c1 => ?_) (fun c1 => ?_)
  · refine lv_iconst (v := 0) hx hb dX2_isDefault_16 (by decide) ?_
    exact g_zr hx hb hr hlocks hP hD hS () [0] rfl (by decide) rfl dX2_isDefault_17 (Nat.le_of_ble_eq_true rfl) (Nat.le_of_ble_eq_true rfl) (Or.inl rfl) (rfl)
  · refine lv_iload_n hx hb dX2_isDefault_4 rfl (lv_at hl 1 rfl) ?_
    refine lv_aload_n hx hb dX2_isDefault_5 rfl (lv_at hl 0 rfl) ?_
    refine va_get (D := g.1) (ci := 2) (v := .int 0) (C := RX2) (T := TX2) (N := 15) hx hb hts hinX2 hown hK hP 0 rfl rfl 5 (by decide) (hts (.fieldLink RX2 43 "DefaultReasonerModel" "defaults" "I") (by decide +kernel)) (fun _ h9 => h9) rfl dX2_isDefault_6 ?_
    refine lv_icmp_ge (tgt := 16) hx hb dX2_isDefault_9 (by decide) (fun c9 => ?_) (fun c9 => False.elim (c9 (Int32.not_lt.mp c1)))
    refine lv_iconst (v := 0) hx hb dX2_isDefault_16 (by decide) ?_
    exact g_zr hx hb hr hlocks hP hD hS () [0] rfl (by decide) rfl dX2_isDefault_17 (Nat.le_of_ble_eq_true rfl) (Nat.le_of_ble_eq_true rfl) (Or.inl rfl) (rfl)
set_option maxHeartbeats 4000000 in
set_option maxRecDepth 100000 in
theorem c_X2_close (l : Launch) (g : gG) (sz : Nat) (mm : Nat) (b : Nat → Nat) (t n : Int32) (x : Int32) : (gSet x) → gMi l yX2_close wsX2_close ({ frames := 1, cells := 0, slots := 0, locals := 20 } : Room) g [.ref mm, .int x] [(mm, .inr (2, [.int t, .int 0, .int 0, .ref (b 3), .ref (b 4), .int 0, .ref (b 6), .ref (b 7), .ref (b 8), .ref (b 9), .int 0, .ref (b 11), .int n, .ref (b 13), .ref (b 14)]))] sz (fun (r : Int32) (u : Unit) => r = gCloM x) (fun (u : Unit) => [(mm, .inr (2, [.int t, .int 0, .int 0, .ref (b 3), .ref (b 4), .int 0, .ref (b 6), .ref (b 7), .ref (b 8), .ref (b 9), .int 0, .ref (b 11), .int n, .ref (b 13), .ref (b 14)]))]) 0 0 := by
  intro hy0
  refine g_of (l := l) (y := yX2_close) (wy := wsX2_close) (rm := ({ frames := 1, cells := 0, slots := 0, locals := 20 } : Room)) (g := g) (av := [.ref mm, .int x]) (ws := [(mm, .inr (2, [.int t, .int 0, .int 0, .ref (b 3), .ref (b 4), .int 0, .ref (b 6), .ref (b 7), .ref (b 8), .ref (b 9), .int 0, .ref (b 11), .int n, .ref (b 13), .ref (b 14)]))]) (sz := sz) (mc := 0) (ms := 0) (Qc := fun A => va_Qi (fun (r : Int32) (u : Unit) => r = gCloM x) (fun u t9 => gPost g A ((fun (u : Unit) => [(mm, .inr (2, [.int t, .int 0, .int 0, .ref (b 3), .ref (b 4), .int 0, .ref (b 6), .ref (b 7), .ref (b 8), .ref (b 9), .int 0, .ref (b 11), .int n, .ref (b 13), .ref (b 14)]))]) u) t9) A) (cc := cX2_close) (maxL := 5) (ret := some .int) (by decide) rfl (Nat.le_of_ble_eq_true rfl) ?_
  intro p e s m below meth c A ls hx hb hr hml hown hts hlocks hnm hA hK hE hP hD hS hl
  have hl : lv_has ls 5 [(0, .ref mm), (1, .int x)] := hl
  have hown : s.vm.findClass RX2 = some m.cls := hown
  have hP : va_P g.1 vwCl [(mm, .inr (2, [.int t, .int 0, .int 0, .ref (b 3), .ref (b 4), .int 0, .ref (b 6), .ref (b 7), .ref (b 8), .ref (b 9), .int 0, .ref (b 11), .int n, .ref (b 13), .ref (b 14)]))] s.heap := hP
  have hinX2 : ∀ w ∈ u_ws RX2 TX2 15, w ∈ wsX2_close := by decide +kernel
  refine lv_iload_n hx hb dX2_close_0 rfl (lv_at hl 1 rfl) ?_
  refine lv_istore_n (lv' := [(2, .int x), (0, .ref mm), (1, .int x)]) hx hb dX2_close_1 rfl hl (by decide) rfl (fun ls hl => ?_)
  refine lv_iconst (v := (-1)) hx hb dX2_close_2 (by decide) ?_
  refine lv_istore_n (lv' := [(3, .int (-1)), (2, .int x), (0, .ref mm), (1, .int x)]) hx hb dX2_close_3 rfl hl (by decide) rfl (fun ls hl => ?_)
  refine lv_iload_n hx hb dX2_close_4 rfl (lv_at hl 1 rfl) ?_
  refine lv_iload_n hx hb dX2_close_5 rfl (lv_at hl 0 rfl) ?_
  refine lv_icmp_eq (tgt := 58) hx hb dX2_close_6 (by decide) (fun c6 => False.elim (hy0.1 (by rw [c6]; decide))) (fun c6 => ?_)
  refine lv_iload_n hx hb dX2_close_9 rfl (lv_at hl 1 rfl) ?_
  refine lv_istore_n (lv' := [(3, .int x), (2, .int x), (0, .ref mm), (1, .int x)]) hx hb dX2_close_10 rfl hl (by decide) rfl (fun ls hl => ?_)
  refine lv_iconst (v := 0) hx hb dX2_close_11 (by decide) ?_
  refine lv_istore (lv' := [(4, .int 0), (3, .int x), (2, .int x), (0, .ref mm), (1, .int x)]) hx hb dX2_close_12 hl (by decide) rfl (fun ls hl => ?_)
  refine lv_iload hx hb dX2_close_14 (lv_at hl 0 rfl) ?_
  refine lv_aload_n hx hb dX2_close_16 rfl (lv_at hl 3 rfl) ?_
  refine va_get (D := g.1) (ci := 2) (v := .int 0) (C := RX2) (T := TX2) (N := 15) hx hb hts hinX2 hown hK hP 0 rfl rfl 2 (by decide) (hts (.fieldLink RX2 60 "DefaultReasonerModel" "rules" "I") (by decide +kernel)) (fun _ h9 => h9) rfl dX2_close_17 ?_
  refine lv_icmp_ge (tgt := 55) hx hb dX2_close_20 (by decide) (fun _ => ?_) (fun c9 => absurd (by decide) c9)
  refine lv_goto (tgt := 4) hx hb dX2_close_55 (by decide) ?_
  refine lv_iload_n hx hb dX2_close_4 rfl (lv_at hl 2 rfl) ?_
  refine lv_iload_n hx hb dX2_close_5 rfl (lv_at hl 1 rfl) ?_
  refine lv_icmp_eq (tgt := 58) hx hb dX2_close_6 (by decide) (fun _ => ?_) (fun c9 => absurd rfl c9)
  refine lv_iload_n hx hb dX2_close_58 rfl (lv_at hl 2 rfl) ?_
  refine lv_iload_n hx hb dX2_close_59 rfl (lv_at hl 2 rfl) ?_
  refine gj_i (wc := []) (wr := [(mm, .inr (2, [.int t, .int 0, .int 0, .ref (b 3), .ref (b 4), .int 0, .ref (b 6), .ref (b 7), .ref (b 8), .ref (b 9), .int 0, .ref (b 11), .int n, .ref (b 13), .ref (b 14)]))]) (gr_S (n := 1) ⟨hx, hb, hml, hown, hts⟩ (c_X2_complements l g s.heap.size x) gX2_close_X2_complements rfl rfl rfl (by decide +kernel) ⟨Nat.le_of_ble_eq_true rfl, Nat.le_of_ble_eq_true rfl⟩ (gp_S hK hE hA hP hD hS [] rfl (by decide) rfl) rfl hl.1 rfl (Nat.le_of_ble_eq_true rfl) dX2_close_60 ⟨Nat.le_of_ble_eq_true rfl, Nat.le_of_ble_eq_true rfl⟩) hP hD hS hA [] [0] rfl rfl (by decide) (by decide) (fun r1 u1 H locs hp1 hP hD hS => ?_)
  have hP : va_P g.1 vwCl [(mm, .inr (2, [.int t, .int 0, .int 0, .ref (b 3), .ref (b 4), .int 0, .ref (b 6), .ref (b 7), .ref (b 8), .ref (b 9), .int 0, .ref (b 11), .int n, .ref (b 13), .ref (b 14)]))] H := hP
  have hD : va_D A [(mm, .inr (2, [.int t, .int 0, .int 0, .ref (b 3), .ref (b 4), .int 0, .ref (b 6), .ref (b 7), .ref (b 8), .ref (b 9), .int 0, .ref (b 11), .int n, .ref (b 13), .ref (b 14)]))] := hD
  have hp1 : r1 = gCompM x := hp1
  subst hp1
  refine lv_iand hx hb dX2_close_63 ?_
  refine lv_topi (fun v2 ev2 => ?_)
  refine lv_if_ne (tgt := 71) hx hb dX2_close_64 (by decide) (fun c64 => ?_) (fun c64 => ?_)
  · refine lv_ldc (v := 65535) hx hb hown (hts (.constant RX2 42 (65535)) (by decide +kernel)) dX2_close_71 ?_
    exact g_ir hx hb hr hlocks hP hD hS () [0] rfl (by decide) rfl dX2_close_73 (Nat.le_of_ble_eq_true rfl) (Nat.le_of_ble_eq_true rfl) (by subst ev2; unfold gCloM; rw [if_neg c64])
  · refine lv_iload_n hx hb dX2_close_67 rfl (lv_at hl 2 rfl) ?_
    refine lv_goto (tgt := 73) hx hb dX2_close_68 (by decide) ?_
    exact g_ir hx hb hr hlocks hP hD hS () [0] rfl (by decide) rfl dX2_close_73 (Nat.le_of_ble_eq_true rfl) (Nat.le_of_ble_eq_true rfl) (by subst ev2; unfold gCloM; rw [if_pos c64])
set_option maxHeartbeats 4000000 in
set_option maxRecDepth 100000 in
theorem c_X2_consequences (l : Launch) (g : gG) (sz : Nat) (mm : Nat) (b : Nat → Nat) (t n : Int32) (x : Int32) : gMi l yX2_consequences wsX2_consequences ({ frames := 2, cells := 0, slots := 0, locals := 44 } : Room) g [.ref mm, .int x] [(mm, .inr (2, [.int t, .int 0, .int 0, .ref (b 3), .ref (b 4), .int 0, .ref (b 6), .ref (b 7), .ref (b 8), .ref (b 9), .int 0, .ref (b 11), .int n, .ref (b 13), .ref (b 14)]))] sz (fun (r : Int32) (u : Unit) => r = 0) (fun (u : Unit) => [(mm, .inr (2, [.int t, .int 0, .int 0, .ref (b 3), .ref (b 4), .int 0, .ref (b 6), .ref (b 7), .ref (b 8), .ref (b 9), .int 0, .ref (b 11), .int n, .ref (b 13), .ref (b 14)]))]) 0 0 := by
  refine g_of (l := l) (y := yX2_consequences) (wy := wsX2_consequences) (rm := ({ frames := 2, cells := 0, slots := 0, locals := 44 } : Room)) (g := g) (av := [.ref mm, .int x]) (ws := [(mm, .inr (2, [.int t, .int 0, .int 0, .ref (b 3), .ref (b 4), .int 0, .ref (b 6), .ref (b 7), .ref (b 8), .ref (b 9), .int 0, .ref (b 11), .int n, .ref (b 13), .ref (b 14)]))]) (sz := sz) (mc := 0) (ms := 0) (Qc := fun A => va_Qi (fun (r : Int32) (u : Unit) => r = 0) (fun u t9 => gPost g A ((fun (u : Unit) => [(mm, .inr (2, [.int t, .int 0, .int 0, .ref (b 3), .ref (b 4), .int 0, .ref (b 6), .ref (b 7), .ref (b 8), .ref (b 9), .int 0, .ref (b 11), .int n, .ref (b 13), .ref (b 14)]))]) u) t9) A) (cc := cX2_consequences) (maxL := 4) (ret := some .int) (by decide) rfl (Nat.le_of_ble_eq_true rfl) ?_
  intro p e s m below meth c A ls hx hb hr hml hown hts hlocks hnm hA hK hE hP hD hS hl
  have hl : lv_has ls 4 [(0, .ref mm), (1, .int x)] := hl
  have hown : s.vm.findClass RX2 = some m.cls := hown
  have hP : va_P g.1 vwCl [(mm, .inr (2, [.int t, .int 0, .int 0, .ref (b 3), .ref (b 4), .int 0, .ref (b 6), .ref (b 7), .ref (b 8), .ref (b 9), .int 0, .ref (b 11), .int n, .ref (b 13), .ref (b 14)]))] s.heap := hP
  have hinX2 : ∀ w ∈ u_ws RX2 TX2 15, w ∈ wsX2_consequences := by decide +kernel
  refine lv_aload_n hx hb dX2_consequences_0 rfl (lv_at hl 0 rfl) ?_
  refine va_get (D := g.1) (ci := 2) (v := .int 0) (C := RX2) (T := TX2) (N := 15) hx hb hts hinX2 hown hK hP 0 rfl rfl 1 (by decide) (hts (.fieldLink RX2 50 "DefaultReasonerModel" "facts" "I") (by decide +kernel)) (fun _ h9 => h9) rfl dX2_consequences_1 ?_
  refine lv_istore_n (lv' := [(2, .int 0), (0, .ref mm), (1, .int x)]) hx hb dX2_consequences_4 rfl hl (by decide) rfl (fun ls hl => ?_)
  refine lv_iconst (v := 0) hx hb dX2_consequences_5 (by decide) ?_
  refine lv_istore_n (lv' := [(3, .int 0), (2, .int 0), (0, .ref mm), (1, .int x)]) hx hb dX2_consequences_6 rfl hl (by decide) rfl (fun ls hl => ?_)
  refine lv_iload_n hx hb dX2_consequences_7 rfl (lv_at hl 0 rfl) ?_
  refine lv_aload_n hx hb dX2_consequences_8 rfl (lv_at hl 2 rfl) ?_
  refine va_get (D := g.1) (ci := 2) (v := .int 0) (C := RX2) (T := TX2) (N := 15) hx hb hts hinX2 hown hK hP 0 rfl rfl 5 (by decide) (hts (.fieldLink RX2 43 "DefaultReasonerModel" "defaults" "I") (by decide +kernel)) (fun _ h9 => h9) rfl dX2_consequences_9 ?_
  refine lv_icmp_ge (tgt := 41) hx hb dX2_consequences_12 (by decide) (fun _ => ?_) (fun c9 => absurd (by decide) c9)
  refine lv_aload_n hx hb dX2_consequences_41 rfl (lv_at hl 2 rfl) ?_
  refine lv_iload_n hx hb dX2_consequences_42 rfl (lv_at hl 1 rfl) ?_
  refine gj_i (wc := [(mm, .inr (2, [.int t, .int 0, .int 0, .ref (b 3), .ref (b 4), .int 0, .ref (b 6), .ref (b 7), .ref (b 8), .ref (b 9), .int 0, .ref (b 11), .int n, .ref (b 13), .ref (b 14)]))]) (wr := []) (gr_V (n := 1) ⟨hx, hb, hml, hown, hts⟩ (c_X2_close l g s.heap.size mm b t n 0 (by unfold gSet; decide)) gX2_consequences_X2_close rfl rfl rfl (by decide +kernel) ⟨Nat.le_of_ble_eq_true rfl, Nat.le_of_ble_eq_true rfl⟩ (gp_V hK hE hA hP hD hS [0] rfl (by decide) rfl (q0 := 0) rfl rfl) rfl hl.1 rfl (Nat.le_of_ble_eq_true rfl) dX2_consequences_43 ⟨Nat.le_of_ble_eq_true rfl, Nat.le_of_ble_eq_true rfl⟩) hP hD hS hA [0] [] rfl rfl (by decide) (by decide) (fun r1 u1 H locs hp1 hP hD hS => ?_)
  have hP : va_P g.1 vwCl [(mm, .inr (2, [.int t, .int 0, .int 0, .ref (b 3), .ref (b 4), .int 0, .ref (b 6), .ref (b 7), .ref (b 8), .ref (b 9), .int 0, .ref (b 11), .int n, .ref (b 13), .ref (b 14)]))] H := hP
  have hD : va_D A [(mm, .inr (2, [.int t, .int 0, .int 0, .ref (b 3), .ref (b 4), .int 0, .ref (b 6), .ref (b 7), .ref (b 8), .ref (b 9), .int 0, .ref (b 11), .int n, .ref (b 13), .ref (b 14)]))] := hD
  have hp1 : r1 = 0 := hp1.trans (by decide)
  subst hp1
  exact g_ir hx hb hr hlocks hP hD hS () [0] rfl (by decide) rfl dX2_consequences_46 (Nat.le_of_ble_eq_true rfl) (Nat.le_of_ble_eq_true rfl) (rfl)
set_option maxHeartbeats 4000000 in
set_option maxRecDepth 100000 in
theorem c_X2_generators (l : Launch) (g : gG) (sz : Nat) (mm : Nat) (b : Nat → Nat) (t n : Int32) (x : Int32) : gMi l yX2_generators wsX2_generators ({ frames := 3, cells := 0, slots := 0, locals := 67 } : Room) g [.ref mm, .int x] [(mm, .inr (2, [.int t, .int 0, .int 0, .ref (b 3), .ref (b 4), .int 0, .ref (b 6), .ref (b 7), .ref (b 8), .ref (b 9), .int 0, .ref (b 11), .int n, .ref (b 13), .ref (b 14)]))] sz (fun (r : Int32) (u : Unit) => r = 0) (fun (u : Unit) => [(mm, .inr (2, [.int t, .int 0, .int 0, .ref (b 3), .ref (b 4), .int 0, .ref (b 6), .ref (b 7), .ref (b 8), .ref (b 9), .int 0, .ref (b 11), .int n, .ref (b 13), .ref (b 14)]))]) 0 0 := by
  refine g_of (l := l) (y := yX2_generators) (wy := wsX2_generators) (rm := ({ frames := 3, cells := 0, slots := 0, locals := 67 } : Room)) (g := g) (av := [.ref mm, .int x]) (ws := [(mm, .inr (2, [.int t, .int 0, .int 0, .ref (b 3), .ref (b 4), .int 0, .ref (b 6), .ref (b 7), .ref (b 8), .ref (b 9), .int 0, .ref (b 11), .int n, .ref (b 13), .ref (b 14)]))]) (sz := sz) (mc := 0) (ms := 0) (Qc := fun A => va_Qi (fun (r : Int32) (u : Unit) => r = 0) (fun u t9 => gPost g A ((fun (u : Unit) => [(mm, .inr (2, [.int t, .int 0, .int 0, .ref (b 3), .ref (b 4), .int 0, .ref (b 6), .ref (b 7), .ref (b 8), .ref (b 9), .int 0, .ref (b 11), .int n, .ref (b 13), .ref (b 14)]))]) u) t9) A) (cc := cX2_generators) (maxL := 6) (ret := some .int) (by decide) rfl (Nat.le_of_ble_eq_true rfl) ?_
  intro p e s m below meth c A ls hx hb hr hml hown hts hlocks hnm hA hK hE hP hD hS hl
  have hl : lv_has ls 6 [(0, .ref mm), (1, .int x)] := hl
  have hown : s.vm.findClass RX2 = some m.cls := hown
  have hP : va_P g.1 vwCl [(mm, .inr (2, [.int t, .int 0, .int 0, .ref (b 3), .ref (b 4), .int 0, .ref (b 6), .ref (b 7), .ref (b 8), .ref (b 9), .int 0, .ref (b 11), .int n, .ref (b 13), .ref (b 14)]))] s.heap := hP
  have hinX2 : ∀ w ∈ u_ws RX2 TX2 15, w ∈ wsX2_generators := by decide +kernel
  refine lv_iconst (v := 0) hx hb dX2_generators_0 (by decide) ?_
  refine lv_istore_n (lv' := [(2, .int 0), (0, .ref mm), (1, .int x)]) hx hb dX2_generators_1 rfl hl (by decide) rfl (fun ls hl => ?_)
  refine lv_iconst (v := (-1)) hx hb dX2_generators_2 (by decide) ?_
  refine lv_istore_n (lv' := [(3, .int (-1)), (2, .int 0), (0, .ref mm), (1, .int x)]) hx hb dX2_generators_3 rfl hl (by decide) rfl (fun ls hl => ?_)
  refine lv_iload_n hx hb dX2_generators_4 rfl (lv_at hl 1 rfl) ?_
  refine lv_iload_n hx hb dX2_generators_5 rfl (lv_at hl 0 rfl) ?_
  refine lv_icmp_eq (tgt := 71) hx hb dX2_generators_6 (by decide) (fun c9 => absurd c9 (by decide)) (fun _ => ?_)
  refine lv_iload_n hx hb dX2_generators_9 rfl (lv_at hl 1 rfl) ?_
  refine lv_istore_n (lv' := [(3, .int 0), (2, .int 0), (0, .ref mm), (1, .int x)]) hx hb dX2_generators_10 rfl hl (by decide) rfl (fun ls hl => ?_)
  refine lv_aload_n hx hb dX2_generators_11 rfl (lv_at hl 2 rfl) ?_
  refine lv_iload_n hx hb dX2_generators_12 rfl (lv_at hl 1 rfl) ?_
  refine gj_i (wc := [(mm, .inr (2, [.int t, .int 0, .int 0, .ref (b 3), .ref (b 4), .int 0, .ref (b 6), .ref (b 7), .ref (b 8), .ref (b 9), .int 0, .ref (b 11), .int n, .ref (b 13), .ref (b 14)]))]) (wr := []) (gr_V (n := 1) ⟨hx, hb, hml, hown, hts⟩ (c_X2_consequences l g s.heap.size mm b t n 0) gX2_generators_X2_consequences rfl rfl rfl (by decide +kernel) ⟨Nat.le_of_ble_eq_true rfl, Nat.le_of_ble_eq_true rfl⟩ (gp_V hK hE hA hP hD hS [0] rfl (by decide) rfl (q0 := 0) rfl rfl) rfl hl.1 rfl (Nat.le_of_ble_eq_true rfl) dX2_generators_13 ⟨Nat.le_of_ble_eq_true rfl, Nat.le_of_ble_eq_true rfl⟩) hP hD hS hA [0] [] rfl rfl (by decide) (by decide) (fun r1 u1 H locs hp1 hP hD hS => ?_)
  have hP : va_P g.1 vwCl [(mm, .inr (2, [.int t, .int 0, .int 0, .ref (b 3), .ref (b 4), .int 0, .ref (b 6), .ref (b 7), .ref (b 8), .ref (b 9), .int 0, .ref (b 11), .int n, .ref (b 13), .ref (b 14)]))] H := hP
  have hD : va_D A [(mm, .inr (2, [.int t, .int 0, .int 0, .ref (b 3), .ref (b 4), .int 0, .ref (b 6), .ref (b 7), .ref (b 8), .ref (b 9), .int 0, .ref (b 11), .int n, .ref (b 13), .ref (b 14)]))] := hD
  have hp1 : r1 = 0 := hp1.trans (by decide)
  subst hp1
  refine lv_istore (lv' := [(4, .int 0), (3, .int 0), (2, .int 0), (0, .ref mm), (1, .int x)]) hx hb dX2_generators_16 hl (by decide) rfl (fun ls hl => ?_)
  refine lv_iconst (v := 0) hx hb dX2_generators_18 (by decide) ?_
  refine lv_istore (lv' := [(5, .int 0), (4, .int 0), (3, .int 0), (2, .int 0), (0, .ref mm), (1, .int x)]) hx hb dX2_generators_19 hl (by decide) rfl (fun ls hl => ?_)
  refine lv_iload hx hb dX2_generators_21 (lv_at hl 0 rfl) ?_
  refine lv_aload_n hx hb dX2_generators_23 rfl (lv_at hl 4 rfl) ?_
  refine va_get (D := g.1) (ci := 2) (v := .int 0) (C := RX2) (T := TX2) (N := 15) hx hb hts hinX2 hown hK hP 0 rfl rfl 5 (by decide) (hts (.fieldLink RX2 43 "DefaultReasonerModel" "defaults" "I") (by decide +kernel)) (fun _ h9 => h9) rfl dX2_generators_24 ?_
  refine lv_icmp_ge (tgt := 68) hx hb dX2_generators_27 (by decide) (fun _ => ?_) (fun c9 => absurd (by decide) c9)
  refine lv_goto (tgt := 4) hx hb dX2_generators_68 (by decide) ?_
  refine lv_iload_n hx hb dX2_generators_4 rfl (lv_at hl 3 rfl) ?_
  refine lv_iload_n hx hb dX2_generators_5 rfl (lv_at hl 2 rfl) ?_
  refine lv_icmp_eq (tgt := 71) hx hb dX2_generators_6 (by decide) (fun _ => ?_) (fun c9 => absurd (by decide) c9)
  refine lv_iload_n hx hb dX2_generators_71 rfl (lv_at hl 3 rfl) ?_
  exact g_ir hx hb hr hlocks hP hD hS () [0] rfl (by decide) rfl dX2_generators_72 (Nat.le_of_ble_eq_true rfl) (Nat.le_of_ble_eq_true rfl) (rfl)
set_option maxHeartbeats 4000000 in
set_option maxRecDepth 100000 in
theorem c_X2_isStable (l : Launch) (g : gG) (sz : Nat) (mm : Nat) (b : Nat → Nat) (t n : Int32) (x : Int32) : gMi l yX2_isStable wsX2_isStable ({ frames := 4, cells := 0, slots := 0, locals := 92 } : Room) g [.ref mm, .int x] [(mm, .inr (2, [.int t, .int 0, .int 0, .ref (b 3), .ref (b 4), .int 0, .ref (b 6), .ref (b 7), .ref (b 8), .ref (b 9), .int 0, .ref (b 11), .int n, .ref (b 13), .ref (b 14)]))] sz (fun (r : Int32) (u : Unit) => r = 1 ∧ 0 = x ∨ r = 0 ∧ ¬ (0 : Int32) = x) (fun (u : Unit) => [(mm, .inr (2, [.int t, .int 0, .int 0, .ref (b 3), .ref (b 4), .int 0, .ref (b 6), .ref (b 7), .ref (b 8), .ref (b 9), .int 0, .ref (b 11), .int n, .ref (b 13), .ref (b 14)]))]) 0 0 := by
  refine g_of (l := l) (y := yX2_isStable) (wy := wsX2_isStable) (rm := ({ frames := 4, cells := 0, slots := 0, locals := 92 } : Room)) (g := g) (av := [.ref mm, .int x]) (ws := [(mm, .inr (2, [.int t, .int 0, .int 0, .ref (b 3), .ref (b 4), .int 0, .ref (b 6), .ref (b 7), .ref (b 8), .ref (b 9), .int 0, .ref (b 11), .int n, .ref (b 13), .ref (b 14)]))]) (sz := sz) (mc := 0) (ms := 0) (Qc := fun A => va_Qi (fun (r : Int32) (u : Unit) => r = 1 ∧ 0 = x ∨ r = 0 ∧ ¬ (0 : Int32) = x) (fun u t9 => gPost g A ((fun (u : Unit) => [(mm, .inr (2, [.int t, .int 0, .int 0, .ref (b 3), .ref (b 4), .int 0, .ref (b 6), .ref (b 7), .ref (b 8), .ref (b 9), .int 0, .ref (b 11), .int n, .ref (b 13), .ref (b 14)]))]) u) t9) A) (cc := cX2_isStable) (maxL := 2) (ret := some .boolean) (by decide) rfl (Nat.le_of_ble_eq_true rfl) ?_
  intro p e s m below meth c A ls hx hb hr hml hown hts hlocks hnm hA hK hE hP hD hS hl
  have hl : lv_has ls 2 [(0, .ref mm), (1, .int x)] := hl
  have hown : s.vm.findClass RX2 = some m.cls := hown
  have hP : va_P g.1 vwCl [(mm, .inr (2, [.int t, .int 0, .int 0, .ref (b 3), .ref (b 4), .int 0, .ref (b 6), .ref (b 7), .ref (b 8), .ref (b 9), .int 0, .ref (b 11), .int n, .ref (b 13), .ref (b 14)]))] s.heap := hP
  refine lv_aload_n hx hb dX2_isStable_0 rfl (lv_at hl 0 rfl) ?_
  refine lv_aload_n hx hb dX2_isStable_1 rfl (lv_at hl 0 rfl) ?_
  refine lv_iload_n hx hb dX2_isStable_2 rfl (lv_at hl 1 rfl) ?_
  refine gj_i (wc := [(mm, .inr (2, [.int t, .int 0, .int 0, .ref (b 3), .ref (b 4), .int 0, .ref (b 6), .ref (b 7), .ref (b 8), .ref (b 9), .int 0, .ref (b 11), .int n, .ref (b 13), .ref (b 14)]))]) (wr := []) (gr_V (n := 1) ⟨hx, hb, hml, hown, hts⟩ (c_X2_generators l g s.heap.size mm b t n x) gX2_isStable_X2_generators rfl rfl rfl (by decide +kernel) ⟨Nat.le_of_ble_eq_true rfl, Nat.le_of_ble_eq_true rfl⟩ (gp_V hK hE hA hP hD hS [0] rfl (by decide) rfl (q0 := 0) rfl rfl) rfl hl.1 rfl (Nat.le_of_ble_eq_true rfl) dX2_isStable_3 ⟨Nat.le_of_ble_eq_true rfl, Nat.le_of_ble_eq_true rfl⟩) hP hD hS hA [0] [] rfl rfl (by decide) (by decide) (fun r1 u1 H locs hp1 hP hD hS => ?_)
  have hP : va_P g.1 vwCl [(mm, .inr (2, [.int t, .int 0, .int 0, .ref (b 3), .ref (b 4), .int 0, .ref (b 6), .ref (b 7), .ref (b 8), .ref (b 9), .int 0, .ref (b 11), .int n, .ref (b 13), .ref (b 14)]))] H := hP
  have hD : va_D A [(mm, .inr (2, [.int t, .int 0, .int 0, .ref (b 3), .ref (b 4), .int 0, .ref (b 6), .ref (b 7), .ref (b 8), .ref (b 9), .int 0, .ref (b 11), .int n, .ref (b 13), .ref (b 14)]))] := hD
  have hp1 : r1 = 0 := hp1.trans (by decide)
  subst hp1
  refine gj_i (wc := [(mm, .inr (2, [.int t, .int 0, .int 0, .ref (b 3), .ref (b 4), .int 0, .ref (b 6), .ref (b 7), .ref (b 8), .ref (b 9), .int 0, .ref (b 11), .int n, .ref (b 13), .ref (b 14)]))]) (wr := []) (gr_V (n := 1) ⟨hx, hb, hml, hown, hts⟩ (c_X2_consequences l g H.size mm b t n 0) gX2_isStable_X2_consequences rfl rfl rfl (by decide +kernel) ⟨Nat.le_of_ble_eq_true rfl, Nat.le_of_ble_eq_true rfl⟩ (gp_V hK hE hA hP hD hS [0] rfl (by decide) rfl (q0 := 0) rfl rfl) rfl hl.1 rfl (Nat.le_of_ble_eq_true rfl) dX2_isStable_6 ⟨Nat.le_of_ble_eq_true rfl, Nat.le_of_ble_eq_true rfl⟩) hP hD hS hA [0] [] rfl rfl (by decide) (by decide) (fun r2 u2 H locs hp2 hP hD hS => ?_)
  have hP : va_P g.1 vwCl [(mm, .inr (2, [.int t, .int 0, .int 0, .ref (b 3), .ref (b 4), .int 0, .ref (b 6), .ref (b 7), .ref (b 8), .ref (b 9), .int 0, .ref (b 11), .int n, .ref (b 13), .ref (b 14)]))] H := hP
  have hD : va_D A [(mm, .inr (2, [.int t, .int 0, .int 0, .ref (b 3), .ref (b 4), .int 0, .ref (b 6), .ref (b 7), .ref (b 8), .ref (b 9), .int 0, .ref (b 11), .int n, .ref (b 13), .ref (b 14)]))] := hD
  have hp2 : r2 = 0 := hp2.trans (by decide)
  subst hp2
  refine lv_iload_n hx hb dX2_isStable_9 rfl (lv_at hl 1 rfl) ?_
  refine lv_icmp_ne (tgt := 17) hx hb dX2_isStable_10 (by decide) (fun c10 => ?_) (fun c10 => ?_)
  · refine lv_iconst (v := 0) hx hb dX2_isStable_17 (by decide) ?_
    exact g_zr hx hb hr hlocks hP hD hS () [0] rfl (by decide) rfl dX2_isStable_18 (Nat.le_of_ble_eq_true rfl) (Nat.le_of_ble_eq_true rfl) (Or.inl rfl) (Or.inr ⟨rfl, c10⟩)
  · refine lv_iconst (v := 1) hx hb dX2_isStable_13 (by decide) ?_
    refine lv_goto (tgt := 18) hx hb dX2_isStable_14 (by decide) ?_
    exact g_zr hx hb hr hlocks hP hD hS () [0] rfl (by decide) rfl dX2_isStable_18 (Nat.le_of_ble_eq_true rfl) (Nat.le_of_ble_eq_true rfl) (Or.inr rfl) (Or.inl ⟨rfl, c10⟩)
set_option maxHeartbeats 4000000 in
set_option maxRecDepth 100000 in
theorem c_X2_orders (l : Launch) (g : gG) (sz : Nat) (mm : Nat) (b : Nat → Nat) (t n : Int32) : gMi l yX2_orders wsX2_orders ({ frames := 0, cells := 0, slots := 0, locals := 0 } : Room) g [.ref mm] [(mm, .inr (2, [.int t, .int 0, .int 0, .ref (b 3), .ref (b 4), .int 0, .ref (b 6), .ref (b 7), .ref (b 8), .ref (b 9), .int 0, .ref (b 11), .int n, .ref (b 13), .ref (b 14)]))] sz (fun (r : Int32) (u : Unit) => r = 1) (fun (u : Unit) => [(mm, .inr (2, [.int t, .int 0, .int 0, .ref (b 3), .ref (b 4), .int 0, .ref (b 6), .ref (b 7), .ref (b 8), .ref (b 9), .int 0, .ref (b 11), .int n, .ref (b 13), .ref (b 14)]))]) 0 0 := by
  refine g_of (l := l) (y := yX2_orders) (wy := wsX2_orders) (rm := ({ frames := 0, cells := 0, slots := 0, locals := 0 } : Room)) (g := g) (av := [.ref mm]) (ws := [(mm, .inr (2, [.int t, .int 0, .int 0, .ref (b 3), .ref (b 4), .int 0, .ref (b 6), .ref (b 7), .ref (b 8), .ref (b 9), .int 0, .ref (b 11), .int n, .ref (b 13), .ref (b 14)]))]) (sz := sz) (mc := 0) (ms := 0) (Qc := fun A => va_Qi (fun (r : Int32) (u : Unit) => r = 1) (fun u t9 => gPost g A ((fun (u : Unit) => [(mm, .inr (2, [.int t, .int 0, .int 0, .ref (b 3), .ref (b 4), .int 0, .ref (b 6), .ref (b 7), .ref (b 8), .ref (b 9), .int 0, .ref (b 11), .int n, .ref (b 13), .ref (b 14)]))]) u) t9) A) (cc := cX2_orders) (maxL := 3) (ret := some .int) (by decide) rfl (Nat.le_of_ble_eq_true rfl) ?_
  intro p e s m below meth c A ls hx hb hr hml hown hts hlocks hnm hA hK hE hP hD hS hl
  have hl : lv_has ls 3 [(0, .ref mm)] := hl
  have hown : s.vm.findClass RX2 = some m.cls := hown
  have hP : va_P g.1 vwCl [(mm, .inr (2, [.int t, .int 0, .int 0, .ref (b 3), .ref (b 4), .int 0, .ref (b 6), .ref (b 7), .ref (b 8), .ref (b 9), .int 0, .ref (b 11), .int n, .ref (b 13), .ref (b 14)]))] s.heap := hP
  have hinX2 : ∀ w ∈ u_ws RX2 TX2 15, w ∈ wsX2_orders := by decide +kernel
  refine lv_iconst (v := 1) hx hb dX2_orders_0 (by decide) ?_
  refine lv_istore_n (lv' := [(1, .int 1), (0, .ref mm)]) hx hb dX2_orders_1 rfl hl (by decide) rfl (fun ls hl => ?_)
  refine lv_iconst (v := 2) hx hb dX2_orders_2 (by decide) ?_
  refine lv_istore_n (lv' := [(2, .int 2), (1, .int 1), (0, .ref mm)]) hx hb dX2_orders_3 rfl hl (by decide) rfl (fun ls hl => ?_)
  refine lv_iload_n hx hb dX2_orders_4 rfl (lv_at hl 0 rfl) ?_
  refine lv_aload_n hx hb dX2_orders_5 rfl (lv_at hl 2 rfl) ?_
  refine va_get (D := g.1) (ci := 2) (v := .int 0) (C := RX2) (T := TX2) (N := 15) hx hb hts hinX2 hown hK hP 0 rfl rfl 5 (by decide) (hts (.fieldLink RX2 43 "DefaultReasonerModel" "defaults" "I") (by decide +kernel)) (fun _ h9 => h9) rfl dX2_orders_6 ?_
  refine lv_icmp_gt (tgt := 22) hx hb dX2_orders_9 (by decide) (fun _ => ?_) (fun c9 => absurd (by decide) c9)
  refine lv_iload_n hx hb dX2_orders_22 rfl (lv_at hl 1 rfl) ?_
  exact g_ir hx hb hr hlocks hP hD hS () [0] rfl (by decide) rfl dX2_orders_23 (Nat.le_of_ble_eq_true rfl) (Nat.le_of_ble_eq_true rfl) (rfl)
set_option maxHeartbeats 4000000 in
set_option maxRecDepth 100000 in
theorem c_X2_setOrder (l : Launch) (g : gG) (sz : Nat) (mm : Nat) (b : Nat → Nat) (t n : Int32) (o : Nat) (x : Int32) : gMv l yX2_setOrder wsX2_setOrder ({ frames := 1, cells := 1, slots := 6, locals := 22 } : Room) g [.ref mm, .ref o, .int x] [(mm, .inr (2, [.int t, .int 0, .int 0, .ref (b 3), .ref (b 4), .int 0, .ref (b 6), .ref (b 7), .ref (b 8), .ref (b 9), .int 0, .ref (b 11), .int n, .ref (b 13), .ref (b 14)]))] sz (fun (u : Unit) => True) (fun (u : Unit) => [(mm, .inr (2, [.int t, .int 0, .int 0, .ref (b 3), .ref (b 4), .int 0, .ref (b 6), .ref (b 7), .ref (b 8), .ref (b 9), .int 0, .ref (b 11), .int n, .ref (b 13), .ref (b 14)]))]) 1 6 := by
  refine g_of (l := l) (y := yX2_setOrder) (wy := wsX2_setOrder) (rm := ({ frames := 1, cells := 1, slots := 6, locals := 22 } : Room)) (g := g) (av := [.ref mm, .ref o, .int x]) (ws := [(mm, .inr (2, [.int t, .int 0, .int 0, .ref (b 3), .ref (b 4), .int 0, .ref (b 6), .ref (b 7), .ref (b 8), .ref (b 9), .int 0, .ref (b 11), .int n, .ref (b 13), .ref (b 14)]))]) (sz := sz) (mc := 1) (ms := 6) (Qc := fun A => va_Qv (fun (u : Unit) => True) (fun u t9 => gPost g A ((fun (u : Unit) => [(mm, .inr (2, [.int t, .int 0, .int 0, .ref (b 3), .ref (b 4), .int 0, .ref (b 6), .ref (b 7), .ref (b 8), .ref (b 9), .int 0, .ref (b 11), .int n, .ref (b 13), .ref (b 14)]))]) u) t9) A) (cc := cX2_setOrder) (maxL := 9) (ret := none) (by decide) rfl (Nat.le_of_ble_eq_true rfl) ?_
  intro p e s m below meth c A ls hx hb hr hml hown hts hlocks hnm hA hK hE hP hD hS hl
  have hl : lv_has ls 9 [(0, .ref mm), (1, .ref o), (2, .int x)] := hl
  have hown : s.vm.findClass RX2 = some m.cls := hown
  have hP : va_P g.1 vwCl [(mm, .inr (2, [.int t, .int 0, .int 0, .ref (b 3), .ref (b 4), .int 0, .ref (b 6), .ref (b 7), .ref (b 8), .ref (b 9), .int 0, .ref (b 11), .int n, .ref (b 13), .ref (b 14)]))] s.heap := hP
  have hinX2 : ∀ w ∈ u_ws RX2 TX2 15, w ∈ wsX2_setOrder := by decide +kernel
  refine lv_bipush (v := 6) hx hb dX2_setOrder_0 (by decide) ?_
  refine g_newa (a0 := (6, .inl (fun _ => 0))) (atype := .boolean) (ty := .boolean) (N' := 6) hx hb (hts (.arrayClass .boolean) (by decide +kernel)) rfl hK 1 rfl (fun _ h => h) hP hD hS hA (fun z => by rw [vp_cell_i]; rfl) (by decide) (by decide) (by decide) (Nat.le_of_ble_eq_true rfl) (Nat.le_of_ble_eq_true rfl) dX2_setOrder_2 (fun qa1 H hP hD hS => ?_)
  have hP : va_P g.1 vwCl [(mm, .inr (2, [.int t, .int 0, .int 0, .ref (b 3), .ref (b 4), .int 0, .ref (b 6), .ref (b 7), .ref (b 8), .ref (b 9), .int 0, .ref (b 11), .int n, .ref (b 13), .ref (b 14)])), (qa1, .inl (g.2.1.2.1, 6, .inl (fun _ => 0)))] H := hP
  have hD : va_D A [(mm, .inr (2, [.int t, .int 0, .int 0, .ref (b 3), .ref (b 4), .int 0, .ref (b 6), .ref (b 7), .ref (b 8), .ref (b 9), .int 0, .ref (b 11), .int n, .ref (b 13), .ref (b 14)])), (qa1, .inl (g.2.1.2.1, 6, .inl (fun _ => 0)))] := hD
  refine lv_astore_n (lv' := [(3, .ref qa1), (0, .ref mm), (1, .ref o), (2, .int x)]) hx hb dX2_setOrder_4 rfl hl (by decide) rfl (fun ls hl => ?_)
  refine lv_iload_n hx hb dX2_setOrder_5 rfl (lv_at hl 3 rfl) ?_
  refine lv_istore (lv' := [(4, .int x), (3, .ref qa1), (0, .ref mm), (1, .ref o), (2, .int x)]) hx hb dX2_setOrder_6 hl (by decide) rfl (fun ls hl => ?_)
  refine lv_aload_n hx hb dX2_setOrder_8 rfl (lv_at hl 2 rfl) ?_
  refine gj_i (wc := [(mm, .inr (2, [.int t, .int 0, .int 0, .ref (b 3), .ref (b 4), .int 0, .ref (b 6), .ref (b 7), .ref (b 8), .ref (b 9), .int 0, .ref (b 11), .int n, .ref (b 13), .ref (b 14)]))]) (wr := [(qa1, .inl (g.2.1.2.1, 6, .inl (fun _ => 0)))]) (gr_V (n := 0) ⟨hx, hb, hml, hown, hts⟩ (c_X2_orders l g H.size mm b t n) gX2_setOrder_X2_orders rfl rfl rfl (by decide +kernel) ⟨Nat.le_of_ble_eq_true rfl, Nat.le_of_ble_eq_true rfl⟩ (gp_V hK hE hA hP hD hS [0] rfl (by decide) rfl (q0 := 0) rfl rfl) rfl hl.1 rfl (Nat.le_of_ble_eq_true rfl) dX2_setOrder_9 ⟨Nat.le_of_ble_eq_true rfl, Nat.le_of_ble_eq_true rfl⟩) hP hD hS hA [0] [1] rfl rfl (by decide) (by decide) (fun r2 u2 H locs hp2 hP hD hS => ?_)
  have hP : va_P g.1 vwCl [(qa1, .inl (g.2.1.2.1, 6, .inl (fun _ => 0))), (mm, .inr (2, [.int t, .int 0, .int 0, .ref (b 3), .ref (b 4), .int 0, .ref (b 6), .ref (b 7), .ref (b 8), .ref (b 9), .int 0, .ref (b 11), .int n, .ref (b 13), .ref (b 14)]))] H := hP
  have hD : va_D A [(qa1, .inl (g.2.1.2.1, 6, .inl (fun _ => 0))), (mm, .inr (2, [.int t, .int 0, .int 0, .ref (b 3), .ref (b 4), .int 0, .ref (b 6), .ref (b 7), .ref (b 8), .ref (b 9), .int 0, .ref (b 11), .int n, .ref (b 13), .ref (b 14)]))] := hD
  have hp2 : r2 = 1 := hp2.trans (by decide)
  subst hp2
  refine lv_istore (lv' := [(5, .int 1), (4, .int x), (3, .ref qa1), (0, .ref mm), (1, .ref o), (2, .int x)]) hx hb dX2_setOrder_12 hl (by decide) rfl (fun ls hl => ?_)
  refine lv_iconst (v := 0) hx hb dX2_setOrder_14 (by decide) ?_
  refine lv_istore (lv' := [(6, .int 0), (5, .int 1), (4, .int x), (3, .ref qa1), (0, .ref mm), (1, .ref o), (2, .int x)]) hx hb dX2_setOrder_15 hl (by decide) rfl (fun ls hl => ?_)
  refine lv_iload hx hb dX2_setOrder_17 (lv_at hl 0 rfl) ?_
  refine lv_aload_n hx hb dX2_setOrder_19 rfl (lv_at hl 4 rfl) ?_
  refine va_get (D := g.1) (ci := 2) (v := .int 0) (C := RX2) (T := TX2) (N := 15) hx hb hts hinX2 hown hK hP 1 rfl rfl 5 (by decide) (hts (.fieldLink RX2 43 "DefaultReasonerModel" "defaults" "I") (by decide +kernel)) (fun _ h9 => h9) rfl dX2_setOrder_20 ?_
  refine lv_icmp_ge (tgt := 107) hx hb dX2_setOrder_23 (by decide) (fun _ => ?_) (fun c9 => absurd (by decide) c9)
  exact g_vr hx hb hr hlocks hP hD hS () [1] rfl (by decide) rfl dX2_setOrder_107 (Nat.le_of_ble_eq_true rfl) (Nat.le_of_ble_eq_true rfl) (trivial)
set_option maxHeartbeats 4000000 in
set_option maxRecDepth 100000 in
theorem c_X2_respects (l : Launch) (g : gG) (sz : Nat) (mm : Nat) (b : Nat → Nat) (t n : Int32) (o : Nat) : gMi l yX2_respects wsX2_respects ({ frames := 0, cells := 0, slots := 0, locals := 0 } : Room) g [.ref mm, .ref o] [(mm, .inr (2, [.int t, .int 0, .int 0, .ref (b 3), .ref (b 4), .int 0, .ref (b 6), .ref (b 7), .ref (b 8), .ref (b 9), .int 0, .ref (b 11), .int n, .ref (b 13), .ref (b 14)]))] sz (fun (r : Int32) (u : Unit) => r = 1) (fun (u : Unit) => [(mm, .inr (2, [.int t, .int 0, .int 0, .ref (b 3), .ref (b 4), .int 0, .ref (b 6), .ref (b 7), .ref (b 8), .ref (b 9), .int 0, .ref (b 11), .int n, .ref (b 13), .ref (b 14)]))]) 0 0 := by
  refine g_of (l := l) (y := yX2_respects) (wy := wsX2_respects) (rm := ({ frames := 0, cells := 0, slots := 0, locals := 0 } : Room)) (g := g) (av := [.ref mm, .ref o]) (ws := [(mm, .inr (2, [.int t, .int 0, .int 0, .ref (b 3), .ref (b 4), .int 0, .ref (b 6), .ref (b 7), .ref (b 8), .ref (b 9), .int 0, .ref (b 11), .int n, .ref (b 13), .ref (b 14)]))]) (sz := sz) (mc := 0) (ms := 0) (Qc := fun A => va_Qi (fun (r : Int32) (u : Unit) => r = 1) (fun u t9 => gPost g A ((fun (u : Unit) => [(mm, .inr (2, [.int t, .int 0, .int 0, .ref (b 3), .ref (b 4), .int 0, .ref (b 6), .ref (b 7), .ref (b 8), .ref (b 9), .int 0, .ref (b 11), .int n, .ref (b 13), .ref (b 14)]))]) u) t9) A) (cc := cX2_respects) (maxL := 4) (ret := some .boolean) (by decide) rfl (Nat.le_of_ble_eq_true rfl) ?_
  intro p e s m below meth c A ls hx hb hr hml hown hts hlocks hnm hA hK hE hP hD hS hl
  have hl : lv_has ls 4 [(0, .ref mm), (1, .ref o)] := hl
  have hown : s.vm.findClass RX2 = some m.cls := hown
  have hP : va_P g.1 vwCl [(mm, .inr (2, [.int t, .int 0, .int 0, .ref (b 3), .ref (b 4), .int 0, .ref (b 6), .ref (b 7), .ref (b 8), .ref (b 9), .int 0, .ref (b 11), .int n, .ref (b 13), .ref (b 14)]))] s.heap := hP
  have hinX2 : ∀ w ∈ u_ws RX2 TX2 15, w ∈ wsX2_respects := by decide +kernel
  refine lv_iconst (v := 0) hx hb dX2_respects_0 (by decide) ?_
  refine lv_istore_n (lv' := [(2, .int 0), (0, .ref mm), (1, .ref o)]) hx hb dX2_respects_1 rfl hl (by decide) rfl (fun ls hl => ?_)
  refine lv_iload_n hx hb dX2_respects_2 rfl (lv_at hl 0 rfl) ?_
  refine lv_aload_n hx hb dX2_respects_3 rfl (lv_at hl 1 rfl) ?_
  refine va_get (D := g.1) (ci := 2) (v := .int 0) (C := RX2) (T := TX2) (N := 15) hx hb hts hinX2 hown hK hP 0 rfl rfl 5 (by decide) (hts (.fieldLink RX2 43 "DefaultReasonerModel" "defaults" "I") (by decide +kernel)) (fun _ h9 => h9) rfl dX2_respects_4 ?_
  refine lv_icmp_ge (tgt := 49) hx hb dX2_respects_7 (by decide) (fun _ => ?_) (fun c9 => absurd (by decide) c9)
  refine lv_iconst (v := 1) hx hb dX2_respects_49 (by decide) ?_
  exact g_zr hx hb hr hlocks hP hD hS () [0] rfl (by decide) rfl dX2_respects_50 (Nat.le_of_ble_eq_true rfl) (Nat.le_of_ble_eq_true rfl) (Or.inr rfl) (rfl)
set_option maxHeartbeats 4000000 in
set_option maxRecDepth 100000 in
theorem c_X2_first (l : Launch) (g : gG) (sz : Nat) (mm : Nat) (b : Nat → Nat) (t n : Int32) (o : Nat) (x : Int32) : gMi l yX2_first wsX2_first ({ frames := 0, cells := 0, slots := 0, locals := 0 } : Room) g [.ref mm, .ref o, .int x] [(mm, .inr (2, [.int t, .int 0, .int 0, .ref (b 3), .ref (b 4), .int 0, .ref (b 6), .ref (b 7), .ref (b 8), .ref (b 9), .int 0, .ref (b 11), .int n, .ref (b 13), .ref (b 14)]))] sz (fun (r : Int32) (u : Unit) => r = (-1)) (fun (u : Unit) => [(mm, .inr (2, [.int t, .int 0, .int 0, .ref (b 3), .ref (b 4), .int 0, .ref (b 6), .ref (b 7), .ref (b 8), .ref (b 9), .int 0, .ref (b 11), .int n, .ref (b 13), .ref (b 14)]))]) 0 0 := by
  refine g_of (l := l) (y := yX2_first) (wy := wsX2_first) (rm := ({ frames := 0, cells := 0, slots := 0, locals := 0 } : Room)) (g := g) (av := [.ref mm, .ref o, .int x]) (ws := [(mm, .inr (2, [.int t, .int 0, .int 0, .ref (b 3), .ref (b 4), .int 0, .ref (b 6), .ref (b 7), .ref (b 8), .ref (b 9), .int 0, .ref (b 11), .int n, .ref (b 13), .ref (b 14)]))]) (sz := sz) (mc := 0) (ms := 0) (Qc := fun A => va_Qi (fun (r : Int32) (u : Unit) => r = (-1)) (fun u t9 => gPost g A ((fun (u : Unit) => [(mm, .inr (2, [.int t, .int 0, .int 0, .ref (b 3), .ref (b 4), .int 0, .ref (b 6), .ref (b 7), .ref (b 8), .ref (b 9), .int 0, .ref (b 11), .int n, .ref (b 13), .ref (b 14)]))]) u) t9) A) (cc := cX2_first) (maxL := 5) (ret := some .int) (by decide) rfl (Nat.le_of_ble_eq_true rfl) ?_
  intro p e s m below meth c A ls hx hb hr hml hown hts hlocks hnm hA hK hE hP hD hS hl
  have hl : lv_has ls 5 [(0, .ref mm), (1, .ref o), (2, .int x)] := hl
  have hown : s.vm.findClass RX2 = some m.cls := hown
  have hP : va_P g.1 vwCl [(mm, .inr (2, [.int t, .int 0, .int 0, .ref (b 3), .ref (b 4), .int 0, .ref (b 6), .ref (b 7), .ref (b 8), .ref (b 9), .int 0, .ref (b 11), .int n, .ref (b 13), .ref (b 14)]))] s.heap := hP
  have hinX2 : ∀ w ∈ u_ws RX2 TX2 15, w ∈ wsX2_first := by decide +kernel
  refine lv_iconst (v := 0) hx hb dX2_first_0 (by decide) ?_
  refine lv_istore_n (lv' := [(3, .int 0), (0, .ref mm), (1, .ref o), (2, .int x)]) hx hb dX2_first_1 rfl hl (by decide) rfl (fun ls hl => ?_)
  refine lv_iload_n hx hb dX2_first_2 rfl (lv_at hl 0 rfl) ?_
  refine lv_aload_n hx hb dX2_first_3 rfl (lv_at hl 1 rfl) ?_
  refine va_get (D := g.1) (ci := 2) (v := .int 0) (C := RX2) (T := TX2) (N := 15) hx hb hts hinX2 hown hK hP 0 rfl rfl 5 (by decide) (hts (.fieldLink RX2 43 "DefaultReasonerModel" "defaults" "I") (by decide +kernel)) (fun _ h9 => h9) rfl dX2_first_4 ?_
  refine lv_icmp_ge (tgt := 62) hx hb dX2_first_7 (by decide) (fun _ => ?_) (fun c9 => absurd (by decide) c9)
  refine lv_iconst (v := (-1)) hx hb dX2_first_62 (by decide) ?_
  exact g_ir hx hb hr hlocks hP hD hS () [0] rfl (by decide) rfl dX2_first_63 (Nat.le_of_ble_eq_true rfl) (Nat.le_of_ble_eq_true rfl) (rfl)
set_option maxHeartbeats 4000000 in
set_option maxRecDepth 100000 in
theorem c_X2_walk (l : Launch) (g : gG) (sz : Nat) (mm : Nat) (b : Nat → Nat) (t n : Int32) (o i : Nat) : gMi l yX2_walk wsX2_walk ({ frames := 2, cells := 0, slots := 0, locals := 44 } : Room) g [.ref mm, .ref o, .ref i] [(mm, .inr (2, [.int t, .int 0, .int 0, .ref (b 3), .ref (b 4), .int 0, .ref (b 6), .ref (b 7), .ref (b 8), .ref (b 9), .int 0, .ref (b 11), .int n, .ref (b 13), .ref (b 14)]))] sz (fun (r : Int32) (u : Unit) => r = 0) (fun (u : Unit) => [(mm, .inr (2, [.int t, .int 0, .int 0, .ref (b 3), .ref (b 4), .int 0, .ref (b 6), .ref (b 7), .ref (b 8), .ref (b 9), .int 0, .ref (b 11), .int n, .ref (b 13), .ref (b 14)]))]) 0 0 := by
  refine g_of (l := l) (y := yX2_walk) (wy := wsX2_walk) (rm := ({ frames := 2, cells := 0, slots := 0, locals := 44 } : Room)) (g := g) (av := [.ref mm, .ref o, .ref i]) (ws := [(mm, .inr (2, [.int t, .int 0, .int 0, .ref (b 3), .ref (b 4), .int 0, .ref (b 6), .ref (b 7), .ref (b 8), .ref (b 9), .int 0, .ref (b 11), .int n, .ref (b 13), .ref (b 14)]))]) (sz := sz) (mc := 0) (ms := 0) (Qc := fun A => va_Qi (fun (r : Int32) (u : Unit) => r = 0) (fun u t9 => gPost g A ((fun (u : Unit) => [(mm, .inr (2, [.int t, .int 0, .int 0, .ref (b 3), .ref (b 4), .int 0, .ref (b 6), .ref (b 7), .ref (b 8), .ref (b 9), .int 0, .ref (b 11), .int n, .ref (b 13), .ref (b 14)]))]) u) t9) A) (cc := cX2_walk) (maxL := 5) (ret := some .int) (by decide) rfl (Nat.le_of_ble_eq_true rfl) ?_
  intro p e s m below meth c A ls hx hb hr hml hown hts hlocks hnm hA hK hE hP hD hS hl
  have hl : lv_has ls 5 [(0, .ref mm), (1, .ref o), (2, .ref i)] := hl
  have hown : s.vm.findClass RX2 = some m.cls := hown
  have hP : va_P g.1 vwCl [(mm, .inr (2, [.int t, .int 0, .int 0, .ref (b 3), .ref (b 4), .int 0, .ref (b 6), .ref (b 7), .ref (b 8), .ref (b 9), .int 0, .ref (b 11), .int n, .ref (b 13), .ref (b 14)]))] s.heap := hP
  have hinX2 : ∀ w ∈ u_ws RX2 TX2 15, w ∈ wsX2_walk := by decide +kernel
  refine lv_aload_n hx hb dX2_walk_0 rfl (lv_at hl 0 rfl) ?_
  refine lv_aload_n hx hb dX2_walk_1 rfl (lv_at hl 0 rfl) ?_
  refine va_get (D := g.1) (ci := 2) (v := .int 0) (C := RX2) (T := TX2) (N := 15) hx hb hts hinX2 hown hK hP 0 rfl rfl 1 (by decide) (hts (.fieldLink RX2 50 "DefaultReasonerModel" "facts" "I") (by decide +kernel)) (fun _ h9 => h9) rfl dX2_walk_2 ?_
  refine gj_i (wc := [(mm, .inr (2, [.int t, .int 0, .int 0, .ref (b 3), .ref (b 4), .int 0, .ref (b 6), .ref (b 7), .ref (b 8), .ref (b 9), .int 0, .ref (b 11), .int n, .ref (b 13), .ref (b 14)]))]) (wr := []) (gr_V (n := 1) ⟨hx, hb, hml, hown, hts⟩ (c_X2_close l g s.heap.size mm b t n 0 (by unfold gSet; decide)) gX2_walk_X2_close rfl rfl rfl (by decide +kernel) ⟨Nat.le_of_ble_eq_true rfl, Nat.le_of_ble_eq_true rfl⟩ (gp_V hK hE hA hP hD hS [0] rfl (by decide) rfl (q0 := 0) rfl rfl) rfl hl.1 rfl (Nat.le_of_ble_eq_true rfl) dX2_walk_5 ⟨Nat.le_of_ble_eq_true rfl, Nat.le_of_ble_eq_true rfl⟩) hP hD hS hA [0] [] rfl rfl (by decide) (by decide) (fun r1 u1 H locs hp1 hP hD hS => ?_)
  have hP : va_P g.1 vwCl [(mm, .inr (2, [.int t, .int 0, .int 0, .ref (b 3), .ref (b 4), .int 0, .ref (b 6), .ref (b 7), .ref (b 8), .ref (b 9), .int 0, .ref (b 11), .int n, .ref (b 13), .ref (b 14)]))] H := hP
  have hD : va_D A [(mm, .inr (2, [.int t, .int 0, .int 0, .ref (b 3), .ref (b 4), .int 0, .ref (b 6), .ref (b 7), .ref (b 8), .ref (b 9), .int 0, .ref (b 11), .int n, .ref (b 13), .ref (b 14)]))] := hD
  have hp1 : r1 = 0 := hp1.trans (by decide)
  subst hp1
  refine lv_istore_n (lv' := [(3, .int 0), (0, .ref mm), (1, .ref o), (2, .ref i)]) hx hb dX2_walk_8 rfl hl (by decide) rfl (fun ls hl => ?_)
  refine lv_aload_n hx hb dX2_walk_9 rfl (lv_at hl 1 rfl) ?_
  refine lv_aload_n hx hb dX2_walk_10 rfl (lv_at hl 2 rfl) ?_
  refine lv_iload_n hx hb dX2_walk_11 rfl (lv_at hl 0 rfl) ?_
  refine gj_i (wc := [(mm, .inr (2, [.int t, .int 0, .int 0, .ref (b 3), .ref (b 4), .int 0, .ref (b 6), .ref (b 7), .ref (b 8), .ref (b 9), .int 0, .ref (b 11), .int n, .ref (b 13), .ref (b 14)]))]) (wr := []) (gr_V (n := 2) ⟨hx, hb, hml, hown, hts⟩ (c_X2_first l g H.size mm b t n o 0) gX2_walk_X2_first rfl rfl rfl (by decide +kernel) ⟨Nat.le_of_ble_eq_true rfl, Nat.le_of_ble_eq_true rfl⟩ (gp_V hK hE hA hP hD hS [0] rfl (by decide) rfl (q0 := 0) rfl rfl) rfl hl.1 rfl (Nat.le_of_ble_eq_true rfl) dX2_walk_12 ⟨Nat.le_of_ble_eq_true rfl, Nat.le_of_ble_eq_true rfl⟩) hP hD hS hA [0] [] rfl rfl (by decide) (by decide) (fun r2 u2 H locs hp2 hP hD hS => ?_)
  have hP : va_P g.1 vwCl [(mm, .inr (2, [.int t, .int 0, .int 0, .ref (b 3), .ref (b 4), .int 0, .ref (b 6), .ref (b 7), .ref (b 8), .ref (b 9), .int 0, .ref (b 11), .int n, .ref (b 13), .ref (b 14)]))] H := hP
  have hD : va_D A [(mm, .inr (2, [.int t, .int 0, .int 0, .ref (b 3), .ref (b 4), .int 0, .ref (b 6), .ref (b 7), .ref (b 8), .ref (b 9), .int 0, .ref (b 11), .int n, .ref (b 13), .ref (b 14)]))] := hD
  have hp2 : r2 = (-1) := hp2.trans (by decide)
  subst hp2
  refine lv_istore (lv' := [(4, .int (-1)), (3, .int 0), (0, .ref mm), (1, .ref o), (2, .ref i)]) hx hb dX2_walk_15 hl (by decide) rfl (fun ls hl => ?_)
  refine lv_iload hx hb dX2_walk_17 (lv_at hl 0 rfl) ?_
  refine lv_iconst (v := (-1)) hx hb dX2_walk_19 (by decide) ?_
  refine lv_icmp_eq (tgt := 64) hx hb dX2_walk_20 (by decide) (fun _ => ?_) (fun c9 => absurd (by decide) c9)
  refine lv_iload_n hx hb dX2_walk_64 rfl (lv_at hl 1 rfl) ?_
  exact g_ir hx hb hr hlocks hP hD hS () [0] rfl (by decide) rfl dX2_walk_65 (Nat.le_of_ble_eq_true rfl) (Nat.le_of_ble_eq_true rfl) (rfl)
set_option maxHeartbeats 4000000 in
set_option maxRecDepth 100000 in
theorem c_X2_find (l : Launch) (g : gG) (sz : Nat) (mm : Nat) (b : Nat → Nat) (t n : Int32) (fa : Nat → Int32) : gMv l yX2_find wsX2_find ({ frames := 4, cells := 0, slots := 0, locals := 92 } : Room) g [.ref mm] [(mm, .inr (2, [.int t, .int 0, .int 0, .ref (b 3), .ref (b 4), .int 0, .ref (b 6), .ref (b 7), .ref (b 8), .ref (b 9), .int 0, .ref (b 11), .int n, .ref (b 13), .ref (b 14)])), ((b 13), .inl (g.2.1.1, 64, .inl fa))] sz (fun (u : Unit) => True) (fun (u : Unit) => [(mm, .inr (2, [.int t, .int 0, .int 0, .ref (b 3), .ref (b 4), .int 0, .ref (b 6), .ref (b 7), .ref (b 8), .ref (b 9), .int 0, .ref (b 11), .int 1, .ref (b 13), .ref (b 14)])), ((b 13), .inl (g.2.1.1, 64, .inl (upd fa 0 0)))]) 0 0 := by
  refine g_of (l := l) (y := yX2_find) (wy := wsX2_find) (rm := ({ frames := 4, cells := 0, slots := 0, locals := 92 } : Room)) (g := g) (av := [.ref mm]) (ws := [(mm, .inr (2, [.int t, .int 0, .int 0, .ref (b 3), .ref (b 4), .int 0, .ref (b 6), .ref (b 7), .ref (b 8), .ref (b 9), .int 0, .ref (b 11), .int n, .ref (b 13), .ref (b 14)])), ((b 13), .inl (g.2.1.1, 64, .inl fa))]) (sz := sz) (mc := 0) (ms := 0) (Qc := fun A => va_Qv (fun (u : Unit) => True) (fun u t9 => gPost g A ((fun (u : Unit) => [(mm, .inr (2, [.int t, .int 0, .int 0, .ref (b 3), .ref (b 4), .int 0, .ref (b 6), .ref (b 7), .ref (b 8), .ref (b 9), .int 0, .ref (b 11), .int 1, .ref (b 13), .ref (b 14)])), ((b 13), .inl (g.2.1.1, 64, .inl (upd fa 0 0)))]) u) t9) A) (cc := cX2_find) (maxL := 4) (ret := none) (by decide) rfl (Nat.le_of_ble_eq_true rfl) ?_
  intro p e s m below meth c A ls hx hb hr hml hown hts hlocks hnm hA hK hE hP hD hS hl
  have hl : lv_has ls 4 [(0, .ref mm)] := hl
  have hown : s.vm.findClass RX2 = some m.cls := hown
  have hP : va_P g.1 vwCl [(mm, .inr (2, [.int t, .int 0, .int 0, .ref (b 3), .ref (b 4), .int 0, .ref (b 6), .ref (b 7), .ref (b 8), .ref (b 9), .int 0, .ref (b 11), .int n, .ref (b 13), .ref (b 14)])), ((b 13), .inl (g.2.1.1, 64, .inl fa))] s.heap := hP
  have hinX2 : ∀ w ∈ u_ws RX2 TX2 15, w ∈ wsX2_find := by decide +kernel
  refine lv_aload_n hx hb dX2_find_0 rfl (lv_at hl 0 rfl) ?_
  refine lv_iconst (v := 0) hx hb dX2_find_1 (by decide) ?_
  refine va_put (D := g.1) (ci := 2) (v := .int 0) (ty := .int) (C := RX2) (T := TX2) (N := 15) hx hb hts hinX2 tyX2 tyX2_ok nmX2 hown hK hP hD hS 0 rfl rfl 12 (by decide) (hts (.fieldLink RX2 92 "DefaultReasonerModel" "count" "I") (by decide +kernel)) (fun _ h9 => h9) rfl (by decide +kernel) rfl rfl (Nat.le_of_ble_eq_true rfl) dX2_find_2 (fun H locs hP hD hS => ?_)
  have hP : va_P g.1 vwCl [(mm, .inr (2, [.int t, .int 0, .int 0, .ref (b 3), .ref (b 4), .int 0, .ref (b 6), .ref (b 7), .ref (b 8), .ref (b 9), .int 0, .ref (b 11), .int 0, .ref (b 13), .ref (b 14)])), ((b 13), .inl (g.2.1.1, 64, .inl fa))] H := hP
  have hD : va_D A [(mm, .inr (2, [.int t, .int 0, .int 0, .ref (b 3), .ref (b 4), .int 0, .ref (b 6), .ref (b 7), .ref (b 8), .ref (b 9), .int 0, .ref (b 11), .int 0, .ref (b 13), .ref (b 14)])), ((b 13), .inl (g.2.1.1, 64, .inl fa))] := hD
  refine lv_iconst (v := 0) hx hb dX2_find_5 (by decide) ?_
  refine lv_istore_n (lv' := [(1, .int 0), (0, .ref mm)]) hx hb dX2_find_6 rfl hl (by decide) rfl (fun ls hl => ?_)
  refine lv_iload_n hx hb dX2_find_7 rfl (lv_at hl 0 rfl) ?_
  refine lv_iconst (v := 1) hx hb dX2_find_8 (by decide) ?_
  refine lv_aload_n hx hb dX2_find_9 rfl (lv_at hl 1 rfl) ?_
  refine va_get (D := g.1) (ci := 2) (v := .int 0) (C := RX2) (T := TX2) (N := 15) hx hb hts hinX2 hown hK hP 0 rfl rfl 5 (by decide) (hts (.fieldLink RX2 43 "DefaultReasonerModel" "defaults" "I") (by decide +kernel)) (fun _ h9 => h9) rfl dX2_find_10 ?_
  refine lv_ishl hx hb dX2_find_13 ?_
  refine sy_i (y := 1) (by decide) ?_
  refine lv_icmp_ge (tgt := 99) hx hb dX2_find_14 (by decide) (fun c9 => absurd c9 (by decide)) (fun _ => ?_)
  refine lv_aload_n hx hb dX2_find_17 rfl (lv_at hl 1 rfl) ?_
  refine lv_iload_n hx hb dX2_find_18 rfl (lv_at hl 0 rfl) ?_
  refine gj_i (wc := [(mm, .inr (2, [.int t, .int 0, .int 0, .ref (b 3), .ref (b 4), .int 0, .ref (b 6), .ref (b 7), .ref (b 8), .ref (b 9), .int 0, .ref (b 11), .int 0, .ref (b 13), .ref (b 14)]))]) (wr := [((b 13), .inl (g.2.1.1, 64, .inl fa))]) (gr_V (n := 1) ⟨hx, hb, hml, hown, hts⟩ (c_X2_consequences l g H.size mm b t 0 0) gX2_find_X2_consequences rfl rfl rfl (by decide +kernel) ⟨Nat.le_of_ble_eq_true rfl, Nat.le_of_ble_eq_true rfl⟩ (gp_V hK hE hA hP hD hS [0] rfl (by decide) rfl (q0 := 0) rfl rfl) rfl hl.1 rfl (Nat.le_of_ble_eq_true rfl) dX2_find_19 ⟨Nat.le_of_ble_eq_true rfl, Nat.le_of_ble_eq_true rfl⟩) hP hD hS hA [0] [1] rfl rfl (by decide) (by decide) (fun r1 u1 H locs hp1 hP hD hS => ?_)
  have hP : va_P g.1 vwCl [((b 13), .inl (g.2.1.1, 64, .inl fa)), (mm, .inr (2, [.int t, .int 0, .int 0, .ref (b 3), .ref (b 4), .int 0, .ref (b 6), .ref (b 7), .ref (b 8), .ref (b 9), .int 0, .ref (b 11), .int 0, .ref (b 13), .ref (b 14)]))] H := hP
  have hD : va_D A [((b 13), .inl (g.2.1.1, 64, .inl fa)), (mm, .inr (2, [.int t, .int 0, .int 0, .ref (b 3), .ref (b 4), .int 0, .ref (b 6), .ref (b 7), .ref (b 8), .ref (b 9), .int 0, .ref (b 11), .int 0, .ref (b 13), .ref (b 14)]))] := hD
  have hp1 : r1 = 0 := hp1.trans (by decide)
  subst hp1
  refine lv_istore_n (lv' := [(2, .int 0), (1, .int 0), (0, .ref mm)]) hx hb dX2_find_22 rfl hl (by decide) rfl (fun ls hl => ?_)
  refine lv_aload_n hx hb dX2_find_23 rfl (lv_at hl 2 rfl) ?_
  refine lv_iload_n hx hb dX2_find_24 rfl (lv_at hl 0 rfl) ?_
  refine gj_i (wc := [(mm, .inr (2, [.int t, .int 0, .int 0, .ref (b 3), .ref (b 4), .int 0, .ref (b 6), .ref (b 7), .ref (b 8), .ref (b 9), .int 0, .ref (b 11), .int 0, .ref (b 13), .ref (b 14)]))]) (wr := [((b 13), .inl (g.2.1.1, 64, .inl fa))]) (gr_V (n := 1) ⟨hx, hb, hml, hown, hts⟩ (c_X2_generators l g H.size mm b t 0 0) gX2_find_X2_generators rfl rfl rfl (by decide +kernel) ⟨Nat.le_of_ble_eq_true rfl, Nat.le_of_ble_eq_true rfl⟩ (gp_V hK hE hA hP hD hS [1] rfl (by decide) rfl (q0 := 0) rfl rfl) rfl hl.1 rfl (Nat.le_of_ble_eq_true rfl) dX2_find_25 ⟨Nat.le_of_ble_eq_true rfl, Nat.le_of_ble_eq_true rfl⟩) hP hD hS hA [1] [0] rfl rfl (by decide) (by decide) (fun r2 u2 H locs hp2 hP hD hS => ?_)
  have hP : va_P g.1 vwCl [((b 13), .inl (g.2.1.1, 64, .inl fa)), (mm, .inr (2, [.int t, .int 0, .int 0, .ref (b 3), .ref (b 4), .int 0, .ref (b 6), .ref (b 7), .ref (b 8), .ref (b 9), .int 0, .ref (b 11), .int 0, .ref (b 13), .ref (b 14)]))] H := hP
  have hD : va_D A [((b 13), .inl (g.2.1.1, 64, .inl fa)), (mm, .inr (2, [.int t, .int 0, .int 0, .ref (b 3), .ref (b 4), .int 0, .ref (b 6), .ref (b 7), .ref (b 8), .ref (b 9), .int 0, .ref (b 11), .int 0, .ref (b 13), .ref (b 14)]))] := hD
  have hp2 : r2 = 0 := hp2.trans (by decide)
  subst hp2
  refine lv_iload_n hx hb dX2_find_28 rfl (lv_at hl 1 rfl) ?_
  refine lv_icmp_eq (tgt := 35) hx hb dX2_find_29 (by decide) (fun _ => ?_) (fun c9 => absurd (by decide) c9)
  refine lv_aload_n hx hb dX2_find_35 rfl (lv_at hl 2 rfl) ?_
  refine va_get (D := g.1) (ci := 2) (v := .int 0) (C := RX2) (T := TX2) (N := 15) hx hb hts hinX2 hown hK hP 1 rfl rfl 12 (by decide) (hts (.fieldLink RX2 92 "DefaultReasonerModel" "count" "I") (by decide +kernel)) (fun _ h9 => h9) rfl dX2_find_36 ?_
  refine lv_istore_n (lv' := [(3, .int 0), (2, .int 0), (1, .int 0), (0, .ref mm)]) hx hb dX2_find_39 rfl hl (by decide) rfl (fun ls hl => ?_)
  refine lv_iload_n hx hb dX2_find_40 rfl (lv_at hl 0 rfl) ?_
  refine lv_if_le (tgt := 76) hx hb dX2_find_41 (by decide) (fun _ => ?_) (fun c9 => absurd (by decide) c9)
  refine lv_aload_n hx hb dX2_find_76 rfl (lv_at hl 3 rfl) ?_
  refine va_get (D := g.1) (ci := 2) (v := .ref (b 13)) (C := RX2) (T := TX2) (N := 15) hx hb hts hinX2 hown hK hP 1 rfl rfl 13 (by decide) (hts (.fieldLink RX2 32 "DefaultReasonerModel" "all" "[I") (by decide +kernel)) (fun _ h9 => h9) rfl dX2_find_77 ?_
  refine lv_iload_n hx hb dX2_find_80 rfl (lv_at hl 0 rfl) ?_
  refine lv_iload_n hx hb dX2_find_81 rfl (lv_at hl 1 rfl) ?_
  refine va_iast hx hb hK hP hD hS 0 0 rfl rfl (by unfold vp_in; decide) dX2_find_82 (fun H locs hP hD hS => ?_)
  have hP : va_P g.1 vwCl [((b 13), .inl (g.2.1.1, 64, .inl (upd fa 0 0))), (mm, .inr (2, [.int t, .int 0, .int 0, .ref (b 3), .ref (b 4), .int 0, .ref (b 6), .ref (b 7), .ref (b 8), .ref (b 9), .int 0, .ref (b 11), .int 0, .ref (b 13), .ref (b 14)]))] H := hP
  have hD : va_D A [((b 13), .inl (g.2.1.1, 64, .inl (upd fa 0 0))), (mm, .inr (2, [.int t, .int 0, .int 0, .ref (b 3), .ref (b 4), .int 0, .ref (b 6), .ref (b 7), .ref (b 8), .ref (b 9), .int 0, .ref (b 11), .int 0, .ref (b 13), .ref (b 14)]))] := hD
  refine lv_aload_n hx hb dX2_find_83 rfl (lv_at hl 3 rfl) ?_
  refine lv_dup hx hb dX2_find_84 rfl ?_
  refine va_get (D := g.1) (ci := 2) (v := .int 0) (C := RX2) (T := TX2) (N := 15) hx hb hts hinX2 hown hK hP 1 rfl rfl 12 (by decide) (hts (.fieldLink RX2 92 "DefaultReasonerModel" "count" "I") (by decide +kernel)) (fun _ h9 => h9) rfl dX2_find_85 ?_
  refine lv_iconst (v := 1) hx hb dX2_find_88 (by decide) ?_
  refine lv_iadd hx hb dX2_find_89 ?_
  refine sy_i (y := 1) (by decide) ?_
  refine va_put (D := g.1) (ci := 2) (v := .int 1) (ty := .int) (C := RX2) (T := TX2) (N := 15) hx hb hts hinX2 tyX2 tyX2_ok nmX2 hown hK hP hD hS 1 rfl rfl 12 (by decide) (hts (.fieldLink RX2 92 "DefaultReasonerModel" "count" "I") (by decide +kernel)) (fun _ h9 => h9) rfl (by decide +kernel) rfl rfl (Nat.le_of_ble_eq_true rfl) dX2_find_90 (fun H locs hP hD hS => ?_)
  have hP : va_P g.1 vwCl [((b 13), .inl (g.2.1.1, 64, .inl (upd fa 0 0))), (mm, .inr (2, [.int t, .int 0, .int 0, .ref (b 3), .ref (b 4), .int 0, .ref (b 6), .ref (b 7), .ref (b 8), .ref (b 9), .int 0, .ref (b 11), .int 1, .ref (b 13), .ref (b 14)]))] H := hP
  have hD : va_D A [((b 13), .inl (g.2.1.1, 64, .inl (upd fa 0 0))), (mm, .inr (2, [.int t, .int 0, .int 0, .ref (b 3), .ref (b 4), .int 0, .ref (b 6), .ref (b 7), .ref (b 8), .ref (b 9), .int 0, .ref (b 11), .int 1, .ref (b 13), .ref (b 14)]))] := hD
  refine lv_iinc (v := 1) (lv' := [(1, .int 1), (3, .int 0), (2, .int 0), (0, .ref mm)]) hx hb dX2_find_93 hl (k := 2) rfl (by decide) (by decide) rfl (fun ls hl => ?_)
  refine lv_goto (tgt := 7) hx hb dX2_find_96 (by decide) ?_
  refine lv_iload_n hx hb dX2_find_7 rfl (lv_at hl 0 rfl) ?_
  refine lv_iconst (v := 1) hx hb dX2_find_8 (by decide) ?_
  refine lv_aload_n hx hb dX2_find_9 rfl (lv_at hl 3 rfl) ?_
  refine va_get (D := g.1) (ci := 2) (v := .int 0) (C := RX2) (T := TX2) (N := 15) hx hb hts hinX2 hown hK hP 1 rfl rfl 5 (by decide) (hts (.fieldLink RX2 43 "DefaultReasonerModel" "defaults" "I") (by decide +kernel)) (fun _ h9 => h9) rfl dX2_find_10 ?_
  refine lv_ishl hx hb dX2_find_13 ?_
  refine sy_i (y := 1) (by decide) ?_
  refine lv_icmp_ge (tgt := 99) hx hb dX2_find_14 (by decide) (fun _ => ?_) (fun c9 => absurd (by decide) c9)
  exact g_vr hx hb hr hlocks hP hD hS () [1, 0] rfl (by decide) rfl dX2_find_99 (Nat.le_of_ble_eq_true rfl) (Nat.le_of_ble_eq_true rfl) (trivial)
set_option maxHeartbeats 4000000 in
set_option maxRecDepth 100000 in
theorem c_X2_findPreferred (l : Launch) (g : gG) (sz : Nat) (mm : Nat) (b : Nat → Nat) (t n : Int32) (fa : Nat → Int32) (fp : Nat → Int32) : gMv l yX2_findPreferred wsX2_findPreferred ({ frames := 5, cells := 3, slots := 19, locals := 115 } : Room) g [.ref mm] [(mm, .inr (2, [.int t, .int 0, .int 0, .ref (b 3), .ref (b 4), .int 0, .ref (b 6), .ref (b 7), .ref (b 8), .ref (b 9), .int 0, .ref (b 11), .int n, .ref (b 13), .ref (b 14)])), ((b 13), .inl (g.2.1.1, 64, .inl fa)), ((b 14), .inl (g.2.1.2.1, 64, .inl fp))] sz (fun (u : Unit) => True) (fun (u : Unit) => [(mm, .inr (2, [.int t, .int 0, .int 0, .ref (b 3), .ref (b 4), .int 0, .ref (b 6), .ref (b 7), .ref (b 8), .ref (b 9), .int 0, .ref (b 11), .int 1, .ref (b 13), .ref (b 14)])), ((b 13), .inl (g.2.1.1, 64, .inl (upd fa 0 0))), ((b 14), .inl (g.2.1.2.1, 64, .inl (upd (upd fp 0 0) 0 1)))]) 3 19 := by
  refine g_of (l := l) (y := yX2_findPreferred) (wy := wsX2_findPreferred) (rm := ({ frames := 5, cells := 3, slots := 19, locals := 115 } : Room)) (g := g) (av := [.ref mm]) (ws := [(mm, .inr (2, [.int t, .int 0, .int 0, .ref (b 3), .ref (b 4), .int 0, .ref (b 6), .ref (b 7), .ref (b 8), .ref (b 9), .int 0, .ref (b 11), .int n, .ref (b 13), .ref (b 14)])), ((b 13), .inl (g.2.1.1, 64, .inl fa)), ((b 14), .inl (g.2.1.2.1, 64, .inl fp))]) (sz := sz) (mc := 3) (ms := 19) (Qc := fun A => va_Qv (fun (u : Unit) => True) (fun u t9 => gPost g A ((fun (u : Unit) => [(mm, .inr (2, [.int t, .int 0, .int 0, .ref (b 3), .ref (b 4), .int 0, .ref (b 6), .ref (b 7), .ref (b 8), .ref (b 9), .int 0, .ref (b 11), .int 1, .ref (b 13), .ref (b 14)])), ((b 13), .inl (g.2.1.1, 64, .inl (upd fa 0 0))), ((b 14), .inl (g.2.1.2.1, 64, .inl (upd (upd fp 0 0) 0 1)))]) u) t9) A) (cc := cX2_findPreferred) (maxL := 5) (ret := none) (by decide) rfl (Nat.le_of_ble_eq_true rfl) ?_
  intro p e s m below meth c A ls hx hb hr hml hown hts hlocks hnm hA hK hE hP hD hS hl
  have hl : lv_has ls 5 [(0, .ref mm)] := hl
  have hown : s.vm.findClass RX2 = some m.cls := hown
  have hP : va_P g.1 vwCl [(mm, .inr (2, [.int t, .int 0, .int 0, .ref (b 3), .ref (b 4), .int 0, .ref (b 6), .ref (b 7), .ref (b 8), .ref (b 9), .int 0, .ref (b 11), .int n, .ref (b 13), .ref (b 14)])), ((b 13), .inl (g.2.1.1, 64, .inl fa)), ((b 14), .inl (g.2.1.2.1, 64, .inl fp))] s.heap := hP
  have hinX2 : ∀ w ∈ u_ws RX2 TX2 15, w ∈ wsX2_findPreferred := by decide +kernel
  refine lv_aload_n hx hb dX2_findPreferred_0 rfl (lv_at hl 0 rfl) ?_
  refine gj_v (wc := [(mm, .inr (2, [.int t, .int 0, .int 0, .ref (b 3), .ref (b 4), .int 0, .ref (b 6), .ref (b 7), .ref (b 8), .ref (b 9), .int 0, .ref (b 11), .int n, .ref (b 13), .ref (b 14)])), ((b 13), .inl (g.2.1.1, 64, .inl fa))]) (wr := [((b 14), .inl (g.2.1.2.1, 64, .inl fp))]) (gr_V (n := 0) ⟨hx, hb, hml, hown, hts⟩ (c_X2_find l g s.heap.size mm b t n fa) gX2_findPreferred_X2_find rfl rfl rfl (by decide +kernel) ⟨Nat.le_of_ble_eq_true rfl, Nat.le_of_ble_eq_true rfl⟩ (gp_V hK hE hA hP hD hS [0, 1] rfl (by decide) rfl (q0 := 0) rfl rfl) rfl hl.1 rfl (Nat.le_of_ble_eq_true rfl) dX2_findPreferred_1 ⟨Nat.le_of_ble_eq_true rfl, Nat.le_of_ble_eq_true rfl⟩) hP hD hS hA [0, 1] [2] rfl rfl (by decide) (by decide) (fun u1 H locs hp1 hP hD hS => ?_)
  have hP : va_P g.1 vwCl [((b 14), .inl (g.2.1.2.1, 64, .inl fp)), (mm, .inr (2, [.int t, .int 0, .int 0, .ref (b 3), .ref (b 4), .int 0, .ref (b 6), .ref (b 7), .ref (b 8), .ref (b 9), .int 0, .ref (b 11), .int 1, .ref (b 13), .ref (b 14)])), ((b 13), .inl (g.2.1.1, 64, .inl (upd fa 0 0)))] H := hP
  have hD : va_D A [((b 14), .inl (g.2.1.2.1, 64, .inl fp)), (mm, .inr (2, [.int t, .int 0, .int 0, .ref (b 3), .ref (b 4), .int 0, .ref (b 6), .ref (b 7), .ref (b 8), .ref (b 9), .int 0, .ref (b 11), .int 1, .ref (b 13), .ref (b 14)])), ((b 13), .inl (g.2.1.1, 64, .inl (upd fa 0 0)))] := hD
  refine lv_iconst (v := 0) hx hb dX2_findPreferred_4 (by decide) ?_
  refine lv_istore_n (lv' := [(1, .int 0), (0, .ref mm)]) hx hb dX2_findPreferred_5 rfl hl (by decide) rfl (fun ls hl => ?_)
  refine lv_iload_n hx hb dX2_findPreferred_6 rfl (lv_at hl 0 rfl) ?_
  refine lv_aload_n hx hb dX2_findPreferred_7 rfl (lv_at hl 1 rfl) ?_
  refine va_get (D := g.1) (ci := 2) (v := .int 1) (C := RX2) (T := TX2) (N := 15) hx hb hts hinX2 hown hK hP 1 rfl rfl 12 (by decide) (hts (.fieldLink RX2 92 "DefaultReasonerModel" "count" "I") (by decide +kernel)) (fun _ h9 => h9) rfl dX2_findPreferred_8 ?_
  refine lv_icmp_ge (tgt := 27) hx hb dX2_findPreferred_11 (by decide) (fun c9 => absurd c9 (by decide)) (fun _ => ?_)
  refine lv_aload_n hx hb dX2_findPreferred_14 rfl (lv_at hl 1 rfl) ?_
  refine va_get (D := g.1) (ci := 2) (v := .ref (b 14)) (C := RX2) (T := TX2) (N := 15) hx hb hts hinX2 hown hK hP 1 rfl rfl 14 (by decide) (hts (.fieldLink RX2 35 "DefaultReasonerModel" "arePreferred" "[Z") (by decide +kernel)) (fun _ h9 => h9) rfl dX2_findPreferred_15 ?_
  refine lv_iload_n hx hb dX2_findPreferred_18 rfl (lv_at hl 0 rfl) ?_
  refine lv_iconst (v := 0) hx hb dX2_findPreferred_19 (by decide) ?_
  refine va_zast hx hb hK hP hD hS 0 1 rfl rfl (by unfold vp_in; decide) dX2_findPreferred_20 (fun H locs hP hD hS => ?_)
  have hP : va_P g.1 vwCl [((b 14), .inl (g.2.1.2.1, 64, .inl (upd fp 0 0))), (mm, .inr (2, [.int t, .int 0, .int 0, .ref (b 3), .ref (b 4), .int 0, .ref (b 6), .ref (b 7), .ref (b 8), .ref (b 9), .int 0, .ref (b 11), .int 1, .ref (b 13), .ref (b 14)])), ((b 13), .inl (g.2.1.1, 64, .inl (upd fa 0 0)))] H := hP
  have hD : va_D A [((b 14), .inl (g.2.1.2.1, 64, .inl (upd fp 0 0))), (mm, .inr (2, [.int t, .int 0, .int 0, .ref (b 3), .ref (b 4), .int 0, .ref (b 6), .ref (b 7), .ref (b 8), .ref (b 9), .int 0, .ref (b 11), .int 1, .ref (b 13), .ref (b 14)])), ((b 13), .inl (g.2.1.1, 64, .inl (upd fa 0 0)))] := hD
  refine lv_iinc (v := 1) (lv' := [(1, .int 1), (0, .ref mm)]) hx hb dX2_findPreferred_21 hl (k := 0) rfl (by decide) (by decide) rfl (fun ls hl => ?_)
  refine lv_goto (tgt := 6) hx hb dX2_findPreferred_24 (by decide) ?_
  refine lv_iload_n hx hb dX2_findPreferred_6 rfl (lv_at hl 0 rfl) ?_
  refine lv_aload_n hx hb dX2_findPreferred_7 rfl (lv_at hl 1 rfl) ?_
  refine va_get (D := g.1) (ci := 2) (v := .int 1) (C := RX2) (T := TX2) (N := 15) hx hb hts hinX2 hown hK hP 1 rfl rfl 12 (by decide) (hts (.fieldLink RX2 92 "DefaultReasonerModel" "count" "I") (by decide +kernel)) (fun _ h9 => h9) rfl dX2_findPreferred_8 ?_
  refine lv_icmp_ge (tgt := 27) hx hb dX2_findPreferred_11 (by decide) (fun _ => ?_) (fun c9 => absurd (by decide) c9)
  refine lv_bipush (v := 6) hx hb dX2_findPreferred_27 (by decide) ?_
  refine g_newa (a0 := (6, .inl (fun _ => 0))) (atype := .int) (ty := .int) (N' := 6) hx hb (hts (.arrayClass .int) (by decide +kernel)) rfl hK 0 rfl (fun _ h => h) hP hD hS hA (fun z => by rw [vp_cell_i]; rfl) (by decide) (by decide) (by decide) (Nat.le_of_ble_eq_true rfl) (Nat.le_of_ble_eq_true rfl) dX2_findPreferred_29 (fun qa2 H hP hD hS => ?_)
  have hP : va_P g.1 vwCl [((b 14), .inl (g.2.1.2.1, 64, .inl (upd fp 0 0))), (mm, .inr (2, [.int t, .int 0, .int 0, .ref (b 3), .ref (b 4), .int 0, .ref (b 6), .ref (b 7), .ref (b 8), .ref (b 9), .int 0, .ref (b 11), .int 1, .ref (b 13), .ref (b 14)])), ((b 13), .inl (g.2.1.1, 64, .inl (upd fa 0 0))), (qa2, .inl (g.2.1.1, 6, .inl (fun _ => 0)))] H := hP
  have hD : va_D A [((b 14), .inl (g.2.1.2.1, 64, .inl (upd fp 0 0))), (mm, .inr (2, [.int t, .int 0, .int 0, .ref (b 3), .ref (b 4), .int 0, .ref (b 6), .ref (b 7), .ref (b 8), .ref (b 9), .int 0, .ref (b 11), .int 1, .ref (b 13), .ref (b 14)])), ((b 13), .inl (g.2.1.1, 64, .inl (upd fa 0 0))), (qa2, .inl (g.2.1.1, 6, .inl (fun _ => 0)))] := hD
  refine lv_astore_n (lv' := [(1, .ref qa2), (0, .ref mm)]) hx hb dX2_findPreferred_31 rfl hl (by decide) rfl (fun ls hl => ?_)
  refine lv_iconst (v := 0) hx hb dX2_findPreferred_32 (by decide) ?_
  refine lv_istore_n (lv' := [(2, .int 0), (1, .ref qa2), (0, .ref mm)]) hx hb dX2_findPreferred_33 rfl hl (by decide) rfl (fun ls hl => ?_)
  refine lv_iload_n hx hb dX2_findPreferred_34 rfl (lv_at hl 0 rfl) ?_
  refine lv_aload_n hx hb dX2_findPreferred_35 rfl (lv_at hl 2 rfl) ?_
  refine gj_i (wc := [(mm, .inr (2, [.int t, .int 0, .int 0, .ref (b 3), .ref (b 4), .int 0, .ref (b 6), .ref (b 7), .ref (b 8), .ref (b 9), .int 0, .ref (b 11), .int 1, .ref (b 13), .ref (b 14)]))]) (wr := [((b 14), .inl (g.2.1.2.1, 64, .inl (upd fp 0 0))), ((b 13), .inl (g.2.1.1, 64, .inl (upd fa 0 0))), (qa2, .inl (g.2.1.1, 6, .inl (fun _ => 0)))]) (gr_V (n := 0) ⟨hx, hb, hml, hown, hts⟩ (c_X2_orders l g H.size mm b t 1) gX2_findPreferred_X2_orders rfl rfl rfl (by decide +kernel) ⟨Nat.le_of_ble_eq_true rfl, Nat.le_of_ble_eq_true rfl⟩ (gp_V hK hE hA hP hD hS [1] rfl (by decide) rfl (q0 := 0) rfl rfl) rfl hl.1 rfl (Nat.le_of_ble_eq_true rfl) dX2_findPreferred_36 ⟨Nat.le_of_ble_eq_true rfl, Nat.le_of_ble_eq_true rfl⟩) hP hD hS hA [1] [0, 2, 3] rfl rfl (by decide) (by decide) (fun r3 u3 H locs hp3 hP hD hS => ?_)
  have hP : va_P g.1 vwCl [((b 14), .inl (g.2.1.2.1, 64, .inl (upd fp 0 0))), ((b 13), .inl (g.2.1.1, 64, .inl (upd fa 0 0))), (qa2, .inl (g.2.1.1, 6, .inl (fun _ => 0))), (mm, .inr (2, [.int t, .int 0, .int 0, .ref (b 3), .ref (b 4), .int 0, .ref (b 6), .ref (b 7), .ref (b 8), .ref (b 9), .int 0, .ref (b 11), .int 1, .ref (b 13), .ref (b 14)]))] H := hP
  have hD : va_D A [((b 14), .inl (g.2.1.2.1, 64, .inl (upd fp 0 0))), ((b 13), .inl (g.2.1.1, 64, .inl (upd fa 0 0))), (qa2, .inl (g.2.1.1, 6, .inl (fun _ => 0))), (mm, .inr (2, [.int t, .int 0, .int 0, .ref (b 3), .ref (b 4), .int 0, .ref (b 6), .ref (b 7), .ref (b 8), .ref (b 9), .int 0, .ref (b 11), .int 1, .ref (b 13), .ref (b 14)]))] := hD
  have hp3 : r3 = 1 := hp3.trans (by decide)
  subst hp3
  refine lv_icmp_ge (tgt := 126) hx hb dX2_findPreferred_39 (by decide) (fun c9 => absurd c9 (by decide)) (fun _ => ?_)
  refine lv_aload_n hx hb dX2_findPreferred_42 rfl (lv_at hl 2 rfl) ?_
  refine lv_aload_n hx hb dX2_findPreferred_43 rfl (lv_at hl 1 rfl) ?_
  refine lv_iload_n hx hb dX2_findPreferred_44 rfl (lv_at hl 0 rfl) ?_
  refine gj_v (wc := [(mm, .inr (2, [.int t, .int 0, .int 0, .ref (b 3), .ref (b 4), .int 0, .ref (b 6), .ref (b 7), .ref (b 8), .ref (b 9), .int 0, .ref (b 11), .int 1, .ref (b 13), .ref (b 14)]))]) (wr := [((b 14), .inl (g.2.1.2.1, 64, .inl (upd fp 0 0))), ((b 13), .inl (g.2.1.1, 64, .inl (upd fa 0 0))), (qa2, .inl (g.2.1.1, 6, .inl (fun _ => 0)))]) (gr_V (n := 2) ⟨hx, hb, hml, hown, hts⟩ (c_X2_setOrder l g H.size mm b t 1 qa2 0) gX2_findPreferred_X2_setOrder rfl rfl rfl (by decide +kernel) ⟨Nat.le_of_ble_eq_true rfl, Nat.le_of_ble_eq_true rfl⟩ (gp_V hK hE hA hP hD hS [3] rfl (by decide) rfl (q0 := 0) rfl rfl) rfl hl.1 rfl (Nat.le_of_ble_eq_true rfl) dX2_findPreferred_45 ⟨Nat.le_of_ble_eq_true rfl, Nat.le_of_ble_eq_true rfl⟩) hP hD hS hA [3] [0, 1, 2] rfl rfl (by decide) (by decide) (fun u4 H locs hp4 hP hD hS => ?_)
  have hP : va_P g.1 vwCl [((b 14), .inl (g.2.1.2.1, 64, .inl (upd fp 0 0))), ((b 13), .inl (g.2.1.1, 64, .inl (upd fa 0 0))), (qa2, .inl (g.2.1.1, 6, .inl (fun _ => 0))), (mm, .inr (2, [.int t, .int 0, .int 0, .ref (b 3), .ref (b 4), .int 0, .ref (b 6), .ref (b 7), .ref (b 8), .ref (b 9), .int 0, .ref (b 11), .int 1, .ref (b 13), .ref (b 14)]))] H := hP
  have hD : va_D A [((b 14), .inl (g.2.1.2.1, 64, .inl (upd fp 0 0))), ((b 13), .inl (g.2.1.1, 64, .inl (upd fa 0 0))), (qa2, .inl (g.2.1.1, 6, .inl (fun _ => 0))), (mm, .inr (2, [.int t, .int 0, .int 0, .ref (b 3), .ref (b 4), .int 0, .ref (b 6), .ref (b 7), .ref (b 8), .ref (b 9), .int 0, .ref (b 11), .int 1, .ref (b 13), .ref (b 14)]))] := hD
  refine lv_aload_n hx hb dX2_findPreferred_48 rfl (lv_at hl 2 rfl) ?_
  refine lv_aload_n hx hb dX2_findPreferred_49 rfl (lv_at hl 1 rfl) ?_
  refine gj_i (wc := [(mm, .inr (2, [.int t, .int 0, .int 0, .ref (b 3), .ref (b 4), .int 0, .ref (b 6), .ref (b 7), .ref (b 8), .ref (b 9), .int 0, .ref (b 11), .int 1, .ref (b 13), .ref (b 14)]))]) (wr := [((b 14), .inl (g.2.1.2.1, 64, .inl (upd fp 0 0))), ((b 13), .inl (g.2.1.1, 64, .inl (upd fa 0 0))), (qa2, .inl (g.2.1.1, 6, .inl (fun _ => 0)))]) (gr_V (n := 1) ⟨hx, hb, hml, hown, hts⟩ (c_X2_respects l g H.size mm b t 1 qa2) gX2_findPreferred_X2_respects rfl rfl rfl (by decide +kernel) ⟨Nat.le_of_ble_eq_true rfl, Nat.le_of_ble_eq_true rfl⟩ (gp_V hK hE hA hP hD hS [3] rfl (by decide) rfl (q0 := 0) rfl rfl) rfl hl.1 rfl (Nat.le_of_ble_eq_true rfl) dX2_findPreferred_50 ⟨Nat.le_of_ble_eq_true rfl, Nat.le_of_ble_eq_true rfl⟩) hP hD hS hA [3] [0, 1, 2] rfl rfl (by decide) (by decide) (fun r5 u5 H locs hp5 hP hD hS => ?_)
  have hP : va_P g.1 vwCl [((b 14), .inl (g.2.1.2.1, 64, .inl (upd fp 0 0))), ((b 13), .inl (g.2.1.1, 64, .inl (upd fa 0 0))), (qa2, .inl (g.2.1.1, 6, .inl (fun _ => 0))), (mm, .inr (2, [.int t, .int 0, .int 0, .ref (b 3), .ref (b 4), .int 0, .ref (b 6), .ref (b 7), .ref (b 8), .ref (b 9), .int 0, .ref (b 11), .int 1, .ref (b 13), .ref (b 14)]))] H := hP
  have hD : va_D A [((b 14), .inl (g.2.1.2.1, 64, .inl (upd fp 0 0))), ((b 13), .inl (g.2.1.1, 64, .inl (upd fa 0 0))), (qa2, .inl (g.2.1.1, 6, .inl (fun _ => 0))), (mm, .inr (2, [.int t, .int 0, .int 0, .ref (b 3), .ref (b 4), .int 0, .ref (b 6), .ref (b 7), .ref (b 8), .ref (b 9), .int 0, .ref (b 11), .int 1, .ref (b 13), .ref (b 14)]))] := hD
  have hp5 : r5 = 1 := hp5.trans (by decide)
  subst hp5
  refine lv_if_ne (tgt := 59) hx hb dX2_findPreferred_53 (by decide) (fun _ => ?_) (fun c9 => absurd c9 (by decide))
  refine lv_aload_n hx hb dX2_findPreferred_59 rfl (lv_at hl 2 rfl) ?_
  refine lv_aload_n hx hb dX2_findPreferred_60 rfl (lv_at hl 1 rfl) ?_
  refine lv_bipush (v := 7) hx hb dX2_findPreferred_61 (by decide) ?_
  refine g_newa (a0 := (7, .inl (fun _ => 0))) (atype := .int) (ty := .int) (N' := 7) hx hb (hts (.arrayClass .int) (by decide +kernel)) rfl hK 0 rfl (fun _ h => h) hP hD hS hA (fun z => by rw [vp_cell_i]; rfl) (by decide) (by decide) (by decide) (Nat.le_of_ble_eq_true rfl) (Nat.le_of_ble_eq_true rfl) dX2_findPreferred_63 (fun qa6 H hP hD hS => ?_)
  have hP : va_P g.1 vwCl [((b 14), .inl (g.2.1.2.1, 64, .inl (upd fp 0 0))), ((b 13), .inl (g.2.1.1, 64, .inl (upd fa 0 0))), (qa2, .inl (g.2.1.1, 6, .inl (fun _ => 0))), (mm, .inr (2, [.int t, .int 0, .int 0, .ref (b 3), .ref (b 4), .int 0, .ref (b 6), .ref (b 7), .ref (b 8), .ref (b 9), .int 0, .ref (b 11), .int 1, .ref (b 13), .ref (b 14)])), (qa6, .inl (g.2.1.1, 7, .inl (fun _ => 0)))] H := hP
  have hD : va_D A [((b 14), .inl (g.2.1.2.1, 64, .inl (upd fp 0 0))), ((b 13), .inl (g.2.1.1, 64, .inl (upd fa 0 0))), (qa2, .inl (g.2.1.1, 6, .inl (fun _ => 0))), (mm, .inr (2, [.int t, .int 0, .int 0, .ref (b 3), .ref (b 4), .int 0, .ref (b 6), .ref (b 7), .ref (b 8), .ref (b 9), .int 0, .ref (b 11), .int 1, .ref (b 13), .ref (b 14)])), (qa6, .inl (g.2.1.1, 7, .inl (fun _ => 0)))] := hD
  refine gj_i (wc := [(mm, .inr (2, [.int t, .int 0, .int 0, .ref (b 3), .ref (b 4), .int 0, .ref (b 6), .ref (b 7), .ref (b 8), .ref (b 9), .int 0, .ref (b 11), .int 1, .ref (b 13), .ref (b 14)]))]) (wr := [((b 14), .inl (g.2.1.2.1, 64, .inl (upd fp 0 0))), ((b 13), .inl (g.2.1.1, 64, .inl (upd fa 0 0))), (qa2, .inl (g.2.1.1, 6, .inl (fun _ => 0))), (qa6, .inl (g.2.1.1, 7, .inl (fun _ => 0)))]) (gr_V (n := 2) ⟨hx, hb, hml, hown, hts⟩ (c_X2_walk l g H.size mm b t 1 qa2 qa6) gX2_findPreferred_X2_walk rfl rfl rfl (by decide +kernel) ⟨Nat.le_of_ble_eq_true rfl, Nat.le_of_ble_eq_true rfl⟩ (gp_V hK hE hA hP hD hS [3] rfl (by decide) rfl (q0 := 0) rfl rfl) rfl hl.1 rfl (Nat.le_of_ble_eq_true rfl) dX2_findPreferred_65 ⟨Nat.le_of_ble_eq_true rfl, Nat.le_of_ble_eq_true rfl⟩) hP hD hS hA [3] [0, 1, 2, 4] rfl rfl (by decide) (by decide) (fun r7 u7 H locs hp7 hP hD hS => ?_)
  have hP : va_P g.1 vwCl [((b 14), .inl (g.2.1.2.1, 64, .inl (upd fp 0 0))), ((b 13), .inl (g.2.1.1, 64, .inl (upd fa 0 0))), (qa2, .inl (g.2.1.1, 6, .inl (fun _ => 0))), (qa6, .inl (g.2.1.1, 7, .inl (fun _ => 0))), (mm, .inr (2, [.int t, .int 0, .int 0, .ref (b 3), .ref (b 4), .int 0, .ref (b 6), .ref (b 7), .ref (b 8), .ref (b 9), .int 0, .ref (b 11), .int 1, .ref (b 13), .ref (b 14)]))] H := hP
  have hD : va_D A [((b 14), .inl (g.2.1.2.1, 64, .inl (upd fp 0 0))), ((b 13), .inl (g.2.1.1, 64, .inl (upd fa 0 0))), (qa2, .inl (g.2.1.1, 6, .inl (fun _ => 0))), (qa6, .inl (g.2.1.1, 7, .inl (fun _ => 0))), (mm, .inr (2, [.int t, .int 0, .int 0, .ref (b 3), .ref (b 4), .int 0, .ref (b 6), .ref (b 7), .ref (b 8), .ref (b 9), .int 0, .ref (b 11), .int 1, .ref (b 13), .ref (b 14)]))] := hD
  have hp7 : r7 = 0 := hp7.trans (by decide)
  subst hp7
  refine lv_istore_n (lv' := [(3, .int 0), (2, .int 0), (1, .ref qa2), (0, .ref mm)]) hx hb dX2_findPreferred_68 rfl hl (by decide) rfl (fun ls hl => ?_)
  refine lv_iconst (v := 0) hx hb dX2_findPreferred_69 (by decide) ?_
  refine lv_istore (lv' := [(4, .int 0), (3, .int 0), (2, .int 0), (1, .ref qa2), (0, .ref mm)]) hx hb dX2_findPreferred_70 hl (by decide) rfl (fun ls hl => ?_)
  refine lv_iload hx hb dX2_findPreferred_72 (lv_at hl 0 rfl) ?_
  refine lv_aload_n hx hb dX2_findPreferred_74 rfl (lv_at hl 4 rfl) ?_
  refine va_get (D := g.1) (ci := 2) (v := .int 1) (C := RX2) (T := TX2) (N := 15) hx hb hts hinX2 hown hK hP 4 rfl rfl 12 (by decide) (hts (.fieldLink RX2 92 "DefaultReasonerModel" "count" "I") (by decide +kernel)) (fun _ h9 => h9) rfl dX2_findPreferred_75 ?_
  refine lv_icmp_ge (tgt := 120) hx hb dX2_findPreferred_78 (by decide) (fun c9 => absurd c9 (by decide)) (fun _ => ?_)
  refine lv_aload_n hx hb dX2_findPreferred_81 rfl (lv_at hl 4 rfl) ?_
  refine va_get (D := g.1) (ci := 2) (v := .ref (b 14)) (C := RX2) (T := TX2) (N := 15) hx hb hts hinX2 hown hK hP 4 rfl rfl 14 (by decide) (hts (.fieldLink RX2 35 "DefaultReasonerModel" "arePreferred" "[Z") (by decide +kernel)) (fun _ h9 => h9) rfl dX2_findPreferred_82 ?_
  refine lv_iload hx hb dX2_findPreferred_85 (lv_at hl 0 rfl) ?_
  refine lv_aload_n hx hb dX2_findPreferred_87 rfl (lv_at hl 4 rfl) ?_
  refine va_get (D := g.1) (ci := 2) (v := .ref (b 14)) (C := RX2) (T := TX2) (N := 15) hx hb hts hinX2 hown hK hP 4 rfl rfl 14 (by decide) (hts (.fieldLink RX2 35 "DefaultReasonerModel" "arePreferred" "[Z") (by decide +kernel)) (fun _ h9 => h9) rfl dX2_findPreferred_88 ?_
  refine lv_iload hx hb dX2_findPreferred_91 (lv_at hl 0 rfl) ?_
  refine va_zald hx hb hK hP 0 1 rfl rfl (by unfold vp_in; decide) dX2_findPreferred_93 ?_
  refine sy_i (y := 0) (rfl) ?_
  refine lv_if_ne (tgt := 108) hx hb dX2_findPreferred_94 (by decide) (fun c9 => absurd (by decide) c9) (fun _ => ?_)
  refine lv_aload_n hx hb dX2_findPreferred_97 rfl (lv_at hl 4 rfl) ?_
  refine va_get (D := g.1) (ci := 2) (v := .ref (b 13)) (C := RX2) (T := TX2) (N := 15) hx hb hts hinX2 hown hK hP 4 rfl rfl 13 (by decide) (hts (.fieldLink RX2 32 "DefaultReasonerModel" "all" "[I") (by decide +kernel)) (fun _ h9 => h9) rfl dX2_findPreferred_98 ?_
  refine lv_iload hx hb dX2_findPreferred_101 (lv_at hl 0 rfl) ?_
  refine va_iald hx hb hK hP 1 0 rfl rfl (by unfold vp_in; decide) dX2_findPreferred_103 ?_
  refine sy_i (y := 0) (rfl) ?_
  refine lv_iload_n hx hb dX2_findPreferred_104 rfl (lv_at hl 1 rfl) ?_
  refine lv_icmp_ne (tgt := 112) hx hb dX2_findPreferred_105 (by decide) (fun c9 => absurd (by decide) c9) (fun _ => ?_)
  refine lv_iconst (v := 1) hx hb dX2_findPreferred_108 (by decide) ?_
  refine lv_goto (tgt := 113) hx hb dX2_findPreferred_109 (by decide) ?_
  refine va_zast hx hb hK hP hD hS 0 1 rfl rfl (by unfold vp_in; decide) dX2_findPreferred_113 (fun H locs hP hD hS => ?_)
  have hP : va_P g.1 vwCl [((b 14), .inl (g.2.1.2.1, 64, .inl (upd (upd fp 0 0) 0 1))), ((b 13), .inl (g.2.1.1, 64, .inl (upd fa 0 0))), (qa2, .inl (g.2.1.1, 6, .inl (fun _ => 0))), (qa6, .inl (g.2.1.1, 7, .inl (fun _ => 0))), (mm, .inr (2, [.int t, .int 0, .int 0, .ref (b 3), .ref (b 4), .int 0, .ref (b 6), .ref (b 7), .ref (b 8), .ref (b 9), .int 0, .ref (b 11), .int 1, .ref (b 13), .ref (b 14)]))] H := hP
  have hD : va_D A [((b 14), .inl (g.2.1.2.1, 64, .inl (upd (upd fp 0 0) 0 1))), ((b 13), .inl (g.2.1.1, 64, .inl (upd fa 0 0))), (qa2, .inl (g.2.1.1, 6, .inl (fun _ => 0))), (qa6, .inl (g.2.1.1, 7, .inl (fun _ => 0))), (mm, .inr (2, [.int t, .int 0, .int 0, .ref (b 3), .ref (b 4), .int 0, .ref (b 6), .ref (b 7), .ref (b 8), .ref (b 9), .int 0, .ref (b 11), .int 1, .ref (b 13), .ref (b 14)]))] := hD
  refine lv_iinc (v := 1) (lv' := [(4, .int 1), (3, .int 0), (2, .int 0), (1, .ref qa2), (0, .ref mm)]) hx hb dX2_findPreferred_114 hl (k := 0) rfl (by decide) (by decide) rfl (fun ls hl => ?_)
  refine lv_goto (tgt := 72) hx hb dX2_findPreferred_117 (by decide) ?_
  refine lv_iload hx hb dX2_findPreferred_72 (lv_at hl 0 rfl) ?_
  refine lv_aload_n hx hb dX2_findPreferred_74 rfl (lv_at hl 4 rfl) ?_
  refine va_get (D := g.1) (ci := 2) (v := .int 1) (C := RX2) (T := TX2) (N := 15) hx hb hts hinX2 hown hK hP 4 rfl rfl 12 (by decide) (hts (.fieldLink RX2 92 "DefaultReasonerModel" "count" "I") (by decide +kernel)) (fun _ h9 => h9) rfl dX2_findPreferred_75 ?_
  refine lv_icmp_ge (tgt := 120) hx hb dX2_findPreferred_78 (by decide) (fun _ => ?_) (fun c9 => absurd (by decide) c9)
  refine lv_iinc (v := 1) (lv' := [(2, .int 1), (4, .int 1), (3, .int 0), (1, .ref qa2), (0, .ref mm)]) hx hb dX2_findPreferred_120 hl (k := 2) rfl (by decide) (by decide) rfl (fun ls hl => ?_)
  refine lv_goto (tgt := 34) hx hb dX2_findPreferred_123 (by decide) ?_
  refine lv_iload_n hx hb dX2_findPreferred_34 rfl (lv_at hl 0 rfl) ?_
  refine lv_aload_n hx hb dX2_findPreferred_35 rfl (lv_at hl 4 rfl) ?_
  refine gj_i (wc := [(mm, .inr (2, [.int t, .int 0, .int 0, .ref (b 3), .ref (b 4), .int 0, .ref (b 6), .ref (b 7), .ref (b 8), .ref (b 9), .int 0, .ref (b 11), .int 1, .ref (b 13), .ref (b 14)]))]) (wr := [((b 14), .inl (g.2.1.2.1, 64, .inl (upd (upd fp 0 0) 0 1))), ((b 13), .inl (g.2.1.1, 64, .inl (upd fa 0 0))), (qa2, .inl (g.2.1.1, 6, .inl (fun _ => 0))), (qa6, .inl (g.2.1.1, 7, .inl (fun _ => 0)))]) (gr_V (n := 0) ⟨hx, hb, hml, hown, hts⟩ (c_X2_orders l g H.size mm b t 1) gX2_findPreferred_X2_orders rfl rfl rfl (by decide +kernel) ⟨Nat.le_of_ble_eq_true rfl, Nat.le_of_ble_eq_true rfl⟩ (gp_V hK hE hA hP hD hS [4] rfl (by decide) rfl (q0 := 0) rfl rfl) rfl hl.1 rfl (Nat.le_of_ble_eq_true rfl) dX2_findPreferred_36 ⟨Nat.le_of_ble_eq_true rfl, Nat.le_of_ble_eq_true rfl⟩) hP hD hS hA [4] [0, 1, 2, 3] rfl rfl (by decide) (by decide) (fun r8 u8 H locs hp8 hP hD hS => ?_)
  have hP : va_P g.1 vwCl [((b 14), .inl (g.2.1.2.1, 64, .inl (upd (upd fp 0 0) 0 1))), ((b 13), .inl (g.2.1.1, 64, .inl (upd fa 0 0))), (qa2, .inl (g.2.1.1, 6, .inl (fun _ => 0))), (qa6, .inl (g.2.1.1, 7, .inl (fun _ => 0))), (mm, .inr (2, [.int t, .int 0, .int 0, .ref (b 3), .ref (b 4), .int 0, .ref (b 6), .ref (b 7), .ref (b 8), .ref (b 9), .int 0, .ref (b 11), .int 1, .ref (b 13), .ref (b 14)]))] H := hP
  have hD : va_D A [((b 14), .inl (g.2.1.2.1, 64, .inl (upd (upd fp 0 0) 0 1))), ((b 13), .inl (g.2.1.1, 64, .inl (upd fa 0 0))), (qa2, .inl (g.2.1.1, 6, .inl (fun _ => 0))), (qa6, .inl (g.2.1.1, 7, .inl (fun _ => 0))), (mm, .inr (2, [.int t, .int 0, .int 0, .ref (b 3), .ref (b 4), .int 0, .ref (b 6), .ref (b 7), .ref (b 8), .ref (b 9), .int 0, .ref (b 11), .int 1, .ref (b 13), .ref (b 14)]))] := hD
  have hp8 : r8 = 1 := hp8.trans (by decide)
  subst hp8
  refine lv_icmp_ge (tgt := 126) hx hb dX2_findPreferred_39 (by decide) (fun _ => ?_) (fun c9 => absurd (by decide) c9)
  exact g_vr hx hb hr hlocks hP hD hS () [4, 1, 0] rfl (by decide) rfl dX2_findPreferred_126 (Nat.le_of_ble_eq_true rfl) (Nat.le_of_ble_eq_true rfl) (trivial)
set_option maxHeartbeats 4000000 in
set_option maxRecDepth 100000 in
theorem c_X2_asks (l : Launch) (g : gG) (sz : Nat) (mm : Nat) (b : Nat → Nat) (x : Int32) : gMi l yX2_asks wsX2_asks ({ frames := 5, cells := 0, slots := 0, locals := 115 } : Room) g [.ref mm, .int x] [(mm, .inr (2, [.int 0, .int 0, .int 0, .ref (b 3), .ref (b 4), .int 0, .ref (b 6), .ref (b 7), .ref (b 8), .ref (b 9), .int 0, .ref (b 11), .int 0, .ref (b 13), .ref (b 14)])), ((b 13), .inl (g.2.1.1, 64, .inl (fun _ => 0)))] sz (fun (r : Int32) (u : Int32) => r = 1 ∧ u = 0 ∧ gNil x ∨ r = 0 ∧ u = 1 ∧ ¬ gNil x) (fun (u : Int32) => [(mm, .inr (2, [.int u, .int 0, .int 0, .ref (b 3), .ref (b 4), .int 0, .ref (b 6), .ref (b 7), .ref (b 8), .ref (b 9), .int 0, .ref (b 11), .int 1, .ref (b 13), .ref (b 14)])), ((b 13), .inl (g.2.1.1, 64, .inl (upd (fun _ => 0) 0 0)))]) 0 0 := by
  refine g_of (l := l) (y := yX2_asks) (wy := wsX2_asks) (rm := ({ frames := 5, cells := 0, slots := 0, locals := 115 } : Room)) (g := g) (av := [.ref mm, .int x]) (ws := [(mm, .inr (2, [.int 0, .int 0, .int 0, .ref (b 3), .ref (b 4), .int 0, .ref (b 6), .ref (b 7), .ref (b 8), .ref (b 9), .int 0, .ref (b 11), .int 0, .ref (b 13), .ref (b 14)])), ((b 13), .inl (g.2.1.1, 64, .inl (fun _ => 0)))]) (sz := sz) (mc := 0) (ms := 0) (Qc := fun A => va_Qi (fun (r : Int32) (u : Int32) => r = 1 ∧ u = 0 ∧ gNil x ∨ r = 0 ∧ u = 1 ∧ ¬ gNil x) (fun u t9 => gPost g A ((fun (u : Int32) => [(mm, .inr (2, [.int u, .int 0, .int 0, .ref (b 3), .ref (b 4), .int 0, .ref (b 6), .ref (b 7), .ref (b 8), .ref (b 9), .int 0, .ref (b 11), .int 1, .ref (b 13), .ref (b 14)])), ((b 13), .inl (g.2.1.1, 64, .inl (upd (fun _ => 0) 0 0)))]) u) t9) A) (cc := cX2_asks) (maxL := 2) (ret := some .boolean) (by decide) rfl (Nat.le_of_ble_eq_true rfl) ?_
  intro p e s m below meth c A ls hx hb hr hml hown hts hlocks hnm hA hK hE hP hD hS hl
  have hl : lv_has ls 2 [(0, .ref mm), (1, .int x)] := hl
  have hown : s.vm.findClass RX2 = some m.cls := hown
  have hP : va_P g.1 vwCl [(mm, .inr (2, [.int 0, .int 0, .int 0, .ref (b 3), .ref (b 4), .int 0, .ref (b 6), .ref (b 7), .ref (b 8), .ref (b 9), .int 0, .ref (b 11), .int 0, .ref (b 13), .ref (b 14)])), ((b 13), .inl (g.2.1.1, 64, .inl (fun _ => 0)))] s.heap := hP
  have hinX2 : ∀ w ∈ u_ws RX2 TX2 15, w ∈ wsX2_asks := by decide +kernel
  refine lv_aload_n hx hb dX2_asks_0 rfl (lv_at hl 0 rfl) ?_
  refine gj_v (wc := [(mm, .inr (2, [.int 0, .int 0, .int 0, .ref (b 3), .ref (b 4), .int 0, .ref (b 6), .ref (b 7), .ref (b 8), .ref (b 9), .int 0, .ref (b 11), .int 0, .ref (b 13), .ref (b 14)])), ((b 13), .inl (g.2.1.1, 64, .inl (fun _ => 0)))]) (wr := []) (gr_V (n := 0) ⟨hx, hb, hml, hown, hts⟩ (c_X2_find l g s.heap.size mm b 0 0 (fun _ => 0)) gX2_asks_X2_find rfl rfl rfl (by decide +kernel) ⟨Nat.le_of_ble_eq_true rfl, Nat.le_of_ble_eq_true rfl⟩ (gp_V hK hE hA hP hD hS [0, 1] rfl (by decide) rfl (q0 := 0) rfl rfl) rfl hl.1 rfl (Nat.le_of_ble_eq_true rfl) dX2_asks_1 ⟨Nat.le_of_ble_eq_true rfl, Nat.le_of_ble_eq_true rfl⟩) hP hD hS hA [0, 1] [] rfl rfl (by decide) (by decide) (fun u1 H locs hp1 hP hD hS => ?_)
  have hP : va_P g.1 vwCl [(mm, .inr (2, [.int 0, .int 0, .int 0, .ref (b 3), .ref (b 4), .int 0, .ref (b 6), .ref (b 7), .ref (b 8), .ref (b 9), .int 0, .ref (b 11), .int 1, .ref (b 13), .ref (b 14)])), ((b 13), .inl (g.2.1.1, 64, .inl (upd (fun _ => 0) 0 0)))] H := hP
  have hD : va_D A [(mm, .inr (2, [.int 0, .int 0, .int 0, .ref (b 3), .ref (b 4), .int 0, .ref (b 6), .ref (b 7), .ref (b 8), .ref (b 9), .int 0, .ref (b 11), .int 1, .ref (b 13), .ref (b 14)])), ((b 13), .inl (g.2.1.1, 64, .inl (upd (fun _ => 0) 0 0)))] := hD
  refine lv_aload_n hx hb dX2_asks_4 rfl (lv_at hl 0 rfl) ?_
  refine lv_iload_n hx hb dX2_asks_5 rfl (lv_at hl 1 rfl) ?_
  refine lv_if_lt (tgt := 21) hx hb dX2_asks_6 (by decide) (fun c6 => ?_) (fun c6 => ?_)
  · refine lv_iconst (v := 1) hx hb dX2_asks_21 (by decide) ?_
    refine va_put (D := g.1) (ci := 2) (v := .int 1) (ty := .int) (C := RX2) (T := TX2) (N := 15) hx hb hts hinX2 tyX2 tyX2_ok nmX2 hown hK hP hD hS 0 rfl rfl 0 (by decide) (hts (.fieldLink RX2 38 "DefaultReasonerModel" "thrown" "I") (by decide +kernel)) (fun _ h9 => h9) rfl (by decide +kernel) rfl rfl (Nat.le_of_ble_eq_true rfl) dX2_asks_22 (fun H locs hP hD hS => ?_)
    have hP : va_P g.1 vwCl [(mm, .inr (2, [.int 1, .int 0, .int 0, .ref (b 3), .ref (b 4), .int 0, .ref (b 6), .ref (b 7), .ref (b 8), .ref (b 9), .int 0, .ref (b 11), .int 1, .ref (b 13), .ref (b 14)])), ((b 13), .inl (g.2.1.1, 64, .inl (upd (fun _ => 0) 0 0)))] H := hP
    have hD : va_D A [(mm, .inr (2, [.int 1, .int 0, .int 0, .ref (b 3), .ref (b 4), .int 0, .ref (b 6), .ref (b 7), .ref (b 8), .ref (b 9), .int 0, .ref (b 11), .int 1, .ref (b 13), .ref (b 14)])), ((b 13), .inl (g.2.1.1, 64, .inl (upd (fun _ => 0) 0 0)))] := hD
    refine lv_aload_n hx hb dX2_asks_25 rfl (lv_at hl 0 rfl) ?_
    refine va_get (D := g.1) (ci := 2) (v := .int 1) (C := RX2) (T := TX2) (N := 15) hx hb hts hinX2 hown hK hP 0 rfl rfl 0 (by decide) (hts (.fieldLink RX2 38 "DefaultReasonerModel" "thrown" "I") (by decide +kernel)) (fun _ h9 => h9) rfl dX2_asks_26 ?_
    refine lv_if_ne (tgt := 36) hx hb dX2_asks_29 (by decide) (fun _ => ?_) (fun c9 => absurd c9 (by decide))
    refine lv_iconst (v := 0) hx hb dX2_asks_36 (by decide) ?_
    exact g_zr hx hb hr hlocks hP hD hS 1 [0, 1] rfl (by decide) rfl dX2_asks_37 (Nat.le_of_ble_eq_true rfl) (Nat.le_of_ble_eq_true rfl) (Or.inl rfl) (Or.inr ⟨rfl, rfl, fun h => h.1 c6⟩)
  · refine lv_iload_n hx hb dX2_asks_9 rfl (lv_at hl 1 rfl) ?_
    refine lv_aload_n hx hb dX2_asks_10 rfl (lv_at hl 0 rfl) ?_
    refine va_get (D := g.1) (ci := 2) (v := .int 1) (C := RX2) (T := TX2) (N := 15) hx hb hts hinX2 hown hK hP 0 rfl rfl 12 (by decide) (hts (.fieldLink RX2 92 "DefaultReasonerModel" "count" "I") (by decide +kernel)) (fun _ h9 => h9) rfl dX2_asks_11 ?_
    refine lv_icmp_ge (tgt := 21) hx hb dX2_asks_14 (by decide) (fun c14 => ?_) (fun c14 => ?_)
    · refine lv_iconst (v := 1) hx hb dX2_asks_21 (by decide) ?_
      refine va_put (D := g.1) (ci := 2) (v := .int 1) (ty := .int) (C := RX2) (T := TX2) (N := 15) hx hb hts hinX2 tyX2 tyX2_ok nmX2 hown hK hP hD hS 0 rfl rfl 0 (by decide) (hts (.fieldLink RX2 38 "DefaultReasonerModel" "thrown" "I") (by decide +kernel)) (fun _ h9 => h9) rfl (by decide +kernel) rfl rfl (Nat.le_of_ble_eq_true rfl) dX2_asks_22 (fun H locs hP hD hS => ?_)
      have hP : va_P g.1 vwCl [(mm, .inr (2, [.int 1, .int 0, .int 0, .ref (b 3), .ref (b 4), .int 0, .ref (b 6), .ref (b 7), .ref (b 8), .ref (b 9), .int 0, .ref (b 11), .int 1, .ref (b 13), .ref (b 14)])), ((b 13), .inl (g.2.1.1, 64, .inl (upd (fun _ => 0) 0 0)))] H := hP
      have hD : va_D A [(mm, .inr (2, [.int 1, .int 0, .int 0, .ref (b 3), .ref (b 4), .int 0, .ref (b 6), .ref (b 7), .ref (b 8), .ref (b 9), .int 0, .ref (b 11), .int 1, .ref (b 13), .ref (b 14)])), ((b 13), .inl (g.2.1.1, 64, .inl (upd (fun _ => 0) 0 0)))] := hD
      refine lv_aload_n hx hb dX2_asks_25 rfl (lv_at hl 0 rfl) ?_
      refine va_get (D := g.1) (ci := 2) (v := .int 1) (C := RX2) (T := TX2) (N := 15) hx hb hts hinX2 hown hK hP 0 rfl rfl 0 (by decide) (hts (.fieldLink RX2 38 "DefaultReasonerModel" "thrown" "I") (by decide +kernel)) (fun _ h9 => h9) rfl dX2_asks_26 ?_
      refine lv_if_ne (tgt := 36) hx hb dX2_asks_29 (by decide) (fun _ => ?_) (fun c9 => absurd c9 (by decide))
      refine lv_iconst (v := 0) hx hb dX2_asks_36 (by decide) ?_
      exact g_zr hx hb hr hlocks hP hD hS 1 [0, 1] rfl (by decide) rfl dX2_asks_37 (Nat.le_of_ble_eq_true rfl) (Nat.le_of_ble_eq_true rfl) (Or.inl rfl) (Or.inr ⟨rfl, rfl, fun h => Int32.not_le.mpr h.2 c14⟩)
    · refine lv_iconst (v := 0) hx hb dX2_asks_17 (by decide) ?_
      refine lv_goto (tgt := 22) hx hb dX2_asks_18 (by decide) ?_
      refine va_put (D := g.1) (ci := 2) (v := .int 0) (ty := .int) (C := RX2) (T := TX2) (N := 15) hx hb hts hinX2 tyX2 tyX2_ok nmX2 hown hK hP hD hS 0 rfl rfl 0 (by decide) (hts (.fieldLink RX2 38 "DefaultReasonerModel" "thrown" "I") (by decide +kernel)) (fun _ h9 => h9) rfl (by decide +kernel) rfl rfl (Nat.le_of_ble_eq_true rfl) dX2_asks_22 (fun H locs hP hD hS => ?_)
      have hP : va_P g.1 vwCl [(mm, .inr (2, [.int 0, .int 0, .int 0, .ref (b 3), .ref (b 4), .int 0, .ref (b 6), .ref (b 7), .ref (b 8), .ref (b 9), .int 0, .ref (b 11), .int 1, .ref (b 13), .ref (b 14)])), ((b 13), .inl (g.2.1.1, 64, .inl (upd (fun _ => 0) 0 0)))] H := hP
      have hD : va_D A [(mm, .inr (2, [.int 0, .int 0, .int 0, .ref (b 3), .ref (b 4), .int 0, .ref (b 6), .ref (b 7), .ref (b 8), .ref (b 9), .int 0, .ref (b 11), .int 1, .ref (b 13), .ref (b 14)])), ((b 13), .inl (g.2.1.1, 64, .inl (upd (fun _ => 0) 0 0)))] := hD
      refine lv_aload_n hx hb dX2_asks_25 rfl (lv_at hl 0 rfl) ?_
      refine va_get (D := g.1) (ci := 2) (v := .int 0) (C := RX2) (T := TX2) (N := 15) hx hb hts hinX2 hown hK hP 0 rfl rfl 0 (by decide) (hts (.fieldLink RX2 38 "DefaultReasonerModel" "thrown" "I") (by decide +kernel)) (fun _ h9 => h9) rfl dX2_asks_26 ?_
      refine lv_if_ne (tgt := 36) hx hb dX2_asks_29 (by decide) (fun c9 => absurd (by decide) c9) (fun _ => ?_)
      refine lv_iconst (v := 1) hx hb dX2_asks_32 (by decide) ?_
      refine lv_goto (tgt := 37) hx hb dX2_asks_33 (by decide) ?_
      exact g_zr hx hb hr hlocks hP hD hS 0 [0, 1] rfl (by decide) rfl dX2_asks_37 (Nat.le_of_ble_eq_true rfl) (Nat.le_of_ble_eq_true rfl) (Or.inr rfl) (Or.inl ⟨rfl, rfl, c6, Int32.not_le.mp c14⟩)
set_option maxHeartbeats 4000000 in
set_option maxRecDepth 100000 in
theorem c_X2_preferred (l : Launch) (g : gG) (sz : Nat) (mm : Nat) (b : Nat → Nat) (t : Int32) : gMi l yX2_preferred wsX2_preferred ({ frames := 6, cells := 3, slots := 19, locals := 139 } : Room) g [.ref mm] [(mm, .inr (2, [.int t, .int 0, .int 0, .ref (b 3), .ref (b 4), .int 0, .ref (b 6), .ref (b 7), .ref (b 8), .ref (b 9), .int 0, .ref (b 11), .int 0, .ref (b 13), .ref (b 14)])), ((b 13), .inl (g.2.1.1, 64, .inl (fun _ => 0))), ((b 14), .inl (g.2.1.2.1, 64, .inl (fun _ => 0)))] sz (fun (r : Int32) (u : Unit) => r = 1) (fun (u : Unit) => [(mm, .inr (2, [.int t, .int 0, .int 0, .ref (b 3), .ref (b 4), .int 0, .ref (b 6), .ref (b 7), .ref (b 8), .ref (b 9), .int 0, .ref (b 11), .int 1, .ref (b 13), .ref (b 14)])), ((b 13), .inl (g.2.1.1, 64, .inl (upd (fun _ => 0) 0 0))), ((b 14), .inl (g.2.1.2.1, 64, .inl (upd (upd (fun _ => 0) 0 0) 0 1)))]) 3 19 := by
  refine g_of (l := l) (y := yX2_preferred) (wy := wsX2_preferred) (rm := ({ frames := 6, cells := 3, slots := 19, locals := 139 } : Room)) (g := g) (av := [.ref mm]) (ws := [(mm, .inr (2, [.int t, .int 0, .int 0, .ref (b 3), .ref (b 4), .int 0, .ref (b 6), .ref (b 7), .ref (b 8), .ref (b 9), .int 0, .ref (b 11), .int 0, .ref (b 13), .ref (b 14)])), ((b 13), .inl (g.2.1.1, 64, .inl (fun _ => 0))), ((b 14), .inl (g.2.1.2.1, 64, .inl (fun _ => 0)))]) (sz := sz) (mc := 3) (ms := 19) (Qc := fun A => va_Qi (fun (r : Int32) (u : Unit) => r = 1) (fun u t9 => gPost g A ((fun (u : Unit) => [(mm, .inr (2, [.int t, .int 0, .int 0, .ref (b 3), .ref (b 4), .int 0, .ref (b 6), .ref (b 7), .ref (b 8), .ref (b 9), .int 0, .ref (b 11), .int 1, .ref (b 13), .ref (b 14)])), ((b 13), .inl (g.2.1.1, 64, .inl (upd (fun _ => 0) 0 0))), ((b 14), .inl (g.2.1.2.1, 64, .inl (upd (upd (fun _ => 0) 0 0) 0 1)))]) u) t9) A) (cc := cX2_preferred) (maxL := 3) (ret := some .int) (by decide) rfl (Nat.le_of_ble_eq_true rfl) ?_
  intro p e s m below meth c A ls hx hb hr hml hown hts hlocks hnm hA hK hE hP hD hS hl
  have hl : lv_has ls 3 [(0, .ref mm)] := hl
  have hown : s.vm.findClass RX2 = some m.cls := hown
  have hP : va_P g.1 vwCl [(mm, .inr (2, [.int t, .int 0, .int 0, .ref (b 3), .ref (b 4), .int 0, .ref (b 6), .ref (b 7), .ref (b 8), .ref (b 9), .int 0, .ref (b 11), .int 0, .ref (b 13), .ref (b 14)])), ((b 13), .inl (g.2.1.1, 64, .inl (fun _ => 0))), ((b 14), .inl (g.2.1.2.1, 64, .inl (fun _ => 0)))] s.heap := hP
  have hinX2 : ∀ w ∈ u_ws RX2 TX2 15, w ∈ wsX2_preferred := by decide +kernel
  refine lv_aload_n hx hb dX2_preferred_0 rfl (lv_at hl 0 rfl) ?_
  refine gj_v (wc := [(mm, .inr (2, [.int t, .int 0, .int 0, .ref (b 3), .ref (b 4), .int 0, .ref (b 6), .ref (b 7), .ref (b 8), .ref (b 9), .int 0, .ref (b 11), .int 0, .ref (b 13), .ref (b 14)])), ((b 13), .inl (g.2.1.1, 64, .inl (fun _ => 0))), ((b 14), .inl (g.2.1.2.1, 64, .inl (fun _ => 0)))]) (wr := []) (gr_V (n := 0) ⟨hx, hb, hml, hown, hts⟩ (c_X2_findPreferred l g s.heap.size mm b t 0 (fun _ => 0) (fun _ => 0)) gX2_preferred_X2_findPreferred rfl rfl rfl (by decide +kernel) ⟨Nat.le_of_ble_eq_true rfl, Nat.le_of_ble_eq_true rfl⟩ (gp_V hK hE hA hP hD hS [0, 1, 2] rfl (by decide) rfl (q0 := 0) rfl rfl) rfl hl.1 rfl (Nat.le_of_ble_eq_true rfl) dX2_preferred_1 ⟨Nat.le_of_ble_eq_true rfl, Nat.le_of_ble_eq_true rfl⟩) hP hD hS hA [0, 1, 2] [] rfl rfl (by decide) (by decide) (fun u1 H locs hp1 hP hD hS => ?_)
  have hP : va_P g.1 vwCl [(mm, .inr (2, [.int t, .int 0, .int 0, .ref (b 3), .ref (b 4), .int 0, .ref (b 6), .ref (b 7), .ref (b 8), .ref (b 9), .int 0, .ref (b 11), .int 1, .ref (b 13), .ref (b 14)])), ((b 13), .inl (g.2.1.1, 64, .inl (upd (fun _ => 0) 0 0))), ((b 14), .inl (g.2.1.2.1, 64, .inl (upd (upd (fun _ => 0) 0 0) 0 1)))] H := hP
  have hD : va_D A [(mm, .inr (2, [.int t, .int 0, .int 0, .ref (b 3), .ref (b 4), .int 0, .ref (b 6), .ref (b 7), .ref (b 8), .ref (b 9), .int 0, .ref (b 11), .int 1, .ref (b 13), .ref (b 14)])), ((b 13), .inl (g.2.1.1, 64, .inl (upd (fun _ => 0) 0 0))), ((b 14), .inl (g.2.1.2.1, 64, .inl (upd (upd (fun _ => 0) 0 0) 0 1)))] := hD
  refine lv_iconst (v := 0) hx hb dX2_preferred_4 (by decide) ?_
  refine lv_istore_n (lv' := [(1, .int 0), (0, .ref mm)]) hx hb dX2_preferred_5 rfl hl (by decide) rfl (fun ls hl => ?_)
  refine lv_iconst (v := 0) hx hb dX2_preferred_6 (by decide) ?_
  refine lv_istore_n (lv' := [(2, .int 0), (1, .int 0), (0, .ref mm)]) hx hb dX2_preferred_7 rfl hl (by decide) rfl (fun ls hl => ?_)
  refine lv_iload_n hx hb dX2_preferred_8 rfl (lv_at hl 0 rfl) ?_
  refine lv_aload_n hx hb dX2_preferred_9 rfl (lv_at hl 2 rfl) ?_
  refine va_get (D := g.1) (ci := 2) (v := .int 1) (C := RX2) (T := TX2) (N := 15) hx hb hts hinX2 hown hK hP 0 rfl rfl 12 (by decide) (hts (.fieldLink RX2 92 "DefaultReasonerModel" "count" "I") (by decide +kernel)) (fun _ h9 => h9) rfl dX2_preferred_10 ?_
  refine lv_icmp_ge (tgt := 39) hx hb dX2_preferred_13 (by decide) (fun c9 => absurd c9 (by decide)) (fun _ => ?_)
  refine lv_iload_n hx hb dX2_preferred_16 rfl (lv_at hl 1 rfl) ?_
  refine lv_aload_n hx hb dX2_preferred_17 rfl (lv_at hl 2 rfl) ?_
  refine va_get (D := g.1) (ci := 2) (v := .ref (b 14)) (C := RX2) (T := TX2) (N := 15) hx hb hts hinX2 hown hK hP 0 rfl rfl 14 (by decide) (hts (.fieldLink RX2 35 "DefaultReasonerModel" "arePreferred" "[Z") (by decide +kernel)) (fun _ h9 => h9) rfl dX2_preferred_18 ?_
  refine lv_iload_n hx hb dX2_preferred_21 rfl (lv_at hl 0 rfl) ?_
  refine va_zald hx hb hK hP 2 1 rfl rfl (by unfold vp_in; decide) dX2_preferred_22 ?_
  refine sy_i (y := 1) (rfl) ?_
  refine lv_if_eq (tgt := 30) hx hb dX2_preferred_23 (by decide) (fun c9 => absurd c9 (by decide)) (fun _ => ?_)
  refine lv_iconst (v := 1) hx hb dX2_preferred_26 (by decide) ?_
  refine lv_goto (tgt := 31) hx hb dX2_preferred_27 (by decide) ?_
  refine lv_iadd hx hb dX2_preferred_31 ?_
  refine sy_i (y := 1) (by decide) ?_
  refine lv_istore_n (lv' := [(1, .int 1), (2, .int 0), (0, .ref mm)]) hx hb dX2_preferred_32 rfl hl (by decide) rfl (fun ls hl => ?_)
  refine lv_iinc (v := 1) (lv' := [(2, .int 1), (1, .int 1), (0, .ref mm)]) hx hb dX2_preferred_33 hl (k := 1) rfl (by decide) (by decide) rfl (fun ls hl => ?_)
  refine lv_goto (tgt := 8) hx hb dX2_preferred_36 (by decide) ?_
  refine lv_iload_n hx hb dX2_preferred_8 rfl (lv_at hl 0 rfl) ?_
  refine lv_aload_n hx hb dX2_preferred_9 rfl (lv_at hl 2 rfl) ?_
  refine va_get (D := g.1) (ci := 2) (v := .int 1) (C := RX2) (T := TX2) (N := 15) hx hb hts hinX2 hown hK hP 0 rfl rfl 12 (by decide) (hts (.fieldLink RX2 92 "DefaultReasonerModel" "count" "I") (by decide +kernel)) (fun _ h9 => h9) rfl dX2_preferred_10 ?_
  refine lv_icmp_ge (tgt := 39) hx hb dX2_preferred_13 (by decide) (fun _ => ?_) (fun c9 => absurd (by decide) c9)
  refine lv_iload_n hx hb dX2_preferred_39 rfl (lv_at hl 1 rfl) ?_
  exact g_ir hx hb hr hlocks hP hD hS () [0, 1, 2] rfl (by decide) rfl dX2_preferred_40 (Nat.le_of_ble_eq_true rfl) (Nat.le_of_ble_eq_true rfl) (rfl)
set_option maxHeartbeats 4000000 in
set_option maxRecDepth 100000 in
theorem c_X2_isOrder (l : Launch) (g : gG) (sz : Nat) (mm : Nat) (b : Nat → Nat) (x : Int32) : gMi l yX2_isOrder wsX2_isOrder ({ frames := 1, cells := 0, slots := 0, locals := 22 } : Room) g [.ref mm, .int x] [(mm, .inr (2, [.int 0, .int 0, .int 0, .ref (b 3), .ref (b 4), .int 0, .ref (b 6), .ref (b 7), .ref (b 8), .ref (b 9), .int 0, .ref (b 11), .int 0, .ref (b 13), .ref (b 14)]))] sz (fun (r : Int32) (u : Int32) => r = 1 ∧ u = 0 ∧ gNil x ∨ r = 0 ∧ u = 1 ∧ ¬ gNil x) (fun (u : Int32) => [(mm, .inr (2, [.int u, .int 0, .int 0, .ref (b 3), .ref (b 4), .int 0, .ref (b 6), .ref (b 7), .ref (b 8), .ref (b 9), .int 0, .ref (b 11), .int 0, .ref (b 13), .ref (b 14)]))]) 0 0 := by
  refine g_of (l := l) (y := yX2_isOrder) (wy := wsX2_isOrder) (rm := ({ frames := 1, cells := 0, slots := 0, locals := 22 } : Room)) (g := g) (av := [.ref mm, .int x]) (ws := [(mm, .inr (2, [.int 0, .int 0, .int 0, .ref (b 3), .ref (b 4), .int 0, .ref (b 6), .ref (b 7), .ref (b 8), .ref (b 9), .int 0, .ref (b 11), .int 0, .ref (b 13), .ref (b 14)]))]) (sz := sz) (mc := 0) (ms := 0) (Qc := fun A => va_Qi (fun (r : Int32) (u : Int32) => r = 1 ∧ u = 0 ∧ gNil x ∨ r = 0 ∧ u = 1 ∧ ¬ gNil x) (fun u t9 => gPost g A ((fun (u : Int32) => [(mm, .inr (2, [.int u, .int 0, .int 0, .ref (b 3), .ref (b 4), .int 0, .ref (b 6), .ref (b 7), .ref (b 8), .ref (b 9), .int 0, .ref (b 11), .int 0, .ref (b 13), .ref (b 14)]))]) u) t9) A) (cc := cX2_isOrder) (maxL := 2) (ret := some .boolean) (by decide) rfl (Nat.le_of_ble_eq_true rfl) ?_
  intro p e s m below meth c A ls hx hb hr hml hown hts hlocks hnm hA hK hE hP hD hS hl
  have hl : lv_has ls 2 [(0, .ref mm), (1, .int x)] := hl
  have hown : s.vm.findClass RX2 = some m.cls := hown
  have hP : va_P g.1 vwCl [(mm, .inr (2, [.int 0, .int 0, .int 0, .ref (b 3), .ref (b 4), .int 0, .ref (b 6), .ref (b 7), .ref (b 8), .ref (b 9), .int 0, .ref (b 11), .int 0, .ref (b 13), .ref (b 14)]))] s.heap := hP
  have hinX2 : ∀ w ∈ u_ws RX2 TX2 15, w ∈ wsX2_isOrder := by decide +kernel
  refine lv_aload_n hx hb dX2_isOrder_0 rfl (lv_at hl 0 rfl) ?_
  refine lv_iload_n hx hb dX2_isOrder_1 rfl (lv_at hl 1 rfl) ?_
  refine lv_if_lt (tgt := 17) hx hb dX2_isOrder_2 (by decide) (fun c2 => ?_) (fun c2 => ?_)
  · refine lv_iconst (v := 1) hx hb dX2_isOrder_17 (by decide) ?_
    refine va_put (D := g.1) (ci := 2) (v := .int 1) (ty := .int) (C := RX2) (T := TX2) (N := 15) hx hb hts hinX2 tyX2 tyX2_ok nmX2 hown hK hP hD hS 0 rfl rfl 0 (by decide) (hts (.fieldLink RX2 38 "DefaultReasonerModel" "thrown" "I") (by decide +kernel)) (fun _ h9 => h9) rfl (by decide +kernel) rfl rfl (Nat.le_of_ble_eq_true rfl) dX2_isOrder_18 (fun H locs hP hD hS => ?_)
    have hP : va_P g.1 vwCl [(mm, .inr (2, [.int 1, .int 0, .int 0, .ref (b 3), .ref (b 4), .int 0, .ref (b 6), .ref (b 7), .ref (b 8), .ref (b 9), .int 0, .ref (b 11), .int 0, .ref (b 13), .ref (b 14)]))] H := hP
    have hD : va_D A [(mm, .inr (2, [.int 1, .int 0, .int 0, .ref (b 3), .ref (b 4), .int 0, .ref (b 6), .ref (b 7), .ref (b 8), .ref (b 9), .int 0, .ref (b 11), .int 0, .ref (b 13), .ref (b 14)]))] := hD
    refine lv_aload_n hx hb dX2_isOrder_21 rfl (lv_at hl 0 rfl) ?_
    refine va_get (D := g.1) (ci := 2) (v := .int 1) (C := RX2) (T := TX2) (N := 15) hx hb hts hinX2 hown hK hP 0 rfl rfl 0 (by decide) (hts (.fieldLink RX2 38 "DefaultReasonerModel" "thrown" "I") (by decide +kernel)) (fun _ h9 => h9) rfl dX2_isOrder_22 ?_
    refine lv_if_ne (tgt := 32) hx hb dX2_isOrder_25 (by decide) (fun _ => ?_) (fun c9 => absurd c9 (by decide))
    refine lv_iconst (v := 0) hx hb dX2_isOrder_32 (by decide) ?_
    exact g_zr hx hb hr hlocks hP hD hS 1 [0] rfl (by decide) rfl dX2_isOrder_33 (Nat.le_of_ble_eq_true rfl) (Nat.le_of_ble_eq_true rfl) (Or.inl rfl) (Or.inr ⟨rfl, rfl, fun h => h.1 c2⟩)
  · refine lv_iload_n hx hb dX2_isOrder_5 rfl (lv_at hl 1 rfl) ?_
    refine lv_aload_n hx hb dX2_isOrder_6 rfl (lv_at hl 0 rfl) ?_
    refine gj_i (wc := [(mm, .inr (2, [.int 0, .int 0, .int 0, .ref (b 3), .ref (b 4), .int 0, .ref (b 6), .ref (b 7), .ref (b 8), .ref (b 9), .int 0, .ref (b 11), .int 0, .ref (b 13), .ref (b 14)]))]) (wr := []) (gr_V (n := 0) ⟨hx, hb, hml, hown, hts⟩ (c_X2_orders l g s.heap.size mm b 0 0) gX2_isOrder_X2_orders rfl rfl rfl (by decide +kernel) ⟨Nat.le_of_ble_eq_true rfl, Nat.le_of_ble_eq_true rfl⟩ (gp_V hK hE hA hP hD hS [0] rfl (by decide) rfl (q0 := 0) rfl rfl) rfl hl.1 rfl (Nat.le_of_ble_eq_true rfl) dX2_isOrder_7 ⟨Nat.le_of_ble_eq_true rfl, Nat.le_of_ble_eq_true rfl⟩) hP hD hS hA [0] [] rfl rfl (by decide) (by decide) (fun r1 u1 H locs hp1 hP hD hS => ?_)
    have hP : va_P g.1 vwCl [(mm, .inr (2, [.int 0, .int 0, .int 0, .ref (b 3), .ref (b 4), .int 0, .ref (b 6), .ref (b 7), .ref (b 8), .ref (b 9), .int 0, .ref (b 11), .int 0, .ref (b 13), .ref (b 14)]))] H := hP
    have hD : va_D A [(mm, .inr (2, [.int 0, .int 0, .int 0, .ref (b 3), .ref (b 4), .int 0, .ref (b 6), .ref (b 7), .ref (b 8), .ref (b 9), .int 0, .ref (b 11), .int 0, .ref (b 13), .ref (b 14)]))] := hD
    have hp1 : r1 = 1 := hp1.trans (by decide)
    subst hp1
    refine lv_icmp_ge (tgt := 17) hx hb dX2_isOrder_10 (by decide) (fun c10 => ?_) (fun c10 => ?_)
    · refine lv_iconst (v := 1) hx hb dX2_isOrder_17 (by decide) ?_
      refine va_put (D := g.1) (ci := 2) (v := .int 1) (ty := .int) (C := RX2) (T := TX2) (N := 15) hx hb hts hinX2 tyX2 tyX2_ok nmX2 hown hK hP hD hS 0 rfl rfl 0 (by decide) (hts (.fieldLink RX2 38 "DefaultReasonerModel" "thrown" "I") (by decide +kernel)) (fun _ h9 => h9) rfl (by decide +kernel) rfl rfl (Nat.le_of_ble_eq_true rfl) dX2_isOrder_18 (fun H locs hP hD hS => ?_)
      have hP : va_P g.1 vwCl [(mm, .inr (2, [.int 1, .int 0, .int 0, .ref (b 3), .ref (b 4), .int 0, .ref (b 6), .ref (b 7), .ref (b 8), .ref (b 9), .int 0, .ref (b 11), .int 0, .ref (b 13), .ref (b 14)]))] H := hP
      have hD : va_D A [(mm, .inr (2, [.int 1, .int 0, .int 0, .ref (b 3), .ref (b 4), .int 0, .ref (b 6), .ref (b 7), .ref (b 8), .ref (b 9), .int 0, .ref (b 11), .int 0, .ref (b 13), .ref (b 14)]))] := hD
      refine lv_aload_n hx hb dX2_isOrder_21 rfl (lv_at hl 0 rfl) ?_
      refine va_get (D := g.1) (ci := 2) (v := .int 1) (C := RX2) (T := TX2) (N := 15) hx hb hts hinX2 hown hK hP 0 rfl rfl 0 (by decide) (hts (.fieldLink RX2 38 "DefaultReasonerModel" "thrown" "I") (by decide +kernel)) (fun _ h9 => h9) rfl dX2_isOrder_22 ?_
      refine lv_if_ne (tgt := 32) hx hb dX2_isOrder_25 (by decide) (fun _ => ?_) (fun c9 => absurd c9 (by decide))
      refine lv_iconst (v := 0) hx hb dX2_isOrder_32 (by decide) ?_
      exact g_zr hx hb hr hlocks hP hD hS 1 [0] rfl (by decide) rfl dX2_isOrder_33 (Nat.le_of_ble_eq_true rfl) (Nat.le_of_ble_eq_true rfl) (Or.inl rfl) (Or.inr ⟨rfl, rfl, fun h => Int32.not_le.mpr h.2 c10⟩)
    · refine lv_iconst (v := 0) hx hb dX2_isOrder_13 (by decide) ?_
      refine lv_goto (tgt := 18) hx hb dX2_isOrder_14 (by decide) ?_
      refine va_put (D := g.1) (ci := 2) (v := .int 0) (ty := .int) (C := RX2) (T := TX2) (N := 15) hx hb hts hinX2 tyX2 tyX2_ok nmX2 hown hK hP hD hS 0 rfl rfl 0 (by decide) (hts (.fieldLink RX2 38 "DefaultReasonerModel" "thrown" "I") (by decide +kernel)) (fun _ h9 => h9) rfl (by decide +kernel) rfl rfl (Nat.le_of_ble_eq_true rfl) dX2_isOrder_18 (fun H locs hP hD hS => ?_)
      have hP : va_P g.1 vwCl [(mm, .inr (2, [.int 0, .int 0, .int 0, .ref (b 3), .ref (b 4), .int 0, .ref (b 6), .ref (b 7), .ref (b 8), .ref (b 9), .int 0, .ref (b 11), .int 0, .ref (b 13), .ref (b 14)]))] H := hP
      have hD : va_D A [(mm, .inr (2, [.int 0, .int 0, .int 0, .ref (b 3), .ref (b 4), .int 0, .ref (b 6), .ref (b 7), .ref (b 8), .ref (b 9), .int 0, .ref (b 11), .int 0, .ref (b 13), .ref (b 14)]))] := hD
      refine lv_aload_n hx hb dX2_isOrder_21 rfl (lv_at hl 0 rfl) ?_
      refine va_get (D := g.1) (ci := 2) (v := .int 0) (C := RX2) (T := TX2) (N := 15) hx hb hts hinX2 hown hK hP 0 rfl rfl 0 (by decide) (hts (.fieldLink RX2 38 "DefaultReasonerModel" "thrown" "I") (by decide +kernel)) (fun _ h9 => h9) rfl dX2_isOrder_22 ?_
      refine lv_if_ne (tgt := 32) hx hb dX2_isOrder_25 (by decide) (fun c9 => absurd (by decide) c9) (fun _ => ?_)
      refine lv_iconst (v := 1) hx hb dX2_isOrder_28 (by decide) ?_
      refine lv_goto (tgt := 33) hx hb dX2_isOrder_29 (by decide) ?_
      exact g_zr hx hb hr hlocks hP hD hS 0 [0] rfl (by decide) rfl dX2_isOrder_33 (Nat.le_of_ble_eq_true rfl) (Nat.le_of_ble_eq_true rfl) (Or.inr rfl) (Or.inl ⟨rfl, rfl, c2, Int32.not_le.mp c10⟩)
