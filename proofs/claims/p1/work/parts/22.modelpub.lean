set_option maxHeartbeats 4000000 in
set_option maxRecDepth 100000 in
theorem c_X2_setFact (l : Launch) (g : gG) (sz : Nat) (mm : Nat) (b : Nat → Nat) (x y : Int32) : gMi l yX2_setFact wsX2_setFact ({ frames := 1, cells := 0, slots := 0, locals := 20 } : Room) g [.ref mm, .int x, .int y] [(mm, .inr (2, [.int 0, .int 0, .int 0, .ref (b 3), .ref (b 4), .int 0, .ref (b 6), .ref (b 7), .ref (b 8), .ref (b 9), .int 0, .ref (b 11), .int 0, .ref (b 13), .ref (b 14)]))] sz (fun (r : Int32) (u : (Int32 × List Value)) => u.1 = 0 ∧ gLit x ∧ r = 0 ∨ u.1 = 1 ∧ ¬ gLit x) (fun (u : (Int32 × List Value)) => [(mm, .inr (2, .int u.1 :: u.2))]) 0 0 := by
  refine g_of (l := l) (y := yX2_setFact) (wy := wsX2_setFact) (rm := ({ frames := 1, cells := 0, slots := 0, locals := 20 } : Room)) (g := g) (av := [.ref mm, .int x, .int y]) (ws := [(mm, .inr (2, [.int 0, .int 0, .int 0, .ref (b 3), .ref (b 4), .int 0, .ref (b 6), .ref (b 7), .ref (b 8), .ref (b 9), .int 0, .ref (b 11), .int 0, .ref (b 13), .ref (b 14)]))]) (sz := sz) (mc := 0) (ms := 0) (Qc := fun A => va_Qi (fun (r : Int32) (u : (Int32 × List Value)) => u.1 = 0 ∧ gLit x ∧ r = 0 ∨ u.1 = 1 ∧ ¬ gLit x) (fun u t9 => gPost g A ((fun (u : (Int32 × List Value)) => [(mm, .inr (2, .int u.1 :: u.2))]) u) t9) A) (cc := cX2_setFact) (maxL := 4) (ret := some .boolean) (by decide) rfl (Nat.le_of_ble_eq_true rfl) ?_
  intro p e s m below meth c A ls hx hb hr hml hown hts hlocks hnm hA hK hE hP hD hS hl
  have hl : lv_has ls 4 [(0, .ref mm), (1, .int x), (2, .int y)] := hl
  have hown : s.vm.findClass RX2 = some m.cls := hown
  have hP : va_P g.1 vwCl [(mm, .inr (2, [.int 0, .int 0, .int 0, .ref (b 3), .ref (b 4), .int 0, .ref (b 6), .ref (b 7), .ref (b 8), .ref (b 9), .int 0, .ref (b 11), .int 0, .ref (b 13), .ref (b 14)]))] s.heap := hP
  have hinX2 : ∀ w ∈ u_ws RX2 TX2 15, w ∈ wsX2_setFact := by decide +kernel
  refine lv_aload_n hx hb dX2_setFact_0 rfl (lv_at hl 0 rfl) ?_
  refine lv_iload_n hx hb dX2_setFact_1 rfl (lv_at hl 1 rfl) ?_
  refine gj_i (wc := []) (wr := [(mm, .inr (2, [.int 0, .int 0, .int 0, .ref (b 3), .ref (b 4), .int 0, .ref (b 6), .ref (b 7), .ref (b 8), .ref (b 9), .int 0, .ref (b 11), .int 0, .ref (b 13), .ref (b 14)]))]) (gr_S (n := 1) ⟨hx, hb, hml, hown, hts⟩ (c_X2_isLiteral l g s.heap.size x) gX2_setFact_X2_isLiteral rfl rfl rfl (by decide +kernel) ⟨Nat.le_of_ble_eq_true rfl, Nat.le_of_ble_eq_true rfl⟩ (gp_S hK hE hA hP hD hS [] rfl (by decide) rfl) rfl hl.1 rfl (Nat.le_of_ble_eq_true rfl) dX2_setFact_2 ⟨Nat.le_of_ble_eq_true rfl, Nat.le_of_ble_eq_true rfl⟩) hP hD hS hA [] [0] rfl rfl (by decide) (by decide) (fun r1 u1 H locs hp1 hP hD hS => ?_)
  rcases hp1 with ⟨rfl, hf1⟩ | ⟨rfl, hf1⟩
  · have hP : va_P g.1 vwCl [(mm, .inr (2, [.int 0, .int 0, .int 0, .ref (b 3), .ref (b 4), .int 0, .ref (b 6), .ref (b 7), .ref (b 8), .ref (b 9), .int 0, .ref (b 11), .int 0, .ref (b 13), .ref (b 14)]))] H := hP
    have hD : va_D A [(mm, .inr (2, [.int 0, .int 0, .int 0, .ref (b 3), .ref (b 4), .int 0, .ref (b 6), .ref (b 7), .ref (b 8), .ref (b 9), .int 0, .ref (b 11), .int 0, .ref (b 13), .ref (b 14)]))] := hD
    refine lv_if_eq (tgt := 12) hx hb dX2_setFact_5 (by decide) (fun c9 => absurd c9 (by decide)) (fun _ => ?_)
    refine lv_iconst (v := 0) hx hb dX2_setFact_8 (by decide) ?_
    refine lv_goto (tgt := 13) hx hb dX2_setFact_9 (by decide) ?_
    refine va_put (D := g.1) (ci := 2) (v := .int 0) (ty := .int) (C := RX2) (T := TX2) (N := 15) hx hb hts hinX2 tyX2 tyX2_ok nmX2 hown hK hP hD hS 0 rfl rfl 0 (by decide) (hts (.fieldLink RX2 38 "DefaultReasonerModel" "thrown" "I") (by decide +kernel)) (fun _ h9 => h9) rfl (by decide +kernel) rfl rfl (Nat.le_of_ble_eq_true rfl) dX2_setFact_13 (fun H locs hP hD hS => ?_)
    have hP : va_P g.1 vwCl [(mm, .inr (2, [.int 0, .int 0, .int 0, .ref (b 3), .ref (b 4), .int 0, .ref (b 6), .ref (b 7), .ref (b 8), .ref (b 9), .int 0, .ref (b 11), .int 0, .ref (b 13), .ref (b 14)]))] H := hP
    have hD : va_D A [(mm, .inr (2, [.int 0, .int 0, .int 0, .ref (b 3), .ref (b 4), .int 0, .ref (b 6), .ref (b 7), .ref (b 8), .ref (b 9), .int 0, .ref (b 11), .int 0, .ref (b 13), .ref (b 14)]))] := hD
    refine lv_aload_n hx hb dX2_setFact_16 rfl (lv_at hl 0 rfl) ?_
    refine va_get (D := g.1) (ci := 2) (v := .int 0) (C := RX2) (T := TX2) (N := 15) hx hb hts hinX2 hown hK hP 0 rfl rfl 0 (by decide) (hts (.fieldLink RX2 38 "DefaultReasonerModel" "thrown" "I") (by decide +kernel)) (fun _ h9 => h9) rfl dX2_setFact_17 ?_
    refine lv_if_eq (tgt := 25) hx hb dX2_setFact_20 (by decide) (fun _ => ?_) (fun c9 => absurd (by decide) c9)
    refine lv_aload_n hx hb dX2_setFact_25 rfl (lv_at hl 0 rfl) ?_
    refine va_get (D := g.1) (ci := 2) (v := .int 0) (C := RX2) (T := TX2) (N := 15) hx hb hts hinX2 hown hK hP 0 rfl rfl 1 (by decide) (hts (.fieldLink RX2 50 "DefaultReasonerModel" "facts" "I") (by decide +kernel)) (fun _ h9 => h9) rfl dX2_setFact_26 ?_
    refine lv_iload_n hx hb dX2_setFact_29 rfl (lv_at hl 1 rfl) ?_
    refine lv_ishr hx hb dX2_setFact_30 ?_
    refine sy_i (y := 0) (g_shr0 _) ?_
    refine lv_iconst (v := 1) hx hb dX2_setFact_31 (by decide) ?_
    refine lv_iand hx hb dX2_setFact_32 ?_
    refine sy_i (y := 0) (by decide) ?_
    refine lv_iconst (v := 1) hx hb dX2_setFact_33 (by decide) ?_
    refine lv_icmp_ne (tgt := 41) hx hb dX2_setFact_34 (by decide) (fun _ => ?_) (fun c9 => absurd c9 (by decide))
    refine lv_iconst (v := 0) hx hb dX2_setFact_41 (by decide) ?_
    refine lv_istore_n (lv' := [(3, .int 0), (0, .ref mm), (1, .int x), (2, .int y)]) hx hb dX2_setFact_42 rfl hl (by decide) rfl (fun ls hl => ?_)
    refine lv_aload_n hx hb dX2_setFact_43 rfl (lv_at hl 1 rfl) ?_
    refine lv_iload_n hx hb dX2_setFact_44 rfl (lv_at hl 3 rfl) ?_
    refine lv_if_eq (tgt := 59) hx hb dX2_setFact_45 (by decide) (fun c45 => ?_) (fun c45 => ?_)
    · refine lv_aload_n hx hb dX2_setFact_59 rfl (lv_at hl 1 rfl) ?_
      refine va_get (D := g.1) (ci := 2) (v := .int 0) (C := RX2) (T := TX2) (N := 15) hx hb hts hinX2 hown hK hP 0 rfl rfl 1 (by decide) (hts (.fieldLink RX2 50 "DefaultReasonerModel" "facts" "I") (by decide +kernel)) (fun _ h9 => h9) rfl dX2_setFact_60 ?_
      refine lv_iconst (v := 1) hx hb dX2_setFact_63 (by decide) ?_
      refine lv_iload_n hx hb dX2_setFact_64 rfl (lv_at hl 2 rfl) ?_
      refine lv_ishl hx hb dX2_setFact_65 ?_
      refine lv_topi (fun v2 ev2 => ?_)
      refine lv_iconst (v := (-1)) hx hb dX2_setFact_66 (by decide) ?_
      refine lv_ixor hx hb dX2_setFact_67 ?_
      refine lv_topi (fun v3 ev3 => ?_)
      refine lv_iand hx hb dX2_setFact_68 ?_
      refine sy_i (y := 0) (g_and0 _) ?_
      refine va_put (D := g.1) (ci := 2) (v := .int 0) (ty := .int) (C := RX2) (T := TX2) (N := 15) hx hb hts hinX2 tyX2 tyX2_ok nmX2 hown hK hP hD hS 0 rfl rfl 1 (by decide) (hts (.fieldLink RX2 50 "DefaultReasonerModel" "facts" "I") (by decide +kernel)) (fun _ h9 => h9) rfl (by decide +kernel) rfl rfl (Nat.le_of_ble_eq_true rfl) dX2_setFact_69 (fun H locs hP hD hS => ?_)
      have hP : va_P g.1 vwCl [(mm, .inr (2, [.int 0, .int 0, .int 0, .ref (b 3), .ref (b 4), .int 0, .ref (b 6), .ref (b 7), .ref (b 8), .ref (b 9), .int 0, .ref (b 11), .int 0, .ref (b 13), .ref (b 14)]))] H := hP
      have hD : va_D A [(mm, .inr (2, [.int 0, .int 0, .int 0, .ref (b 3), .ref (b 4), .int 0, .ref (b 6), .ref (b 7), .ref (b 8), .ref (b 9), .int 0, .ref (b 11), .int 0, .ref (b 13), .ref (b 14)]))] := hD
      refine lv_iload_n hx hb dX2_setFact_72 rfl (lv_at hl 0 rfl) ?_
      exact g_zr hx hb hr hlocks hP hD hS (0, [.int 0, .int 0, .ref (b 3), .ref (b 4), .int 0, .ref (b 6), .ref (b 7), .ref (b 8), .ref (b 9), .int 0, .ref (b 11), .int 0, .ref (b 13), .ref (b 14)]) [0] rfl (by decide) rfl dX2_setFact_73 (Nat.le_of_ble_eq_true rfl) (Nat.le_of_ble_eq_true rfl) (Or.inl rfl) (Or.inl ⟨rfl, hf1, rfl⟩)
    · refine lv_aload_n hx hb dX2_setFact_48 rfl (lv_at hl 1 rfl) ?_
      refine va_get (D := g.1) (ci := 2) (v := .int 0) (C := RX2) (T := TX2) (N := 15) hx hb hts hinX2 hown hK hP 0 rfl rfl 1 (by decide) (hts (.fieldLink RX2 50 "DefaultReasonerModel" "facts" "I") (by decide +kernel)) (fun _ h9 => h9) rfl dX2_setFact_49 ?_
      refine lv_iconst (v := 1) hx hb dX2_setFact_52 (by decide) ?_
      refine lv_iload_n hx hb dX2_setFact_53 rfl (lv_at hl 2 rfl) ?_
      refine lv_ishl hx hb dX2_setFact_54 ?_
      refine lv_topi (fun v4 ev4 => ?_)
      refine lv_ior hx hb dX2_setFact_55 ?_
      refine lv_topi (fun v5 ev5 => ?_)
      refine lv_goto (tgt := 69) hx hb dX2_setFact_56 (by decide) ?_
      refine va_put (D := g.1) (ci := 2) (v := .int v5) (ty := .int) (C := RX2) (T := TX2) (N := 15) hx hb hts hinX2 tyX2 tyX2_ok nmX2 hown hK hP hD hS 0 rfl rfl 1 (by decide) (hts (.fieldLink RX2 50 "DefaultReasonerModel" "facts" "I") (by decide +kernel)) (fun _ h9 => h9) rfl (by decide +kernel) rfl rfl (Nat.le_of_ble_eq_true rfl) dX2_setFact_69 (fun H locs hP hD hS => ?_)
      have hP : va_P g.1 vwCl [(mm, .inr (2, [.int 0, .int v5, .int 0, .ref (b 3), .ref (b 4), .int 0, .ref (b 6), .ref (b 7), .ref (b 8), .ref (b 9), .int 0, .ref (b 11), .int 0, .ref (b 13), .ref (b 14)]))] H := hP
      have hD : va_D A [(mm, .inr (2, [.int 0, .int v5, .int 0, .ref (b 3), .ref (b 4), .int 0, .ref (b 6), .ref (b 7), .ref (b 8), .ref (b 9), .int 0, .ref (b 11), .int 0, .ref (b 13), .ref (b 14)]))] := hD
      refine lv_iload_n hx hb dX2_setFact_72 rfl (lv_at hl 0 rfl) ?_
      exact g_zr hx hb hr hlocks hP hD hS (0, [.int v5, .int 0, .ref (b 3), .ref (b 4), .int 0, .ref (b 6), .ref (b 7), .ref (b 8), .ref (b 9), .int 0, .ref (b 11), .int 0, .ref (b 13), .ref (b 14)]) [0] rfl (by decide) rfl dX2_setFact_73 (Nat.le_of_ble_eq_true rfl) (Nat.le_of_ble_eq_true rfl) (Or.inl rfl) (Or.inl ⟨rfl, hf1, rfl⟩)
  · have hP : va_P g.1 vwCl [(mm, .inr (2, [.int 0, .int 0, .int 0, .ref (b 3), .ref (b 4), .int 0, .ref (b 6), .ref (b 7), .ref (b 8), .ref (b 9), .int 0, .ref (b 11), .int 0, .ref (b 13), .ref (b 14)]))] H := hP
    have hD : va_D A [(mm, .inr (2, [.int 0, .int 0, .int 0, .ref (b 3), .ref (b 4), .int 0, .ref (b 6), .ref (b 7), .ref (b 8), .ref (b 9), .int 0, .ref (b 11), .int 0, .ref (b 13), .ref (b 14)]))] := hD
    refine lv_if_eq (tgt := 12) hx hb dX2_setFact_5 (by decide) (fun _ => ?_) (fun c9 => absurd (by decide) c9)
    refine lv_iconst (v := 1) hx hb dX2_setFact_12 (by decide) ?_
    refine va_put (D := g.1) (ci := 2) (v := .int 1) (ty := .int) (C := RX2) (T := TX2) (N := 15) hx hb hts hinX2 tyX2 tyX2_ok nmX2 hown hK hP hD hS 0 rfl rfl 0 (by decide) (hts (.fieldLink RX2 38 "DefaultReasonerModel" "thrown" "I") (by decide +kernel)) (fun _ h9 => h9) rfl (by decide +kernel) rfl rfl (Nat.le_of_ble_eq_true rfl) dX2_setFact_13 (fun H locs hP hD hS => ?_)
    have hP : va_P g.1 vwCl [(mm, .inr (2, [.int 1, .int 0, .int 0, .ref (b 3), .ref (b 4), .int 0, .ref (b 6), .ref (b 7), .ref (b 8), .ref (b 9), .int 0, .ref (b 11), .int 0, .ref (b 13), .ref (b 14)]))] H := hP
    have hD : va_D A [(mm, .inr (2, [.int 1, .int 0, .int 0, .ref (b 3), .ref (b 4), .int 0, .ref (b 6), .ref (b 7), .ref (b 8), .ref (b 9), .int 0, .ref (b 11), .int 0, .ref (b 13), .ref (b 14)]))] := hD
    refine lv_aload_n hx hb dX2_setFact_16 rfl (lv_at hl 0 rfl) ?_
    refine va_get (D := g.1) (ci := 2) (v := .int 1) (C := RX2) (T := TX2) (N := 15) hx hb hts hinX2 hown hK hP 0 rfl rfl 0 (by decide) (hts (.fieldLink RX2 38 "DefaultReasonerModel" "thrown" "I") (by decide +kernel)) (fun _ h9 => h9) rfl dX2_setFact_17 ?_
    refine lv_if_eq (tgt := 25) hx hb dX2_setFact_20 (by decide) (fun c9 => absurd c9 (by decide)) (fun _ => ?_)
    refine lv_iconst (v := 0) hx hb dX2_setFact_23 (by decide) ?_
    exact g_zr hx hb hr hlocks hP hD hS (1, [.int 0, .int 0, .ref (b 3), .ref (b 4), .int 0, .ref (b 6), .ref (b 7), .ref (b 8), .ref (b 9), .int 0, .ref (b 11), .int 0, .ref (b 13), .ref (b 14)]) [0] rfl (by decide) rfl dX2_setFact_24 (Nat.le_of_ble_eq_true rfl) (Nat.le_of_ble_eq_true rfl) (Or.inl rfl) (Or.inr ⟨rfl, hf1⟩)
set_option maxHeartbeats 4000000 in
set_option maxRecDepth 100000 in
theorem c_X2_addRule (l : Launch) (g : gG) (sz : Nat) (mm : Nat) (b : Nat → Nat) (x y : Int32) : gMi l yX2_addRule wsX2_addRule ({ frames := 1, cells := 0, slots := 0, locals := 21 } : Room) g [.ref mm, .int x, .int y] [(mm, .inr (2, [.int 0, .int 0, .int 0, .ref (b 3), .ref (b 4), .int 0, .ref (b 6), .ref (b 7), .ref (b 8), .ref (b 9), .int 0, .ref (b 11), .int 0, .ref (b 13), .ref (b 14)])), ((b 3), .inl (g.2.1.1, 16, .inl (fun _ => 0))), ((b 4), .inl (g.2.1.1, 16, .inl (fun _ => 0)))] sz (fun (r : Int32) (u : (Int32 × List Value)) => u.1 = 0 ∧ gLit y ∧ gSet x ∧ r = 0 ∨ u.1 = 1 ∧ ¬ gLit y ∨ u.1 = 2 ∧ gLit y ∧ ¬ gSet x) (fun (u : (Int32 × List Value)) => [(mm, .inr (2, .int u.1 :: u.2))]) 0 0 := by
  refine g_of (l := l) (y := yX2_addRule) (wy := wsX2_addRule) (rm := ({ frames := 1, cells := 0, slots := 0, locals := 21 } : Room)) (g := g) (av := [.ref mm, .int x, .int y]) (ws := [(mm, .inr (2, [.int 0, .int 0, .int 0, .ref (b 3), .ref (b 4), .int 0, .ref (b 6), .ref (b 7), .ref (b 8), .ref (b 9), .int 0, .ref (b 11), .int 0, .ref (b 13), .ref (b 14)])), ((b 3), .inl (g.2.1.1, 16, .inl (fun _ => 0))), ((b 4), .inl (g.2.1.1, 16, .inl (fun _ => 0)))]) (sz := sz) (mc := 0) (ms := 0) (Qc := fun A => va_Qi (fun (r : Int32) (u : (Int32 × List Value)) => u.1 = 0 ∧ gLit y ∧ gSet x ∧ r = 0 ∨ u.1 = 1 ∧ ¬ gLit y ∨ u.1 = 2 ∧ gLit y ∧ ¬ gSet x) (fun u t9 => gPost g A ((fun (u : (Int32 × List Value)) => [(mm, .inr (2, .int u.1 :: u.2))]) u) t9) A) (cc := cX2_addRule) (maxL := 3) (ret := some .int) (by decide) rfl (Nat.le_of_ble_eq_true rfl) ?_
  intro p e s m below meth c A ls hx hb hr hml hown hts hlocks hnm hA hK hE hP hD hS hl
  have hl : lv_has ls 3 [(0, .ref mm), (1, .int x), (2, .int y)] := hl
  have hown : s.vm.findClass RX2 = some m.cls := hown
  have hP : va_P g.1 vwCl [(mm, .inr (2, [.int 0, .int 0, .int 0, .ref (b 3), .ref (b 4), .int 0, .ref (b 6), .ref (b 7), .ref (b 8), .ref (b 9), .int 0, .ref (b 11), .int 0, .ref (b 13), .ref (b 14)])), ((b 3), .inl (g.2.1.1, 16, .inl (fun _ => 0))), ((b 4), .inl (g.2.1.1, 16, .inl (fun _ => 0)))] s.heap := hP
  have hinX2 : ∀ w ∈ u_ws RX2 TX2 15, w ∈ wsX2_addRule := by decide +kernel
  refine lv_aload_n hx hb dX2_addRule_0 rfl (lv_at hl 0 rfl) ?_
  refine lv_iconst (v := 0) hx hb dX2_addRule_1 (by decide) ?_
  refine va_put (D := g.1) (ci := 2) (v := .int 0) (ty := .int) (C := RX2) (T := TX2) (N := 15) hx hb hts hinX2 tyX2 tyX2_ok nmX2 hown hK hP hD hS 0 rfl rfl 0 (by decide) (hts (.fieldLink RX2 38 "DefaultReasonerModel" "thrown" "I") (by decide +kernel)) (fun _ h9 => h9) rfl (by decide +kernel) rfl rfl (Nat.le_of_ble_eq_true rfl) dX2_addRule_2 (fun H locs hP hD hS => ?_)
  have hP : va_P g.1 vwCl [(mm, .inr (2, [.int 0, .int 0, .int 0, .ref (b 3), .ref (b 4), .int 0, .ref (b 6), .ref (b 7), .ref (b 8), .ref (b 9), .int 0, .ref (b 11), .int 0, .ref (b 13), .ref (b 14)])), ((b 3), .inl (g.2.1.1, 16, .inl (fun _ => 0))), ((b 4), .inl (g.2.1.1, 16, .inl (fun _ => 0)))] H := hP
  have hD : va_D A [(mm, .inr (2, [.int 0, .int 0, .int 0, .ref (b 3), .ref (b 4), .int 0, .ref (b 6), .ref (b 7), .ref (b 8), .ref (b 9), .int 0, .ref (b 11), .int 0, .ref (b 13), .ref (b 14)])), ((b 3), .inl (g.2.1.1, 16, .inl (fun _ => 0))), ((b 4), .inl (g.2.1.1, 16, .inl (fun _ => 0)))] := hD
  refine lv_iload_n hx hb dX2_addRule_5 rfl (lv_at hl 2 rfl) ?_
  refine gj_i (wc := []) (wr := [(mm, .inr (2, [.int 0, .int 0, .int 0, .ref (b 3), .ref (b 4), .int 0, .ref (b 6), .ref (b 7), .ref (b 8), .ref (b 9), .int 0, .ref (b 11), .int 0, .ref (b 13), .ref (b 14)])), ((b 3), .inl (g.2.1.1, 16, .inl (fun _ => 0))), ((b 4), .inl (g.2.1.1, 16, .inl (fun _ => 0)))]) (gr_S (n := 1) ⟨hx, hb, hml, hown, hts⟩ (c_X2_isLiteral l g H.size y) gX2_addRule_X2_isLiteral rfl rfl rfl (by decide +kernel) ⟨Nat.le_of_ble_eq_true rfl, Nat.le_of_ble_eq_true rfl⟩ (gp_S hK hE hA hP hD hS [] rfl (by decide) rfl) rfl hl.1 rfl (Nat.le_of_ble_eq_true rfl) dX2_addRule_6 ⟨Nat.le_of_ble_eq_true rfl, Nat.le_of_ble_eq_true rfl⟩) hP hD hS hA [] [0, 1, 2] rfl rfl (by decide) (by decide) (fun r1 u1 H locs hp1 hP hD hS => ?_)
  rcases hp1 with ⟨rfl, hf1⟩ | ⟨rfl, hf1⟩
  · have hP : va_P g.1 vwCl [(mm, .inr (2, [.int 0, .int 0, .int 0, .ref (b 3), .ref (b 4), .int 0, .ref (b 6), .ref (b 7), .ref (b 8), .ref (b 9), .int 0, .ref (b 11), .int 0, .ref (b 13), .ref (b 14)])), ((b 3), .inl (g.2.1.1, 16, .inl (fun _ => 0))), ((b 4), .inl (g.2.1.1, 16, .inl (fun _ => 0)))] H := hP
    have hD : va_D A [(mm, .inr (2, [.int 0, .int 0, .int 0, .ref (b 3), .ref (b 4), .int 0, .ref (b 6), .ref (b 7), .ref (b 8), .ref (b 9), .int 0, .ref (b 11), .int 0, .ref (b 13), .ref (b 14)])), ((b 3), .inl (g.2.1.1, 16, .inl (fun _ => 0))), ((b 4), .inl (g.2.1.1, 16, .inl (fun _ => 0)))] := hD
    refine lv_if_ne (tgt := 18) hx hb dX2_addRule_9 (by decide) (fun _ => ?_) (fun c9 => absurd c9 (by decide))
    refine lv_iload_n hx hb dX2_addRule_18 rfl (lv_at hl 1 rfl) ?_
    refine gj_i (wc := []) (wr := [(mm, .inr (2, [.int 0, .int 0, .int 0, .ref (b 3), .ref (b 4), .int 0, .ref (b 6), .ref (b 7), .ref (b 8), .ref (b 9), .int 0, .ref (b 11), .int 0, .ref (b 13), .ref (b 14)])), ((b 3), .inl (g.2.1.1, 16, .inl (fun _ => 0))), ((b 4), .inl (g.2.1.1, 16, .inl (fun _ => 0)))]) (gr_S (n := 1) ⟨hx, hb, hml, hown, hts⟩ (c_X2_isSet l g H.size x) gX2_addRule_X2_isSet rfl rfl rfl (by decide +kernel) ⟨Nat.le_of_ble_eq_true rfl, Nat.le_of_ble_eq_true rfl⟩ (gp_S hK hE hA hP hD hS [] rfl (by decide) rfl) rfl hl.1 rfl (Nat.le_of_ble_eq_true rfl) dX2_addRule_19 ⟨Nat.le_of_ble_eq_true rfl, Nat.le_of_ble_eq_true rfl⟩) hP hD hS hA [] [0, 1, 2] rfl rfl (by decide) (by decide) (fun r2 u2 H locs hp2 hP hD hS => ?_)
    rcases hp2 with ⟨rfl, hf2⟩ | ⟨rfl, hf2⟩
    · have hP : va_P g.1 vwCl [(mm, .inr (2, [.int 0, .int 0, .int 0, .ref (b 3), .ref (b 4), .int 0, .ref (b 6), .ref (b 7), .ref (b 8), .ref (b 9), .int 0, .ref (b 11), .int 0, .ref (b 13), .ref (b 14)])), ((b 3), .inl (g.2.1.1, 16, .inl (fun _ => 0))), ((b 4), .inl (g.2.1.1, 16, .inl (fun _ => 0)))] H := hP
      have hD : va_D A [(mm, .inr (2, [.int 0, .int 0, .int 0, .ref (b 3), .ref (b 4), .int 0, .ref (b 6), .ref (b 7), .ref (b 8), .ref (b 9), .int 0, .ref (b 11), .int 0, .ref (b 13), .ref (b 14)])), ((b 3), .inl (g.2.1.1, 16, .inl (fun _ => 0))), ((b 4), .inl (g.2.1.1, 16, .inl (fun _ => 0)))] := hD
      refine lv_if_ne (tgt := 31) hx hb dX2_addRule_22 (by decide) (fun _ => ?_) (fun c9 => absurd c9 (by decide))
      refine lv_aload_n hx hb dX2_addRule_31 rfl (lv_at hl 0 rfl) ?_
      refine va_get (D := g.1) (ci := 2) (v := .int 0) (C := RX2) (T := TX2) (N := 15) hx hb hts hinX2 hown hK hP 0 rfl rfl 2 (by decide) (hts (.fieldLink RX2 60 "DefaultReasonerModel" "rules" "I") (by decide +kernel)) (fun _ h9 => h9) rfl dX2_addRule_32 ?_
      refine lv_bipush (v := 16) hx hb dX2_addRule_35 (by decide) ?_
      refine lv_icmp_ne (tgt := 46) hx hb dX2_addRule_37 (by decide) (fun _ => ?_) (fun c9 => absurd c9 (by decide))
      refine lv_aload_n hx hb dX2_addRule_46 rfl (lv_at hl 0 rfl) ?_
      refine va_get (D := g.1) (ci := 2) (v := .ref (b 3)) (C := RX2) (T := TX2) (N := 15) hx hb hts hinX2 hown hK hP 0 rfl rfl 3 (by decide) (hts (.fieldLink RX2 9 "DefaultReasonerModel" "bodies" "[I") (by decide +kernel)) (fun _ h9 => h9) rfl dX2_addRule_47 ?_
      refine lv_aload_n hx hb dX2_addRule_50 rfl (lv_at hl 0 rfl) ?_
      refine va_get (D := g.1) (ci := 2) (v := .int 0) (C := RX2) (T := TX2) (N := 15) hx hb hts hinX2 hown hK hP 0 rfl rfl 2 (by decide) (hts (.fieldLink RX2 60 "DefaultReasonerModel" "rules" "I") (by decide +kernel)) (fun _ h9 => h9) rfl dX2_addRule_51 ?_
      refine lv_iload_n hx hb dX2_addRule_54 rfl (lv_at hl 1 rfl) ?_
      refine va_iast hx hb hK hP hD hS 1 0 rfl rfl (by unfold vp_in; decide) dX2_addRule_55 (fun H locs hP hD hS => ?_)
      have hP : va_P g.1 vwCl [(mm, .inr (2, [.int 0, .int 0, .int 0, .ref (b 3), .ref (b 4), .int 0, .ref (b 6), .ref (b 7), .ref (b 8), .ref (b 9), .int 0, .ref (b 11), .int 0, .ref (b 13), .ref (b 14)])), ((b 3), .inl (g.2.1.1, 16, .inl (upd (fun _ => 0) 0 x))), ((b 4), .inl (g.2.1.1, 16, .inl (fun _ => 0)))] H := hP
      have hD : va_D A [(mm, .inr (2, [.int 0, .int 0, .int 0, .ref (b 3), .ref (b 4), .int 0, .ref (b 6), .ref (b 7), .ref (b 8), .ref (b 9), .int 0, .ref (b 11), .int 0, .ref (b 13), .ref (b 14)])), ((b 3), .inl (g.2.1.1, 16, .inl (upd (fun _ => 0) 0 x))), ((b 4), .inl (g.2.1.1, 16, .inl (fun _ => 0)))] := hD
      refine lv_aload_n hx hb dX2_addRule_56 rfl (lv_at hl 0 rfl) ?_
      refine va_get (D := g.1) (ci := 2) (v := .ref (b 4)) (C := RX2) (T := TX2) (N := 15) hx hb hts hinX2 hown hK hP 0 rfl rfl 4 (by decide) (hts (.fieldLink RX2 13 "DefaultReasonerModel" "heads" "[I") (by decide +kernel)) (fun _ h9 => h9) rfl dX2_addRule_57 ?_
      refine lv_aload_n hx hb dX2_addRule_60 rfl (lv_at hl 0 rfl) ?_
      refine va_get (D := g.1) (ci := 2) (v := .int 0) (C := RX2) (T := TX2) (N := 15) hx hb hts hinX2 hown hK hP 0 rfl rfl 2 (by decide) (hts (.fieldLink RX2 60 "DefaultReasonerModel" "rules" "I") (by decide +kernel)) (fun _ h9 => h9) rfl dX2_addRule_61 ?_
      refine lv_iload_n hx hb dX2_addRule_64 rfl (lv_at hl 2 rfl) ?_
      refine va_iast hx hb hK hP hD hS 2 0 rfl rfl (by unfold vp_in; decide) dX2_addRule_65 (fun H locs hP hD hS => ?_)
      have hP : va_P g.1 vwCl [(mm, .inr (2, [.int 0, .int 0, .int 0, .ref (b 3), .ref (b 4), .int 0, .ref (b 6), .ref (b 7), .ref (b 8), .ref (b 9), .int 0, .ref (b 11), .int 0, .ref (b 13), .ref (b 14)])), ((b 3), .inl (g.2.1.1, 16, .inl (upd (fun _ => 0) 0 x))), ((b 4), .inl (g.2.1.1, 16, .inl (upd (fun _ => 0) 0 y)))] H := hP
      have hD : va_D A [(mm, .inr (2, [.int 0, .int 0, .int 0, .ref (b 3), .ref (b 4), .int 0, .ref (b 6), .ref (b 7), .ref (b 8), .ref (b 9), .int 0, .ref (b 11), .int 0, .ref (b 13), .ref (b 14)])), ((b 3), .inl (g.2.1.1, 16, .inl (upd (fun _ => 0) 0 x))), ((b 4), .inl (g.2.1.1, 16, .inl (upd (fun _ => 0) 0 y)))] := hD
      refine lv_aload_n hx hb dX2_addRule_66 rfl (lv_at hl 0 rfl) ?_
      refine lv_dup hx hb dX2_addRule_67 rfl ?_
      refine va_get (D := g.1) (ci := 2) (v := .int 0) (C := RX2) (T := TX2) (N := 15) hx hb hts hinX2 hown hK hP 0 rfl rfl 2 (by decide) (hts (.fieldLink RX2 60 "DefaultReasonerModel" "rules" "I") (by decide +kernel)) (fun _ h9 => h9) rfl dX2_addRule_68 ?_
      refine lv_iconst (v := 1) hx hb dX2_addRule_71 (by decide) ?_
      refine lv_iadd hx hb dX2_addRule_72 ?_
      refine sy_i (y := 1) (by decide) ?_
      refine va_put (D := g.1) (ci := 2) (v := .int 1) (ty := .int) (C := RX2) (T := TX2) (N := 15) hx hb hts hinX2 tyX2 tyX2_ok nmX2 hown hK hP hD hS 0 rfl rfl 2 (by decide) (hts (.fieldLink RX2 60 "DefaultReasonerModel" "rules" "I") (by decide +kernel)) (fun _ h9 => h9) rfl (by decide +kernel) rfl rfl (Nat.le_of_ble_eq_true rfl) dX2_addRule_73 (fun H locs hP hD hS => ?_)
      have hP : va_P g.1 vwCl [(mm, .inr (2, [.int 0, .int 0, .int 1, .ref (b 3), .ref (b 4), .int 0, .ref (b 6), .ref (b 7), .ref (b 8), .ref (b 9), .int 0, .ref (b 11), .int 0, .ref (b 13), .ref (b 14)])), ((b 3), .inl (g.2.1.1, 16, .inl (upd (fun _ => 0) 0 x))), ((b 4), .inl (g.2.1.1, 16, .inl (upd (fun _ => 0) 0 y)))] H := hP
      have hD : va_D A [(mm, .inr (2, [.int 0, .int 0, .int 1, .ref (b 3), .ref (b 4), .int 0, .ref (b 6), .ref (b 7), .ref (b 8), .ref (b 9), .int 0, .ref (b 11), .int 0, .ref (b 13), .ref (b 14)])), ((b 3), .inl (g.2.1.1, 16, .inl (upd (fun _ => 0) 0 x))), ((b 4), .inl (g.2.1.1, 16, .inl (upd (fun _ => 0) 0 y)))] := hD
      refine lv_aload_n hx hb dX2_addRule_76 rfl (lv_at hl 0 rfl) ?_
      refine va_get (D := g.1) (ci := 2) (v := .int 1) (C := RX2) (T := TX2) (N := 15) hx hb hts hinX2 hown hK hP 0 rfl rfl 2 (by decide) (hts (.fieldLink RX2 60 "DefaultReasonerModel" "rules" "I") (by decide +kernel)) (fun _ h9 => h9) rfl dX2_addRule_77 ?_
      refine lv_iconst (v := 1) hx hb dX2_addRule_80 (by decide) ?_
      refine lv_isub hx hb dX2_addRule_81 ?_
      refine sy_i (y := 0) (by decide) ?_
      exact g_ir hx hb hr hlocks hP hD hS (0, [.int 0, .int 1, .ref (b 3), .ref (b 4), .int 0, .ref (b 6), .ref (b 7), .ref (b 8), .ref (b 9), .int 0, .ref (b 11), .int 0, .ref (b 13), .ref (b 14)]) [0] rfl (by decide) rfl dX2_addRule_82 (Nat.le_of_ble_eq_true rfl) (Nat.le_of_ble_eq_true rfl) (Or.inl ⟨rfl, hf1, hf2, rfl⟩)
    · have hP : va_P g.1 vwCl [(mm, .inr (2, [.int 0, .int 0, .int 0, .ref (b 3), .ref (b 4), .int 0, .ref (b 6), .ref (b 7), .ref (b 8), .ref (b 9), .int 0, .ref (b 11), .int 0, .ref (b 13), .ref (b 14)])), ((b 3), .inl (g.2.1.1, 16, .inl (fun _ => 0))), ((b 4), .inl (g.2.1.1, 16, .inl (fun _ => 0)))] H := hP
      have hD : va_D A [(mm, .inr (2, [.int 0, .int 0, .int 0, .ref (b 3), .ref (b 4), .int 0, .ref (b 6), .ref (b 7), .ref (b 8), .ref (b 9), .int 0, .ref (b 11), .int 0, .ref (b 13), .ref (b 14)])), ((b 3), .inl (g.2.1.1, 16, .inl (fun _ => 0))), ((b 4), .inl (g.2.1.1, 16, .inl (fun _ => 0)))] := hD
      refine lv_if_ne (tgt := 31) hx hb dX2_addRule_22 (by decide) (fun c9 => absurd (by decide) c9) (fun _ => ?_)
      refine lv_aload_n hx hb dX2_addRule_25 rfl (lv_at hl 0 rfl) ?_
      refine lv_iconst (v := 2) hx hb dX2_addRule_26 (by decide) ?_
      refine gj_i (wc := [(mm, .inr (2, [.int 0, .int 0, .int 0, .ref (b 3), .ref (b 4), .int 0, .ref (b 6), .ref (b 7), .ref (b 8), .ref (b 9), .int 0, .ref (b 11), .int 0, .ref (b 13), .ref (b 14)]))]) (wr := [((b 3), .inl (g.2.1.1, 16, .inl (fun _ => 0))), ((b 4), .inl (g.2.1.1, 16, .inl (fun _ => 0)))]) (gr_V (n := 1) ⟨hx, hb, hml, hown, hts⟩ (c_X2_fail l g H.size mm b 0 0 2) gX2_addRule_X2_fail rfl rfl rfl (by decide +kernel) ⟨Nat.le_of_ble_eq_true rfl, Nat.le_of_ble_eq_true rfl⟩ (gp_V hK hE hA hP hD hS [0] rfl (by decide) rfl (q0 := 0) rfl rfl) rfl hl.1 rfl (Nat.le_of_ble_eq_true rfl) dX2_addRule_27 ⟨Nat.le_of_ble_eq_true rfl, Nat.le_of_ble_eq_true rfl⟩) hP hD hS hA [0] [1, 2] rfl rfl (by decide) (by decide) (fun r3 u3 H locs hp3 hP hD hS => ?_)
      have hP : va_P g.1 vwCl [((b 3), .inl (g.2.1.1, 16, .inl (fun _ => 0))), ((b 4), .inl (g.2.1.1, 16, .inl (fun _ => 0))), (mm, .inr (2, [.int 2, .int 0, .int 0, .ref (b 3), .ref (b 4), .int 0, .ref (b 6), .ref (b 7), .ref (b 8), .ref (b 9), .int 0, .ref (b 11), .int 0, .ref (b 13), .ref (b 14)]))] H := hP
      have hD : va_D A [((b 3), .inl (g.2.1.1, 16, .inl (fun _ => 0))), ((b 4), .inl (g.2.1.1, 16, .inl (fun _ => 0))), (mm, .inr (2, [.int 2, .int 0, .int 0, .ref (b 3), .ref (b 4), .int 0, .ref (b 6), .ref (b 7), .ref (b 8), .ref (b 9), .int 0, .ref (b 11), .int 0, .ref (b 13), .ref (b 14)]))] := hD
      have hp3 : r3 = 0 := hp3.trans (by decide)
      subst hp3
      exact g_ir hx hb hr hlocks hP hD hS (2, [.int 0, .int 0, .ref (b 3), .ref (b 4), .int 0, .ref (b 6), .ref (b 7), .ref (b 8), .ref (b 9), .int 0, .ref (b 11), .int 0, .ref (b 13), .ref (b 14)]) [2] rfl (by decide) rfl dX2_addRule_30 (Nat.le_of_ble_eq_true rfl) (Nat.le_of_ble_eq_true rfl) (Or.inr (Or.inr ⟨rfl, hf1, hf2⟩))
  · have hP : va_P g.1 vwCl [(mm, .inr (2, [.int 0, .int 0, .int 0, .ref (b 3), .ref (b 4), .int 0, .ref (b 6), .ref (b 7), .ref (b 8), .ref (b 9), .int 0, .ref (b 11), .int 0, .ref (b 13), .ref (b 14)])), ((b 3), .inl (g.2.1.1, 16, .inl (fun _ => 0))), ((b 4), .inl (g.2.1.1, 16, .inl (fun _ => 0)))] H := hP
    have hD : va_D A [(mm, .inr (2, [.int 0, .int 0, .int 0, .ref (b 3), .ref (b 4), .int 0, .ref (b 6), .ref (b 7), .ref (b 8), .ref (b 9), .int 0, .ref (b 11), .int 0, .ref (b 13), .ref (b 14)])), ((b 3), .inl (g.2.1.1, 16, .inl (fun _ => 0))), ((b 4), .inl (g.2.1.1, 16, .inl (fun _ => 0)))] := hD
    refine lv_if_ne (tgt := 18) hx hb dX2_addRule_9 (by decide) (fun c9 => absurd (by decide) c9) (fun _ => ?_)
    refine lv_aload_n hx hb dX2_addRule_12 rfl (lv_at hl 0 rfl) ?_
    refine lv_iconst (v := 1) hx hb dX2_addRule_13 (by decide) ?_
    refine gj_i (wc := [(mm, .inr (2, [.int 0, .int 0, .int 0, .ref (b 3), .ref (b 4), .int 0, .ref (b 6), .ref (b 7), .ref (b 8), .ref (b 9), .int 0, .ref (b 11), .int 0, .ref (b 13), .ref (b 14)]))]) (wr := [((b 3), .inl (g.2.1.1, 16, .inl (fun _ => 0))), ((b 4), .inl (g.2.1.1, 16, .inl (fun _ => 0)))]) (gr_V (n := 1) ⟨hx, hb, hml, hown, hts⟩ (c_X2_fail l g H.size mm b 0 0 1) gX2_addRule_X2_fail rfl rfl rfl (by decide +kernel) ⟨Nat.le_of_ble_eq_true rfl, Nat.le_of_ble_eq_true rfl⟩ (gp_V hK hE hA hP hD hS [0] rfl (by decide) rfl (q0 := 0) rfl rfl) rfl hl.1 rfl (Nat.le_of_ble_eq_true rfl) dX2_addRule_14 ⟨Nat.le_of_ble_eq_true rfl, Nat.le_of_ble_eq_true rfl⟩) hP hD hS hA [0] [1, 2] rfl rfl (by decide) (by decide) (fun r4 u4 H locs hp4 hP hD hS => ?_)
    have hP : va_P g.1 vwCl [((b 3), .inl (g.2.1.1, 16, .inl (fun _ => 0))), ((b 4), .inl (g.2.1.1, 16, .inl (fun _ => 0))), (mm, .inr (2, [.int 1, .int 0, .int 0, .ref (b 3), .ref (b 4), .int 0, .ref (b 6), .ref (b 7), .ref (b 8), .ref (b 9), .int 0, .ref (b 11), .int 0, .ref (b 13), .ref (b 14)]))] H := hP
    have hD : va_D A [((b 3), .inl (g.2.1.1, 16, .inl (fun _ => 0))), ((b 4), .inl (g.2.1.1, 16, .inl (fun _ => 0))), (mm, .inr (2, [.int 1, .int 0, .int 0, .ref (b 3), .ref (b 4), .int 0, .ref (b 6), .ref (b 7), .ref (b 8), .ref (b 9), .int 0, .ref (b 11), .int 0, .ref (b 13), .ref (b 14)]))] := hD
    have hp4 : r4 = 0 := hp4.trans (by decide)
    subst hp4
    exact g_ir hx hb hr hlocks hP hD hS (1, [.int 0, .int 0, .ref (b 3), .ref (b 4), .int 0, .ref (b 6), .ref (b 7), .ref (b 8), .ref (b 9), .int 0, .ref (b 11), .int 0, .ref (b 13), .ref (b 14)]) [2] rfl (by decide) rfl dX2_addRule_17 (Nat.le_of_ble_eq_true rfl) (Nat.le_of_ble_eq_true rfl) (Or.inr (Or.inl ⟨rfl, hf1⟩))
set_option maxHeartbeats 4000000 in
set_option maxRecDepth 100000 in
theorem c_X2_addDefault (l : Launch) (g : gG) (sz : Nat) (mm : Nat) (b : Nat → Nat) (x y z : Int32) : gMi l yX2_addDefault wsX2_addDefault ({ frames := 1, cells := 0, slots := 0, locals := 21 } : Room) g [.ref mm, .int x, .int y, .int z] [(mm, .inr (2, [.int 0, .int 0, .int 0, .ref (b 3), .ref (b 4), .int 0, .ref (b 6), .ref (b 7), .ref (b 8), .ref (b 9), .int 0, .ref (b 11), .int 0, .ref (b 13), .ref (b 14)])), ((b 6), .inl (g.2.1.1, 6, .inl (fun _ => 0))), ((b 7), .inl (g.2.1.1, 6, .inl (fun _ => 0))), ((b 8), .inl (g.2.1.1, 6, .inl (fun _ => 0)))] sz (fun (r : Int32) (u : (Int32 × List Value)) => u.1 = 0 ∧ gLit z ∧ gSet x ∧ gSet y ∧ r = 0 ∨ u.1 = 1 ∧ ¬ gLit z ∨ u.1 = 2 ∧ gLit z ∧ ¬ (gSet x ∧ gSet y)) (fun (u : (Int32 × List Value)) => [(mm, .inr (2, .int u.1 :: u.2))]) 0 0 := by
  refine g_of (l := l) (y := yX2_addDefault) (wy := wsX2_addDefault) (rm := ({ frames := 1, cells := 0, slots := 0, locals := 21 } : Room)) (g := g) (av := [.ref mm, .int x, .int y, .int z]) (ws := [(mm, .inr (2, [.int 0, .int 0, .int 0, .ref (b 3), .ref (b 4), .int 0, .ref (b 6), .ref (b 7), .ref (b 8), .ref (b 9), .int 0, .ref (b 11), .int 0, .ref (b 13), .ref (b 14)])), ((b 6), .inl (g.2.1.1, 6, .inl (fun _ => 0))), ((b 7), .inl (g.2.1.1, 6, .inl (fun _ => 0))), ((b 8), .inl (g.2.1.1, 6, .inl (fun _ => 0)))]) (sz := sz) (mc := 0) (ms := 0) (Qc := fun A => va_Qi (fun (r : Int32) (u : (Int32 × List Value)) => u.1 = 0 ∧ gLit z ∧ gSet x ∧ gSet y ∧ r = 0 ∨ u.1 = 1 ∧ ¬ gLit z ∨ u.1 = 2 ∧ gLit z ∧ ¬ (gSet x ∧ gSet y)) (fun u t9 => gPost g A ((fun (u : (Int32 × List Value)) => [(mm, .inr (2, .int u.1 :: u.2))]) u) t9) A) (cc := cX2_addDefault) (maxL := 4) (ret := some .int) (by decide) rfl (Nat.le_of_ble_eq_true rfl) ?_
  intro p e s m below meth c A ls hx hb hr hml hown hts hlocks hnm hA hK hE hP hD hS hl
  have hl : lv_has ls 4 [(0, .ref mm), (1, .int x), (2, .int y), (3, .int z)] := hl
  have hown : s.vm.findClass RX2 = some m.cls := hown
  have hP : va_P g.1 vwCl [(mm, .inr (2, [.int 0, .int 0, .int 0, .ref (b 3), .ref (b 4), .int 0, .ref (b 6), .ref (b 7), .ref (b 8), .ref (b 9), .int 0, .ref (b 11), .int 0, .ref (b 13), .ref (b 14)])), ((b 6), .inl (g.2.1.1, 6, .inl (fun _ => 0))), ((b 7), .inl (g.2.1.1, 6, .inl (fun _ => 0))), ((b 8), .inl (g.2.1.1, 6, .inl (fun _ => 0)))] s.heap := hP
  have hinX2 : ∀ w ∈ u_ws RX2 TX2 15, w ∈ wsX2_addDefault := by decide +kernel
  refine lv_aload_n hx hb dX2_addDefault_0 rfl (lv_at hl 0 rfl) ?_
  refine lv_iconst (v := 0) hx hb dX2_addDefault_1 (by decide) ?_
  refine va_put (D := g.1) (ci := 2) (v := .int 0) (ty := .int) (C := RX2) (T := TX2) (N := 15) hx hb hts hinX2 tyX2 tyX2_ok nmX2 hown hK hP hD hS 0 rfl rfl 0 (by decide) (hts (.fieldLink RX2 38 "DefaultReasonerModel" "thrown" "I") (by decide +kernel)) (fun _ h9 => h9) rfl (by decide +kernel) rfl rfl (Nat.le_of_ble_eq_true rfl) dX2_addDefault_2 (fun H locs hP hD hS => ?_)
  have hP : va_P g.1 vwCl [(mm, .inr (2, [.int 0, .int 0, .int 0, .ref (b 3), .ref (b 4), .int 0, .ref (b 6), .ref (b 7), .ref (b 8), .ref (b 9), .int 0, .ref (b 11), .int 0, .ref (b 13), .ref (b 14)])), ((b 6), .inl (g.2.1.1, 6, .inl (fun _ => 0))), ((b 7), .inl (g.2.1.1, 6, .inl (fun _ => 0))), ((b 8), .inl (g.2.1.1, 6, .inl (fun _ => 0)))] H := hP
  have hD : va_D A [(mm, .inr (2, [.int 0, .int 0, .int 0, .ref (b 3), .ref (b 4), .int 0, .ref (b 6), .ref (b 7), .ref (b 8), .ref (b 9), .int 0, .ref (b 11), .int 0, .ref (b 13), .ref (b 14)])), ((b 6), .inl (g.2.1.1, 6, .inl (fun _ => 0))), ((b 7), .inl (g.2.1.1, 6, .inl (fun _ => 0))), ((b 8), .inl (g.2.1.1, 6, .inl (fun _ => 0)))] := hD
  refine lv_iload_n hx hb dX2_addDefault_5 rfl (lv_at hl 3 rfl) ?_
  refine gj_i (wc := []) (wr := [(mm, .inr (2, [.int 0, .int 0, .int 0, .ref (b 3), .ref (b 4), .int 0, .ref (b 6), .ref (b 7), .ref (b 8), .ref (b 9), .int 0, .ref (b 11), .int 0, .ref (b 13), .ref (b 14)])), ((b 6), .inl (g.2.1.1, 6, .inl (fun _ => 0))), ((b 7), .inl (g.2.1.1, 6, .inl (fun _ => 0))), ((b 8), .inl (g.2.1.1, 6, .inl (fun _ => 0)))]) (gr_S (n := 1) ⟨hx, hb, hml, hown, hts⟩ (c_X2_isLiteral l g H.size z) gX2_addDefault_X2_isLiteral rfl rfl rfl (by decide +kernel) ⟨Nat.le_of_ble_eq_true rfl, Nat.le_of_ble_eq_true rfl⟩ (gp_S hK hE hA hP hD hS [] rfl (by decide) rfl) rfl hl.1 rfl (Nat.le_of_ble_eq_true rfl) dX2_addDefault_6 ⟨Nat.le_of_ble_eq_true rfl, Nat.le_of_ble_eq_true rfl⟩) hP hD hS hA [] [0, 1, 2, 3] rfl rfl (by decide) (by decide) (fun r1 u1 H locs hp1 hP hD hS => ?_)
  rcases hp1 with ⟨rfl, hf1⟩ | ⟨rfl, hf1⟩
  · have hP : va_P g.1 vwCl [(mm, .inr (2, [.int 0, .int 0, .int 0, .ref (b 3), .ref (b 4), .int 0, .ref (b 6), .ref (b 7), .ref (b 8), .ref (b 9), .int 0, .ref (b 11), .int 0, .ref (b 13), .ref (b 14)])), ((b 6), .inl (g.2.1.1, 6, .inl (fun _ => 0))), ((b 7), .inl (g.2.1.1, 6, .inl (fun _ => 0))), ((b 8), .inl (g.2.1.1, 6, .inl (fun _ => 0)))] H := hP
    have hD : va_D A [(mm, .inr (2, [.int 0, .int 0, .int 0, .ref (b 3), .ref (b 4), .int 0, .ref (b 6), .ref (b 7), .ref (b 8), .ref (b 9), .int 0, .ref (b 11), .int 0, .ref (b 13), .ref (b 14)])), ((b 6), .inl (g.2.1.1, 6, .inl (fun _ => 0))), ((b 7), .inl (g.2.1.1, 6, .inl (fun _ => 0))), ((b 8), .inl (g.2.1.1, 6, .inl (fun _ => 0)))] := hD
    refine lv_if_ne (tgt := 18) hx hb dX2_addDefault_9 (by decide) (fun _ => ?_) (fun c9 => absurd c9 (by decide))
    refine lv_iload_n hx hb dX2_addDefault_18 rfl (lv_at hl 1 rfl) ?_
    refine gj_i (wc := []) (wr := [(mm, .inr (2, [.int 0, .int 0, .int 0, .ref (b 3), .ref (b 4), .int 0, .ref (b 6), .ref (b 7), .ref (b 8), .ref (b 9), .int 0, .ref (b 11), .int 0, .ref (b 13), .ref (b 14)])), ((b 6), .inl (g.2.1.1, 6, .inl (fun _ => 0))), ((b 7), .inl (g.2.1.1, 6, .inl (fun _ => 0))), ((b 8), .inl (g.2.1.1, 6, .inl (fun _ => 0)))]) (gr_S (n := 1) ⟨hx, hb, hml, hown, hts⟩ (c_X2_isSet l g H.size x) gX2_addDefault_X2_isSet rfl rfl rfl (by decide +kernel) ⟨Nat.le_of_ble_eq_true rfl, Nat.le_of_ble_eq_true rfl⟩ (gp_S hK hE hA hP hD hS [] rfl (by decide) rfl) rfl hl.1 rfl (Nat.le_of_ble_eq_true rfl) dX2_addDefault_19 ⟨Nat.le_of_ble_eq_true rfl, Nat.le_of_ble_eq_true rfl⟩) hP hD hS hA [] [0, 1, 2, 3] rfl rfl (by decide) (by decide) (fun r2 u2 H locs hp2 hP hD hS => ?_)
    rcases hp2 with ⟨rfl, hf2⟩ | ⟨rfl, hf2⟩
    · have hP : va_P g.1 vwCl [(mm, .inr (2, [.int 0, .int 0, .int 0, .ref (b 3), .ref (b 4), .int 0, .ref (b 6), .ref (b 7), .ref (b 8), .ref (b 9), .int 0, .ref (b 11), .int 0, .ref (b 13), .ref (b 14)])), ((b 6), .inl (g.2.1.1, 6, .inl (fun _ => 0))), ((b 7), .inl (g.2.1.1, 6, .inl (fun _ => 0))), ((b 8), .inl (g.2.1.1, 6, .inl (fun _ => 0)))] H := hP
      have hD : va_D A [(mm, .inr (2, [.int 0, .int 0, .int 0, .ref (b 3), .ref (b 4), .int 0, .ref (b 6), .ref (b 7), .ref (b 8), .ref (b 9), .int 0, .ref (b 11), .int 0, .ref (b 13), .ref (b 14)])), ((b 6), .inl (g.2.1.1, 6, .inl (fun _ => 0))), ((b 7), .inl (g.2.1.1, 6, .inl (fun _ => 0))), ((b 8), .inl (g.2.1.1, 6, .inl (fun _ => 0)))] := hD
      refine lv_if_eq (tgt := 32) hx hb dX2_addDefault_22 (by decide) (fun c9 => absurd c9 (by decide)) (fun _ => ?_)
      refine lv_iload_n hx hb dX2_addDefault_25 rfl (lv_at hl 2 rfl) ?_
      refine gj_i (wc := []) (wr := [(mm, .inr (2, [.int 0, .int 0, .int 0, .ref (b 3), .ref (b 4), .int 0, .ref (b 6), .ref (b 7), .ref (b 8), .ref (b 9), .int 0, .ref (b 11), .int 0, .ref (b 13), .ref (b 14)])), ((b 6), .inl (g.2.1.1, 6, .inl (fun _ => 0))), ((b 7), .inl (g.2.1.1, 6, .inl (fun _ => 0))), ((b 8), .inl (g.2.1.1, 6, .inl (fun _ => 0)))]) (gr_S (n := 1) ⟨hx, hb, hml, hown, hts⟩ (c_X2_isSet l g H.size y) gX2_addDefault_X2_isSet rfl rfl rfl (by decide +kernel) ⟨Nat.le_of_ble_eq_true rfl, Nat.le_of_ble_eq_true rfl⟩ (gp_S hK hE hA hP hD hS [] rfl (by decide) rfl) rfl hl.1 rfl (Nat.le_of_ble_eq_true rfl) dX2_addDefault_26 ⟨Nat.le_of_ble_eq_true rfl, Nat.le_of_ble_eq_true rfl⟩) hP hD hS hA [] [0, 1, 2, 3] rfl rfl (by decide) (by decide) (fun r3 u3 H locs hp3 hP hD hS => ?_)
      rcases hp3 with ⟨rfl, hf3⟩ | ⟨rfl, hf3⟩
      · have hP : va_P g.1 vwCl [(mm, .inr (2, [.int 0, .int 0, .int 0, .ref (b 3), .ref (b 4), .int 0, .ref (b 6), .ref (b 7), .ref (b 8), .ref (b 9), .int 0, .ref (b 11), .int 0, .ref (b 13), .ref (b 14)])), ((b 6), .inl (g.2.1.1, 6, .inl (fun _ => 0))), ((b 7), .inl (g.2.1.1, 6, .inl (fun _ => 0))), ((b 8), .inl (g.2.1.1, 6, .inl (fun _ => 0)))] H := hP
        have hD : va_D A [(mm, .inr (2, [.int 0, .int 0, .int 0, .ref (b 3), .ref (b 4), .int 0, .ref (b 6), .ref (b 7), .ref (b 8), .ref (b 9), .int 0, .ref (b 11), .int 0, .ref (b 13), .ref (b 14)])), ((b 6), .inl (g.2.1.1, 6, .inl (fun _ => 0))), ((b 7), .inl (g.2.1.1, 6, .inl (fun _ => 0))), ((b 8), .inl (g.2.1.1, 6, .inl (fun _ => 0)))] := hD
        refine lv_if_ne (tgt := 38) hx hb dX2_addDefault_29 (by decide) (fun _ => ?_) (fun c9 => absurd c9 (by decide))
        refine lv_aload_n hx hb dX2_addDefault_38 rfl (lv_at hl 0 rfl) ?_
        refine va_get (D := g.1) (ci := 2) (v := .int 0) (C := RX2) (T := TX2) (N := 15) hx hb hts hinX2 hown hK hP 0 rfl rfl 5 (by decide) (hts (.fieldLink RX2 43 "DefaultReasonerModel" "defaults" "I") (by decide +kernel)) (fun _ h9 => h9) rfl dX2_addDefault_39 ?_
        refine lv_bipush (v := 6) hx hb dX2_addDefault_42 (by decide) ?_
        refine lv_icmp_ne (tgt := 53) hx hb dX2_addDefault_44 (by decide) (fun _ => ?_) (fun c9 => absurd c9 (by decide))
        refine lv_aload_n hx hb dX2_addDefault_53 rfl (lv_at hl 0 rfl) ?_
        refine va_get (D := g.1) (ci := 2) (v := .ref (b 6)) (C := RX2) (T := TX2) (N := 15) hx hb hts hinX2 hown hK hP 0 rfl rfl 6 (by decide) (hts (.fieldLink RX2 16 "DefaultReasonerModel" "needs" "[I") (by decide +kernel)) (fun _ h9 => h9) rfl dX2_addDefault_54 ?_
        refine lv_aload_n hx hb dX2_addDefault_57 rfl (lv_at hl 0 rfl) ?_
        refine va_get (D := g.1) (ci := 2) (v := .int 0) (C := RX2) (T := TX2) (N := 15) hx hb hts hinX2 hown hK hP 0 rfl rfl 5 (by decide) (hts (.fieldLink RX2 43 "DefaultReasonerModel" "defaults" "I") (by decide +kernel)) (fun _ h9 => h9) rfl dX2_addDefault_58 ?_
        refine lv_iload_n hx hb dX2_addDefault_61 rfl (lv_at hl 1 rfl) ?_
        refine va_iast hx hb hK hP hD hS 1 0 rfl rfl (by unfold vp_in; decide) dX2_addDefault_62 (fun H locs hP hD hS => ?_)
        have hP : va_P g.1 vwCl [(mm, .inr (2, [.int 0, .int 0, .int 0, .ref (b 3), .ref (b 4), .int 0, .ref (b 6), .ref (b 7), .ref (b 8), .ref (b 9), .int 0, .ref (b 11), .int 0, .ref (b 13), .ref (b 14)])), ((b 6), .inl (g.2.1.1, 6, .inl (upd (fun _ => 0) 0 x))), ((b 7), .inl (g.2.1.1, 6, .inl (fun _ => 0))), ((b 8), .inl (g.2.1.1, 6, .inl (fun _ => 0)))] H := hP
        have hD : va_D A [(mm, .inr (2, [.int 0, .int 0, .int 0, .ref (b 3), .ref (b 4), .int 0, .ref (b 6), .ref (b 7), .ref (b 8), .ref (b 9), .int 0, .ref (b 11), .int 0, .ref (b 13), .ref (b 14)])), ((b 6), .inl (g.2.1.1, 6, .inl (upd (fun _ => 0) 0 x))), ((b 7), .inl (g.2.1.1, 6, .inl (fun _ => 0))), ((b 8), .inl (g.2.1.1, 6, .inl (fun _ => 0)))] := hD
        refine lv_aload_n hx hb dX2_addDefault_63 rfl (lv_at hl 0 rfl) ?_
        refine va_get (D := g.1) (ci := 2) (v := .ref (b 7)) (C := RX2) (T := TX2) (N := 15) hx hb hts hinX2 hown hK hP 0 rfl rfl 7 (by decide) (hts (.fieldLink RX2 19 "DefaultReasonerModel" "justifications" "[I") (by decide +kernel)) (fun _ h9 => h9) rfl dX2_addDefault_64 ?_
        refine lv_aload_n hx hb dX2_addDefault_67 rfl (lv_at hl 0 rfl) ?_
        refine va_get (D := g.1) (ci := 2) (v := .int 0) (C := RX2) (T := TX2) (N := 15) hx hb hts hinX2 hown hK hP 0 rfl rfl 5 (by decide) (hts (.fieldLink RX2 43 "DefaultReasonerModel" "defaults" "I") (by decide +kernel)) (fun _ h9 => h9) rfl dX2_addDefault_68 ?_
        refine lv_iload_n hx hb dX2_addDefault_71 rfl (lv_at hl 2 rfl) ?_
        refine va_iast hx hb hK hP hD hS 2 0 rfl rfl (by unfold vp_in; decide) dX2_addDefault_72 (fun H locs hP hD hS => ?_)
        have hP : va_P g.1 vwCl [(mm, .inr (2, [.int 0, .int 0, .int 0, .ref (b 3), .ref (b 4), .int 0, .ref (b 6), .ref (b 7), .ref (b 8), .ref (b 9), .int 0, .ref (b 11), .int 0, .ref (b 13), .ref (b 14)])), ((b 6), .inl (g.2.1.1, 6, .inl (upd (fun _ => 0) 0 x))), ((b 7), .inl (g.2.1.1, 6, .inl (upd (fun _ => 0) 0 y))), ((b 8), .inl (g.2.1.1, 6, .inl (fun _ => 0)))] H := hP
        have hD : va_D A [(mm, .inr (2, [.int 0, .int 0, .int 0, .ref (b 3), .ref (b 4), .int 0, .ref (b 6), .ref (b 7), .ref (b 8), .ref (b 9), .int 0, .ref (b 11), .int 0, .ref (b 13), .ref (b 14)])), ((b 6), .inl (g.2.1.1, 6, .inl (upd (fun _ => 0) 0 x))), ((b 7), .inl (g.2.1.1, 6, .inl (upd (fun _ => 0) 0 y))), ((b 8), .inl (g.2.1.1, 6, .inl (fun _ => 0)))] := hD
        refine lv_aload_n hx hb dX2_addDefault_73 rfl (lv_at hl 0 rfl) ?_
        refine va_get (D := g.1) (ci := 2) (v := .ref (b 8)) (C := RX2) (T := TX2) (N := 15) hx hb hts hinX2 hown hK hP 0 rfl rfl 8 (by decide) (hts (.fieldLink RX2 22 "DefaultReasonerModel" "conclusions" "[I") (by decide +kernel)) (fun _ h9 => h9) rfl dX2_addDefault_74 ?_
        refine lv_aload_n hx hb dX2_addDefault_77 rfl (lv_at hl 0 rfl) ?_
        refine va_get (D := g.1) (ci := 2) (v := .int 0) (C := RX2) (T := TX2) (N := 15) hx hb hts hinX2 hown hK hP 0 rfl rfl 5 (by decide) (hts (.fieldLink RX2 43 "DefaultReasonerModel" "defaults" "I") (by decide +kernel)) (fun _ h9 => h9) rfl dX2_addDefault_78 ?_
        refine lv_iload_n hx hb dX2_addDefault_81 rfl (lv_at hl 3 rfl) ?_
        refine va_iast hx hb hK hP hD hS 3 0 rfl rfl (by unfold vp_in; decide) dX2_addDefault_82 (fun H locs hP hD hS => ?_)
        have hP : va_P g.1 vwCl [(mm, .inr (2, [.int 0, .int 0, .int 0, .ref (b 3), .ref (b 4), .int 0, .ref (b 6), .ref (b 7), .ref (b 8), .ref (b 9), .int 0, .ref (b 11), .int 0, .ref (b 13), .ref (b 14)])), ((b 6), .inl (g.2.1.1, 6, .inl (upd (fun _ => 0) 0 x))), ((b 7), .inl (g.2.1.1, 6, .inl (upd (fun _ => 0) 0 y))), ((b 8), .inl (g.2.1.1, 6, .inl (upd (fun _ => 0) 0 z)))] H := hP
        have hD : va_D A [(mm, .inr (2, [.int 0, .int 0, .int 0, .ref (b 3), .ref (b 4), .int 0, .ref (b 6), .ref (b 7), .ref (b 8), .ref (b 9), .int 0, .ref (b 11), .int 0, .ref (b 13), .ref (b 14)])), ((b 6), .inl (g.2.1.1, 6, .inl (upd (fun _ => 0) 0 x))), ((b 7), .inl (g.2.1.1, 6, .inl (upd (fun _ => 0) 0 y))), ((b 8), .inl (g.2.1.1, 6, .inl (upd (fun _ => 0) 0 z)))] := hD
        refine lv_aload_n hx hb dX2_addDefault_83 rfl (lv_at hl 0 rfl) ?_
        refine lv_dup hx hb dX2_addDefault_84 rfl ?_
        refine va_get (D := g.1) (ci := 2) (v := .int 0) (C := RX2) (T := TX2) (N := 15) hx hb hts hinX2 hown hK hP 0 rfl rfl 5 (by decide) (hts (.fieldLink RX2 43 "DefaultReasonerModel" "defaults" "I") (by decide +kernel)) (fun _ h9 => h9) rfl dX2_addDefault_85 ?_
        refine lv_iconst (v := 1) hx hb dX2_addDefault_88 (by decide) ?_
        refine lv_iadd hx hb dX2_addDefault_89 ?_
        refine sy_i (y := 1) (by decide) ?_
        refine va_put (D := g.1) (ci := 2) (v := .int 1) (ty := .int) (C := RX2) (T := TX2) (N := 15) hx hb hts hinX2 tyX2 tyX2_ok nmX2 hown hK hP hD hS 0 rfl rfl 5 (by decide) (hts (.fieldLink RX2 43 "DefaultReasonerModel" "defaults" "I") (by decide +kernel)) (fun _ h9 => h9) rfl (by decide +kernel) rfl rfl (Nat.le_of_ble_eq_true rfl) dX2_addDefault_90 (fun H locs hP hD hS => ?_)
        have hP : va_P g.1 vwCl [(mm, .inr (2, [.int 0, .int 0, .int 0, .ref (b 3), .ref (b 4), .int 1, .ref (b 6), .ref (b 7), .ref (b 8), .ref (b 9), .int 0, .ref (b 11), .int 0, .ref (b 13), .ref (b 14)])), ((b 6), .inl (g.2.1.1, 6, .inl (upd (fun _ => 0) 0 x))), ((b 7), .inl (g.2.1.1, 6, .inl (upd (fun _ => 0) 0 y))), ((b 8), .inl (g.2.1.1, 6, .inl (upd (fun _ => 0) 0 z)))] H := hP
        have hD : va_D A [(mm, .inr (2, [.int 0, .int 0, .int 0, .ref (b 3), .ref (b 4), .int 1, .ref (b 6), .ref (b 7), .ref (b 8), .ref (b 9), .int 0, .ref (b 11), .int 0, .ref (b 13), .ref (b 14)])), ((b 6), .inl (g.2.1.1, 6, .inl (upd (fun _ => 0) 0 x))), ((b 7), .inl (g.2.1.1, 6, .inl (upd (fun _ => 0) 0 y))), ((b 8), .inl (g.2.1.1, 6, .inl (upd (fun _ => 0) 0 z)))] := hD
        refine lv_aload_n hx hb dX2_addDefault_93 rfl (lv_at hl 0 rfl) ?_
        refine va_get (D := g.1) (ci := 2) (v := .int 1) (C := RX2) (T := TX2) (N := 15) hx hb hts hinX2 hown hK hP 0 rfl rfl 5 (by decide) (hts (.fieldLink RX2 43 "DefaultReasonerModel" "defaults" "I") (by decide +kernel)) (fun _ h9 => h9) rfl dX2_addDefault_94 ?_
        refine lv_iconst (v := 1) hx hb dX2_addDefault_97 (by decide) ?_
        refine lv_isub hx hb dX2_addDefault_98 ?_
        refine sy_i (y := 0) (by decide) ?_
        exact g_ir hx hb hr hlocks hP hD hS (0, [.int 0, .int 0, .ref (b 3), .ref (b 4), .int 1, .ref (b 6), .ref (b 7), .ref (b 8), .ref (b 9), .int 0, .ref (b 11), .int 0, .ref (b 13), .ref (b 14)]) [0] rfl (by decide) rfl dX2_addDefault_99 (Nat.le_of_ble_eq_true rfl) (Nat.le_of_ble_eq_true rfl) (Or.inl ⟨rfl, hf1, hf2, hf3, rfl⟩)
      · have hP : va_P g.1 vwCl [(mm, .inr (2, [.int 0, .int 0, .int 0, .ref (b 3), .ref (b 4), .int 0, .ref (b 6), .ref (b 7), .ref (b 8), .ref (b 9), .int 0, .ref (b 11), .int 0, .ref (b 13), .ref (b 14)])), ((b 6), .inl (g.2.1.1, 6, .inl (fun _ => 0))), ((b 7), .inl (g.2.1.1, 6, .inl (fun _ => 0))), ((b 8), .inl (g.2.1.1, 6, .inl (fun _ => 0)))] H := hP
        have hD : va_D A [(mm, .inr (2, [.int 0, .int 0, .int 0, .ref (b 3), .ref (b 4), .int 0, .ref (b 6), .ref (b 7), .ref (b 8), .ref (b 9), .int 0, .ref (b 11), .int 0, .ref (b 13), .ref (b 14)])), ((b 6), .inl (g.2.1.1, 6, .inl (fun _ => 0))), ((b 7), .inl (g.2.1.1, 6, .inl (fun _ => 0))), ((b 8), .inl (g.2.1.1, 6, .inl (fun _ => 0)))] := hD
        refine lv_if_ne (tgt := 38) hx hb dX2_addDefault_29 (by decide) (fun c9 => absurd (by decide) c9) (fun _ => ?_)
        refine lv_aload_n hx hb dX2_addDefault_32 rfl (lv_at hl 0 rfl) ?_
        refine lv_iconst (v := 2) hx hb dX2_addDefault_33 (by decide) ?_
        refine gj_i (wc := [(mm, .inr (2, [.int 0, .int 0, .int 0, .ref (b 3), .ref (b 4), .int 0, .ref (b 6), .ref (b 7), .ref (b 8), .ref (b 9), .int 0, .ref (b 11), .int 0, .ref (b 13), .ref (b 14)]))]) (wr := [((b 6), .inl (g.2.1.1, 6, .inl (fun _ => 0))), ((b 7), .inl (g.2.1.1, 6, .inl (fun _ => 0))), ((b 8), .inl (g.2.1.1, 6, .inl (fun _ => 0)))]) (gr_V (n := 1) ⟨hx, hb, hml, hown, hts⟩ (c_X2_fail l g H.size mm b 0 0 2) gX2_addDefault_X2_fail rfl rfl rfl (by decide +kernel) ⟨Nat.le_of_ble_eq_true rfl, Nat.le_of_ble_eq_true rfl⟩ (gp_V hK hE hA hP hD hS [0] rfl (by decide) rfl (q0 := 0) rfl rfl) rfl hl.1 rfl (Nat.le_of_ble_eq_true rfl) dX2_addDefault_34 ⟨Nat.le_of_ble_eq_true rfl, Nat.le_of_ble_eq_true rfl⟩) hP hD hS hA [0] [1, 2, 3] rfl rfl (by decide) (by decide) (fun r4 u4 H locs hp4 hP hD hS => ?_)
        have hP : va_P g.1 vwCl [((b 6), .inl (g.2.1.1, 6, .inl (fun _ => 0))), ((b 7), .inl (g.2.1.1, 6, .inl (fun _ => 0))), ((b 8), .inl (g.2.1.1, 6, .inl (fun _ => 0))), (mm, .inr (2, [.int 2, .int 0, .int 0, .ref (b 3), .ref (b 4), .int 0, .ref (b 6), .ref (b 7), .ref (b 8), .ref (b 9), .int 0, .ref (b 11), .int 0, .ref (b 13), .ref (b 14)]))] H := hP
        have hD : va_D A [((b 6), .inl (g.2.1.1, 6, .inl (fun _ => 0))), ((b 7), .inl (g.2.1.1, 6, .inl (fun _ => 0))), ((b 8), .inl (g.2.1.1, 6, .inl (fun _ => 0))), (mm, .inr (2, [.int 2, .int 0, .int 0, .ref (b 3), .ref (b 4), .int 0, .ref (b 6), .ref (b 7), .ref (b 8), .ref (b 9), .int 0, .ref (b 11), .int 0, .ref (b 13), .ref (b 14)]))] := hD
        have hp4 : r4 = 0 := hp4.trans (by decide)
        subst hp4
        exact g_ir hx hb hr hlocks hP hD hS (2, [.int 0, .int 0, .ref (b 3), .ref (b 4), .int 0, .ref (b 6), .ref (b 7), .ref (b 8), .ref (b 9), .int 0, .ref (b 11), .int 0, .ref (b 13), .ref (b 14)]) [3] rfl (by decide) rfl dX2_addDefault_37 (Nat.le_of_ble_eq_true rfl) (Nat.le_of_ble_eq_true rfl) (Or.inr (Or.inr ⟨rfl, hf1, fun h => hf3 h.2⟩))
    · have hP : va_P g.1 vwCl [(mm, .inr (2, [.int 0, .int 0, .int 0, .ref (b 3), .ref (b 4), .int 0, .ref (b 6), .ref (b 7), .ref (b 8), .ref (b 9), .int 0, .ref (b 11), .int 0, .ref (b 13), .ref (b 14)])), ((b 6), .inl (g.2.1.1, 6, .inl (fun _ => 0))), ((b 7), .inl (g.2.1.1, 6, .inl (fun _ => 0))), ((b 8), .inl (g.2.1.1, 6, .inl (fun _ => 0)))] H := hP
      have hD : va_D A [(mm, .inr (2, [.int 0, .int 0, .int 0, .ref (b 3), .ref (b 4), .int 0, .ref (b 6), .ref (b 7), .ref (b 8), .ref (b 9), .int 0, .ref (b 11), .int 0, .ref (b 13), .ref (b 14)])), ((b 6), .inl (g.2.1.1, 6, .inl (fun _ => 0))), ((b 7), .inl (g.2.1.1, 6, .inl (fun _ => 0))), ((b 8), .inl (g.2.1.1, 6, .inl (fun _ => 0)))] := hD
      refine lv_if_eq (tgt := 32) hx hb dX2_addDefault_22 (by decide) (fun _ => ?_) (fun c9 => absurd (by decide) c9)
      refine lv_aload_n hx hb dX2_addDefault_32 rfl (lv_at hl 0 rfl) ?_
      refine lv_iconst (v := 2) hx hb dX2_addDefault_33 (by decide) ?_
      refine gj_i (wc := [(mm, .inr (2, [.int 0, .int 0, .int 0, .ref (b 3), .ref (b 4), .int 0, .ref (b 6), .ref (b 7), .ref (b 8), .ref (b 9), .int 0, .ref (b 11), .int 0, .ref (b 13), .ref (b 14)]))]) (wr := [((b 6), .inl (g.2.1.1, 6, .inl (fun _ => 0))), ((b 7), .inl (g.2.1.1, 6, .inl (fun _ => 0))), ((b 8), .inl (g.2.1.1, 6, .inl (fun _ => 0)))]) (gr_V (n := 1) ⟨hx, hb, hml, hown, hts⟩ (c_X2_fail l g H.size mm b 0 0 2) gX2_addDefault_X2_fail rfl rfl rfl (by decide +kernel) ⟨Nat.le_of_ble_eq_true rfl, Nat.le_of_ble_eq_true rfl⟩ (gp_V hK hE hA hP hD hS [0] rfl (by decide) rfl (q0 := 0) rfl rfl) rfl hl.1 rfl (Nat.le_of_ble_eq_true rfl) dX2_addDefault_34 ⟨Nat.le_of_ble_eq_true rfl, Nat.le_of_ble_eq_true rfl⟩) hP hD hS hA [0] [1, 2, 3] rfl rfl (by decide) (by decide) (fun r5 u5 H locs hp5 hP hD hS => ?_)
      have hP : va_P g.1 vwCl [((b 6), .inl (g.2.1.1, 6, .inl (fun _ => 0))), ((b 7), .inl (g.2.1.1, 6, .inl (fun _ => 0))), ((b 8), .inl (g.2.1.1, 6, .inl (fun _ => 0))), (mm, .inr (2, [.int 2, .int 0, .int 0, .ref (b 3), .ref (b 4), .int 0, .ref (b 6), .ref (b 7), .ref (b 8), .ref (b 9), .int 0, .ref (b 11), .int 0, .ref (b 13), .ref (b 14)]))] H := hP
      have hD : va_D A [((b 6), .inl (g.2.1.1, 6, .inl (fun _ => 0))), ((b 7), .inl (g.2.1.1, 6, .inl (fun _ => 0))), ((b 8), .inl (g.2.1.1, 6, .inl (fun _ => 0))), (mm, .inr (2, [.int 2, .int 0, .int 0, .ref (b 3), .ref (b 4), .int 0, .ref (b 6), .ref (b 7), .ref (b 8), .ref (b 9), .int 0, .ref (b 11), .int 0, .ref (b 13), .ref (b 14)]))] := hD
      have hp5 : r5 = 0 := hp5.trans (by decide)
      subst hp5
      exact g_ir hx hb hr hlocks hP hD hS (2, [.int 0, .int 0, .ref (b 3), .ref (b 4), .int 0, .ref (b 6), .ref (b 7), .ref (b 8), .ref (b 9), .int 0, .ref (b 11), .int 0, .ref (b 13), .ref (b 14)]) [3] rfl (by decide) rfl dX2_addDefault_37 (Nat.le_of_ble_eq_true rfl) (Nat.le_of_ble_eq_true rfl) (Or.inr (Or.inr ⟨rfl, hf1, fun h => hf2 h.1⟩))
  · have hP : va_P g.1 vwCl [(mm, .inr (2, [.int 0, .int 0, .int 0, .ref (b 3), .ref (b 4), .int 0, .ref (b 6), .ref (b 7), .ref (b 8), .ref (b 9), .int 0, .ref (b 11), .int 0, .ref (b 13), .ref (b 14)])), ((b 6), .inl (g.2.1.1, 6, .inl (fun _ => 0))), ((b 7), .inl (g.2.1.1, 6, .inl (fun _ => 0))), ((b 8), .inl (g.2.1.1, 6, .inl (fun _ => 0)))] H := hP
    have hD : va_D A [(mm, .inr (2, [.int 0, .int 0, .int 0, .ref (b 3), .ref (b 4), .int 0, .ref (b 6), .ref (b 7), .ref (b 8), .ref (b 9), .int 0, .ref (b 11), .int 0, .ref (b 13), .ref (b 14)])), ((b 6), .inl (g.2.1.1, 6, .inl (fun _ => 0))), ((b 7), .inl (g.2.1.1, 6, .inl (fun _ => 0))), ((b 8), .inl (g.2.1.1, 6, .inl (fun _ => 0)))] := hD
    refine lv_if_ne (tgt := 18) hx hb dX2_addDefault_9 (by decide) (fun c9 => absurd (by decide) c9) (fun _ => ?_)
    refine lv_aload_n hx hb dX2_addDefault_12 rfl (lv_at hl 0 rfl) ?_
    refine lv_iconst (v := 1) hx hb dX2_addDefault_13 (by decide) ?_
    refine gj_i (wc := [(mm, .inr (2, [.int 0, .int 0, .int 0, .ref (b 3), .ref (b 4), .int 0, .ref (b 6), .ref (b 7), .ref (b 8), .ref (b 9), .int 0, .ref (b 11), .int 0, .ref (b 13), .ref (b 14)]))]) (wr := [((b 6), .inl (g.2.1.1, 6, .inl (fun _ => 0))), ((b 7), .inl (g.2.1.1, 6, .inl (fun _ => 0))), ((b 8), .inl (g.2.1.1, 6, .inl (fun _ => 0)))]) (gr_V (n := 1) ⟨hx, hb, hml, hown, hts⟩ (c_X2_fail l g H.size mm b 0 0 1) gX2_addDefault_X2_fail rfl rfl rfl (by decide +kernel) ⟨Nat.le_of_ble_eq_true rfl, Nat.le_of_ble_eq_true rfl⟩ (gp_V hK hE hA hP hD hS [0] rfl (by decide) rfl (q0 := 0) rfl rfl) rfl hl.1 rfl (Nat.le_of_ble_eq_true rfl) dX2_addDefault_14 ⟨Nat.le_of_ble_eq_true rfl, Nat.le_of_ble_eq_true rfl⟩) hP hD hS hA [0] [1, 2, 3] rfl rfl (by decide) (by decide) (fun r6 u6 H locs hp6 hP hD hS => ?_)
    have hP : va_P g.1 vwCl [((b 6), .inl (g.2.1.1, 6, .inl (fun _ => 0))), ((b 7), .inl (g.2.1.1, 6, .inl (fun _ => 0))), ((b 8), .inl (g.2.1.1, 6, .inl (fun _ => 0))), (mm, .inr (2, [.int 1, .int 0, .int 0, .ref (b 3), .ref (b 4), .int 0, .ref (b 6), .ref (b 7), .ref (b 8), .ref (b 9), .int 0, .ref (b 11), .int 0, .ref (b 13), .ref (b 14)]))] H := hP
    have hD : va_D A [((b 6), .inl (g.2.1.1, 6, .inl (fun _ => 0))), ((b 7), .inl (g.2.1.1, 6, .inl (fun _ => 0))), ((b 8), .inl (g.2.1.1, 6, .inl (fun _ => 0))), (mm, .inr (2, [.int 1, .int 0, .int 0, .ref (b 3), .ref (b 4), .int 0, .ref (b 6), .ref (b 7), .ref (b 8), .ref (b 9), .int 0, .ref (b 11), .int 0, .ref (b 13), .ref (b 14)]))] := hD
    have hp6 : r6 = 0 := hp6.trans (by decide)
    subst hp6
    exact g_ir hx hb hr hlocks hP hD hS (1, [.int 0, .int 0, .ref (b 3), .ref (b 4), .int 0, .ref (b 6), .ref (b 7), .ref (b 8), .ref (b 9), .int 0, .ref (b 11), .int 0, .ref (b 13), .ref (b 14)]) [3] rfl (by decide) rfl dX2_addDefault_17 (Nat.le_of_ble_eq_true rfl) (Nat.le_of_ble_eq_true rfl) (Or.inr (Or.inl ⟨rfl, hf1⟩))
set_option maxHeartbeats 4000000 in
set_option maxRecDepth 100000 in
theorem c_X2_dropRule (l : Launch) (g : gG) (sz : Nat) (mm : Nat) (b : Nat → Nat) : gMi l yX2_dropRule wsX2_dropRule ({ frames := 1, cells := 0, slots := 0, locals := 21 } : Room) g [.ref mm] [(mm, .inr (2, [.int 0, .int 0, .int 0, .ref (b 3), .ref (b 4), .int 0, .ref (b 6), .ref (b 7), .ref (b 8), .ref (b 9), .int 0, .ref (b 11), .int 0, .ref (b 13), .ref (b 14)]))] sz (fun (r : Int32) (u : (Int32 × List Value)) => u.1 = 1) (fun (u : (Int32 × List Value)) => [(mm, .inr (2, .int u.1 :: u.2))]) 0 0 := by
  refine g_of (l := l) (y := yX2_dropRule) (wy := wsX2_dropRule) (rm := ({ frames := 1, cells := 0, slots := 0, locals := 21 } : Room)) (g := g) (av := [.ref mm]) (ws := [(mm, .inr (2, [.int 0, .int 0, .int 0, .ref (b 3), .ref (b 4), .int 0, .ref (b 6), .ref (b 7), .ref (b 8), .ref (b 9), .int 0, .ref (b 11), .int 0, .ref (b 13), .ref (b 14)]))]) (sz := sz) (mc := 0) (ms := 0) (Qc := fun A => va_Qi (fun (r : Int32) (u : (Int32 × List Value)) => u.1 = 1) (fun u t9 => gPost g A ((fun (u : (Int32 × List Value)) => [(mm, .inr (2, .int u.1 :: u.2))]) u) t9) A) (cc := cX2_dropRule) (maxL := 1) (ret := some .int) (by decide) rfl (Nat.le_of_ble_eq_true rfl) ?_
  intro p e s m below meth c A ls hx hb hr hml hown hts hlocks hnm hA hK hE hP hD hS hl
  have hl : lv_has ls 1 [(0, .ref mm)] := hl
  have hown : s.vm.findClass RX2 = some m.cls := hown
  have hP : va_P g.1 vwCl [(mm, .inr (2, [.int 0, .int 0, .int 0, .ref (b 3), .ref (b 4), .int 0, .ref (b 6), .ref (b 7), .ref (b 8), .ref (b 9), .int 0, .ref (b 11), .int 0, .ref (b 13), .ref (b 14)]))] s.heap := hP
  have hinX2 : ∀ w ∈ u_ws RX2 TX2 15, w ∈ wsX2_dropRule := by decide +kernel
  refine lv_aload_n hx hb dX2_dropRule_0 rfl (lv_at hl 0 rfl) ?_
  refine lv_iconst (v := 0) hx hb dX2_dropRule_1 (by decide) ?_
  refine va_put (D := g.1) (ci := 2) (v := .int 0) (ty := .int) (C := RX2) (T := TX2) (N := 15) hx hb hts hinX2 tyX2 tyX2_ok nmX2 hown hK hP hD hS 0 rfl rfl 0 (by decide) (hts (.fieldLink RX2 38 "DefaultReasonerModel" "thrown" "I") (by decide +kernel)) (fun _ h9 => h9) rfl (by decide +kernel) rfl rfl (Nat.le_of_ble_eq_true rfl) dX2_dropRule_2 (fun H locs hP hD hS => ?_)
  have hP : va_P g.1 vwCl [(mm, .inr (2, [.int 0, .int 0, .int 0, .ref (b 3), .ref (b 4), .int 0, .ref (b 6), .ref (b 7), .ref (b 8), .ref (b 9), .int 0, .ref (b 11), .int 0, .ref (b 13), .ref (b 14)]))] H := hP
  have hD : va_D A [(mm, .inr (2, [.int 0, .int 0, .int 0, .ref (b 3), .ref (b 4), .int 0, .ref (b 6), .ref (b 7), .ref (b 8), .ref (b 9), .int 0, .ref (b 11), .int 0, .ref (b 13), .ref (b 14)]))] := hD
  refine lv_aload_n hx hb dX2_dropRule_5 rfl (lv_at hl 0 rfl) ?_
  refine va_get (D := g.1) (ci := 2) (v := .int 0) (C := RX2) (T := TX2) (N := 15) hx hb hts hinX2 hown hK hP 0 rfl rfl 2 (by decide) (hts (.fieldLink RX2 60 "DefaultReasonerModel" "rules" "I") (by decide +kernel)) (fun _ h9 => h9) rfl dX2_dropRule_6 ?_
  refine lv_if_ne (tgt := 18) hx hb dX2_dropRule_9 (by decide) (fun c9 => absurd (by decide) c9) (fun _ => ?_)
  refine lv_aload_n hx hb dX2_dropRule_12 rfl (lv_at hl 0 rfl) ?_
  refine lv_iconst (v := 1) hx hb dX2_dropRule_13 (by decide) ?_
  refine gj_i (wc := [(mm, .inr (2, [.int 0, .int 0, .int 0, .ref (b 3), .ref (b 4), .int 0, .ref (b 6), .ref (b 7), .ref (b 8), .ref (b 9), .int 0, .ref (b 11), .int 0, .ref (b 13), .ref (b 14)]))]) (wr := []) (gr_V (n := 1) ⟨hx, hb, hml, hown, hts⟩ (c_X2_fail l g H.size mm b 0 0 1) gX2_dropRule_X2_fail rfl rfl rfl (by decide +kernel) ⟨Nat.le_of_ble_eq_true rfl, Nat.le_of_ble_eq_true rfl⟩ (gp_V hK hE hA hP hD hS [0] rfl (by decide) rfl (q0 := 0) rfl rfl) rfl hl.1 rfl (Nat.le_of_ble_eq_true rfl) dX2_dropRule_14 ⟨Nat.le_of_ble_eq_true rfl, Nat.le_of_ble_eq_true rfl⟩) hP hD hS hA [0] [] rfl rfl (by decide) (by decide) (fun r1 u1 H locs hp1 hP hD hS => ?_)
  have hP : va_P g.1 vwCl [(mm, .inr (2, [.int 1, .int 0, .int 0, .ref (b 3), .ref (b 4), .int 0, .ref (b 6), .ref (b 7), .ref (b 8), .ref (b 9), .int 0, .ref (b 11), .int 0, .ref (b 13), .ref (b 14)]))] H := hP
  have hD : va_D A [(mm, .inr (2, [.int 1, .int 0, .int 0, .ref (b 3), .ref (b 4), .int 0, .ref (b 6), .ref (b 7), .ref (b 8), .ref (b 9), .int 0, .ref (b 11), .int 0, .ref (b 13), .ref (b 14)]))] := hD
  have hp1 : r1 = 0 := hp1.trans (by decide)
  subst hp1
  exact g_ir hx hb hr hlocks hP hD hS (1, [.int 0, .int 0, .ref (b 3), .ref (b 4), .int 0, .ref (b 6), .ref (b 7), .ref (b 8), .ref (b 9), .int 0, .ref (b 11), .int 0, .ref (b 13), .ref (b 14)]) [0] rfl (by decide) rfl dX2_dropRule_17 (Nat.le_of_ble_eq_true rfl) (Nat.le_of_ble_eq_true rfl) (rfl)
set_option maxHeartbeats 4000000 in
set_option maxRecDepth 100000 in
theorem c_X2_dropDefault (l : Launch) (g : gG) (sz : Nat) (mm : Nat) (b : Nat → Nat) : gMi l yX2_dropDefault wsX2_dropDefault ({ frames := 1, cells := 0, slots := 0, locals := 21 } : Room) g [.ref mm] [(mm, .inr (2, [.int 0, .int 0, .int 0, .ref (b 3), .ref (b 4), .int 0, .ref (b 6), .ref (b 7), .ref (b 8), .ref (b 9), .int 0, .ref (b 11), .int 0, .ref (b 13), .ref (b 14)]))] sz (fun (r : Int32) (u : (Int32 × List Value)) => u.1 = 1) (fun (u : (Int32 × List Value)) => [(mm, .inr (2, .int u.1 :: u.2))]) 0 0 := by
  refine g_of (l := l) (y := yX2_dropDefault) (wy := wsX2_dropDefault) (rm := ({ frames := 1, cells := 0, slots := 0, locals := 21 } : Room)) (g := g) (av := [.ref mm]) (ws := [(mm, .inr (2, [.int 0, .int 0, .int 0, .ref (b 3), .ref (b 4), .int 0, .ref (b 6), .ref (b 7), .ref (b 8), .ref (b 9), .int 0, .ref (b 11), .int 0, .ref (b 13), .ref (b 14)]))]) (sz := sz) (mc := 0) (ms := 0) (Qc := fun A => va_Qi (fun (r : Int32) (u : (Int32 × List Value)) => u.1 = 1) (fun u t9 => gPost g A ((fun (u : (Int32 × List Value)) => [(mm, .inr (2, .int u.1 :: u.2))]) u) t9) A) (cc := cX2_dropDefault) (maxL := 2) (ret := some .int) (by decide) rfl (Nat.le_of_ble_eq_true rfl) ?_
  intro p e s m below meth c A ls hx hb hr hml hown hts hlocks hnm hA hK hE hP hD hS hl
  have hl : lv_has ls 2 [(0, .ref mm)] := hl
  have hown : s.vm.findClass RX2 = some m.cls := hown
  have hP : va_P g.1 vwCl [(mm, .inr (2, [.int 0, .int 0, .int 0, .ref (b 3), .ref (b 4), .int 0, .ref (b 6), .ref (b 7), .ref (b 8), .ref (b 9), .int 0, .ref (b 11), .int 0, .ref (b 13), .ref (b 14)]))] s.heap := hP
  have hinX2 : ∀ w ∈ u_ws RX2 TX2 15, w ∈ wsX2_dropDefault := by decide +kernel
  refine lv_aload_n hx hb dX2_dropDefault_0 rfl (lv_at hl 0 rfl) ?_
  refine lv_iconst (v := 0) hx hb dX2_dropDefault_1 (by decide) ?_
  refine va_put (D := g.1) (ci := 2) (v := .int 0) (ty := .int) (C := RX2) (T := TX2) (N := 15) hx hb hts hinX2 tyX2 tyX2_ok nmX2 hown hK hP hD hS 0 rfl rfl 0 (by decide) (hts (.fieldLink RX2 38 "DefaultReasonerModel" "thrown" "I") (by decide +kernel)) (fun _ h9 => h9) rfl (by decide +kernel) rfl rfl (Nat.le_of_ble_eq_true rfl) dX2_dropDefault_2 (fun H locs hP hD hS => ?_)
  have hP : va_P g.1 vwCl [(mm, .inr (2, [.int 0, .int 0, .int 0, .ref (b 3), .ref (b 4), .int 0, .ref (b 6), .ref (b 7), .ref (b 8), .ref (b 9), .int 0, .ref (b 11), .int 0, .ref (b 13), .ref (b 14)]))] H := hP
  have hD : va_D A [(mm, .inr (2, [.int 0, .int 0, .int 0, .ref (b 3), .ref (b 4), .int 0, .ref (b 6), .ref (b 7), .ref (b 8), .ref (b 9), .int 0, .ref (b 11), .int 0, .ref (b 13), .ref (b 14)]))] := hD
  refine lv_aload_n hx hb dX2_dropDefault_5 rfl (lv_at hl 0 rfl) ?_
  refine va_get (D := g.1) (ci := 2) (v := .int 0) (C := RX2) (T := TX2) (N := 15) hx hb hts hinX2 hown hK hP 0 rfl rfl 5 (by decide) (hts (.fieldLink RX2 43 "DefaultReasonerModel" "defaults" "I") (by decide +kernel)) (fun _ h9 => h9) rfl dX2_dropDefault_6 ?_
  refine lv_if_ne (tgt := 18) hx hb dX2_dropDefault_9 (by decide) (fun c9 => absurd (by decide) c9) (fun _ => ?_)
  refine lv_aload_n hx hb dX2_dropDefault_12 rfl (lv_at hl 0 rfl) ?_
  refine lv_iconst (v := 1) hx hb dX2_dropDefault_13 (by decide) ?_
  refine gj_i (wc := [(mm, .inr (2, [.int 0, .int 0, .int 0, .ref (b 3), .ref (b 4), .int 0, .ref (b 6), .ref (b 7), .ref (b 8), .ref (b 9), .int 0, .ref (b 11), .int 0, .ref (b 13), .ref (b 14)]))]) (wr := []) (gr_V (n := 1) ⟨hx, hb, hml, hown, hts⟩ (c_X2_fail l g H.size mm b 0 0 1) gX2_dropDefault_X2_fail rfl rfl rfl (by decide +kernel) ⟨Nat.le_of_ble_eq_true rfl, Nat.le_of_ble_eq_true rfl⟩ (gp_V hK hE hA hP hD hS [0] rfl (by decide) rfl (q0 := 0) rfl rfl) rfl hl.1 rfl (Nat.le_of_ble_eq_true rfl) dX2_dropDefault_14 ⟨Nat.le_of_ble_eq_true rfl, Nat.le_of_ble_eq_true rfl⟩) hP hD hS hA [0] [] rfl rfl (by decide) (by decide) (fun r1 u1 H locs hp1 hP hD hS => ?_)
  have hP : va_P g.1 vwCl [(mm, .inr (2, [.int 1, .int 0, .int 0, .ref (b 3), .ref (b 4), .int 0, .ref (b 6), .ref (b 7), .ref (b 8), .ref (b 9), .int 0, .ref (b 11), .int 0, .ref (b 13), .ref (b 14)]))] H := hP
  have hD : va_D A [(mm, .inr (2, [.int 1, .int 0, .int 0, .ref (b 3), .ref (b 4), .int 0, .ref (b 6), .ref (b 7), .ref (b 8), .ref (b 9), .int 0, .ref (b 11), .int 0, .ref (b 13), .ref (b 14)]))] := hD
  have hp1 : r1 = 0 := hp1.trans (by decide)
  subst hp1
  exact g_ir hx hb hr hlocks hP hD hS (1, [.int 0, .int 0, .ref (b 3), .ref (b 4), .int 0, .ref (b 6), .ref (b 7), .ref (b 8), .ref (b 9), .int 0, .ref (b 11), .int 0, .ref (b 13), .ref (b 14)]) [0] rfl (by decide) rfl dX2_dropDefault_17 (Nat.le_of_ble_eq_true rfl) (Nat.le_of_ble_eq_true rfl) (rfl)
set_option maxHeartbeats 4000000 in
set_option maxRecDepth 100000 in
theorem c_X2_prefer (l : Launch) (g : gG) (sz : Nat) (mm : Nat) (b : Nat → Nat) (x y : Int32) : gMi l yX2_prefer wsX2_prefer ({ frames := 1, cells := 0, slots := 0, locals := 21 } : Room) g [.ref mm, .int x, .int y] [(mm, .inr (2, [.int 0, .int 0, .int 0, .ref (b 3), .ref (b 4), .int 0, .ref (b 6), .ref (b 7), .ref (b 8), .ref (b 9), .int 0, .ref (b 11), .int 0, .ref (b 13), .ref (b 14)]))] sz (fun (r : Int32) (u : (Int32 × List Value)) => u.1 = 1) (fun (u : (Int32 × List Value)) => [(mm, .inr (2, .int u.1 :: u.2))]) 0 0 := by
  refine g_of (l := l) (y := yX2_prefer) (wy := wsX2_prefer) (rm := ({ frames := 1, cells := 0, slots := 0, locals := 21 } : Room)) (g := g) (av := [.ref mm, .int x, .int y]) (ws := [(mm, .inr (2, [.int 0, .int 0, .int 0, .ref (b 3), .ref (b 4), .int 0, .ref (b 6), .ref (b 7), .ref (b 8), .ref (b 9), .int 0, .ref (b 11), .int 0, .ref (b 13), .ref (b 14)]))]) (sz := sz) (mc := 0) (ms := 0) (Qc := fun A => va_Qi (fun (r : Int32) (u : (Int32 × List Value)) => u.1 = 1) (fun u t9 => gPost g A ((fun (u : (Int32 × List Value)) => [(mm, .inr (2, .int u.1 :: u.2))]) u) t9) A) (cc := cX2_prefer) (maxL := 4) (ret := some .boolean) (by decide) rfl (Nat.le_of_ble_eq_true rfl) ?_
  intro p e s m below meth c A ls hx hb hr hml hown hts hlocks hnm hA hK hE hP hD hS hl
  have hl : lv_has ls 4 [(0, .ref mm), (1, .int x), (2, .int y)] := hl
  have hown : s.vm.findClass RX2 = some m.cls := hown
  have hP : va_P g.1 vwCl [(mm, .inr (2, [.int 0, .int 0, .int 0, .ref (b 3), .ref (b 4), .int 0, .ref (b 6), .ref (b 7), .ref (b 8), .ref (b 9), .int 0, .ref (b 11), .int 0, .ref (b 13), .ref (b 14)]))] s.heap := hP
  have hinX2 : ∀ w ∈ u_ws RX2 TX2 15, w ∈ wsX2_prefer := by decide +kernel
  refine lv_aload_n hx hb dX2_prefer_0 rfl (lv_at hl 0 rfl) ?_
  refine lv_aload_n hx hb dX2_prefer_1 rfl (lv_at hl 0 rfl) ?_
  refine lv_iload_n hx hb dX2_prefer_2 rfl (lv_at hl 1 rfl) ?_
  refine gj_i (wc := [(mm, .inr (2, [.int 0, .int 0, .int 0, .ref (b 3), .ref (b 4), .int 0, .ref (b 6), .ref (b 7), .ref (b 8), .ref (b 9), .int 0, .ref (b 11), .int 0, .ref (b 13), .ref (b 14)]))]) (wr := []) (gr_V (n := 1) ⟨hx, hb, hml, hown, hts⟩ (c_X2_isDefault l g s.heap.size mm b 0 0 x) gX2_prefer_X2_isDefault rfl rfl rfl (by decide +kernel) ⟨Nat.le_of_ble_eq_true rfl, Nat.le_of_ble_eq_true rfl⟩ (gp_V hK hE hA hP hD hS [0] rfl (by decide) rfl (q0 := 0) rfl rfl) rfl hl.1 rfl (Nat.le_of_ble_eq_true rfl) dX2_prefer_3 ⟨Nat.le_of_ble_eq_true rfl, Nat.le_of_ble_eq_true rfl⟩) hP hD hS hA [0] [] rfl rfl (by decide) (by decide) (fun r1 u1 H locs hp1 hP hD hS => ?_)
  have hP : va_P g.1 vwCl [(mm, .inr (2, [.int 0, .int 0, .int 0, .ref (b 3), .ref (b 4), .int 0, .ref (b 6), .ref (b 7), .ref (b 8), .ref (b 9), .int 0, .ref (b 11), .int 0, .ref (b 13), .ref (b 14)]))] H := hP
  have hD : va_D A [(mm, .inr (2, [.int 0, .int 0, .int 0, .ref (b 3), .ref (b 4), .int 0, .ref (b 6), .ref (b 7), .ref (b 8), .ref (b 9), .int 0, .ref (b 11), .int 0, .ref (b 13), .ref (b 14)]))] := hD
  have hp1 : r1 = 0 := hp1.trans (by decide)
  subst hp1
  refine lv_if_eq (tgt := 17) hx hb dX2_prefer_6 (by decide) (fun _ => ?_) (fun c9 => absurd (by decide) c9)
  refine lv_iconst (v := 1) hx hb dX2_prefer_17 (by decide) ?_
  refine lv_goto (tgt := 40) hx hb dX2_prefer_18 (by decide) ?_
  refine va_put (D := g.1) (ci := 2) (v := .int 1) (ty := .int) (C := RX2) (T := TX2) (N := 15) hx hb hts hinX2 tyX2 tyX2_ok nmX2 hown hK hP hD hS 0 rfl rfl 0 (by decide) (hts (.fieldLink RX2 38 "DefaultReasonerModel" "thrown" "I") (by decide +kernel)) (fun _ h9 => h9) rfl (by decide +kernel) rfl rfl (Nat.le_of_ble_eq_true rfl) dX2_prefer_40 (fun H locs hP hD hS => ?_)
  have hP : va_P g.1 vwCl [(mm, .inr (2, [.int 1, .int 0, .int 0, .ref (b 3), .ref (b 4), .int 0, .ref (b 6), .ref (b 7), .ref (b 8), .ref (b 9), .int 0, .ref (b 11), .int 0, .ref (b 13), .ref (b 14)]))] H := hP
  have hD : va_D A [(mm, .inr (2, [.int 1, .int 0, .int 0, .ref (b 3), .ref (b 4), .int 0, .ref (b 6), .ref (b 7), .ref (b 8), .ref (b 9), .int 0, .ref (b 11), .int 0, .ref (b 13), .ref (b 14)]))] := hD
  refine lv_aload_n hx hb dX2_prefer_43 rfl (lv_at hl 0 rfl) ?_
  refine va_get (D := g.1) (ci := 2) (v := .int 1) (C := RX2) (T := TX2) (N := 15) hx hb hts hinX2 hown hK hP 0 rfl rfl 0 (by decide) (hts (.fieldLink RX2 38 "DefaultReasonerModel" "thrown" "I") (by decide +kernel)) (fun _ h9 => h9) rfl dX2_prefer_44 ?_
  refine lv_if_eq (tgt := 52) hx hb dX2_prefer_47 (by decide) (fun c9 => absurd c9 (by decide)) (fun _ => ?_)
  refine lv_iconst (v := 0) hx hb dX2_prefer_50 (by decide) ?_
  exact g_zr hx hb hr hlocks hP hD hS (1, [.int 0, .int 0, .ref (b 3), .ref (b 4), .int 0, .ref (b 6), .ref (b 7), .ref (b 8), .ref (b 9), .int 0, .ref (b 11), .int 0, .ref (b 13), .ref (b 14)]) [0] rfl (by decide) rfl dX2_prefer_51 (Nat.le_of_ble_eq_true rfl) (Nat.le_of_ble_eq_true rfl) (Or.inl rfl) (rfl)
set_option maxHeartbeats 4000000 in
set_option maxRecDepth 100000 in
theorem c_X2_isBefore (l : Launch) (g : gG) (sz : Nat) (mm : Nat) (b : Nat → Nat) (x y : Int32) : gMi l yX2_isBefore wsX2_isBefore ({ frames := 1, cells := 0, slots := 0, locals := 21 } : Room) g [.ref mm, .int x, .int y] [(mm, .inr (2, [.int 0, .int 0, .int 0, .ref (b 3), .ref (b 4), .int 0, .ref (b 6), .ref (b 7), .ref (b 8), .ref (b 9), .int 0, .ref (b 11), .int 0, .ref (b 13), .ref (b 14)]))] sz (fun (r : Int32) (u : (Int32 × List Value)) => u.1 = 1) (fun (u : (Int32 × List Value)) => [(mm, .inr (2, .int u.1 :: u.2))]) 0 0 := by
  refine g_of (l := l) (y := yX2_isBefore) (wy := wsX2_isBefore) (rm := ({ frames := 1, cells := 0, slots := 0, locals := 21 } : Room)) (g := g) (av := [.ref mm, .int x, .int y]) (ws := [(mm, .inr (2, [.int 0, .int 0, .int 0, .ref (b 3), .ref (b 4), .int 0, .ref (b 6), .ref (b 7), .ref (b 8), .ref (b 9), .int 0, .ref (b 11), .int 0, .ref (b 13), .ref (b 14)]))]) (sz := sz) (mc := 0) (ms := 0) (Qc := fun A => va_Qi (fun (r : Int32) (u : (Int32 × List Value)) => u.1 = 1) (fun u t9 => gPost g A ((fun (u : (Int32 × List Value)) => [(mm, .inr (2, .int u.1 :: u.2))]) u) t9) A) (cc := cX2_isBefore) (maxL := 3) (ret := some .boolean) (by decide) rfl (Nat.le_of_ble_eq_true rfl) ?_
  intro p e s m below meth c A ls hx hb hr hml hown hts hlocks hnm hA hK hE hP hD hS hl
  have hl : lv_has ls 3 [(0, .ref mm), (1, .int x), (2, .int y)] := hl
  have hown : s.vm.findClass RX2 = some m.cls := hown
  have hP : va_P g.1 vwCl [(mm, .inr (2, [.int 0, .int 0, .int 0, .ref (b 3), .ref (b 4), .int 0, .ref (b 6), .ref (b 7), .ref (b 8), .ref (b 9), .int 0, .ref (b 11), .int 0, .ref (b 13), .ref (b 14)]))] s.heap := hP
  have hinX2 : ∀ w ∈ u_ws RX2 TX2 15, w ∈ wsX2_isBefore := by decide +kernel
  refine lv_aload_n hx hb dX2_isBefore_0 rfl (lv_at hl 0 rfl) ?_
  refine lv_aload_n hx hb dX2_isBefore_1 rfl (lv_at hl 0 rfl) ?_
  refine lv_iload_n hx hb dX2_isBefore_2 rfl (lv_at hl 1 rfl) ?_
  refine gj_i (wc := [(mm, .inr (2, [.int 0, .int 0, .int 0, .ref (b 3), .ref (b 4), .int 0, .ref (b 6), .ref (b 7), .ref (b 8), .ref (b 9), .int 0, .ref (b 11), .int 0, .ref (b 13), .ref (b 14)]))]) (wr := []) (gr_V (n := 1) ⟨hx, hb, hml, hown, hts⟩ (c_X2_isDefault l g s.heap.size mm b 0 0 x) gX2_isBefore_X2_isDefault rfl rfl rfl (by decide +kernel) ⟨Nat.le_of_ble_eq_true rfl, Nat.le_of_ble_eq_true rfl⟩ (gp_V hK hE hA hP hD hS [0] rfl (by decide) rfl (q0 := 0) rfl rfl) rfl hl.1 rfl (Nat.le_of_ble_eq_true rfl) dX2_isBefore_3 ⟨Nat.le_of_ble_eq_true rfl, Nat.le_of_ble_eq_true rfl⟩) hP hD hS hA [0] [] rfl rfl (by decide) (by decide) (fun r1 u1 H locs hp1 hP hD hS => ?_)
  have hP : va_P g.1 vwCl [(mm, .inr (2, [.int 0, .int 0, .int 0, .ref (b 3), .ref (b 4), .int 0, .ref (b 6), .ref (b 7), .ref (b 8), .ref (b 9), .int 0, .ref (b 11), .int 0, .ref (b 13), .ref (b 14)]))] H := hP
  have hD : va_D A [(mm, .inr (2, [.int 0, .int 0, .int 0, .ref (b 3), .ref (b 4), .int 0, .ref (b 6), .ref (b 7), .ref (b 8), .ref (b 9), .int 0, .ref (b 11), .int 0, .ref (b 13), .ref (b 14)]))] := hD
  have hp1 : r1 = 0 := hp1.trans (by decide)
  subst hp1
  refine lv_if_eq (tgt := 21) hx hb dX2_isBefore_6 (by decide) (fun _ => ?_) (fun c9 => absurd (by decide) c9)
  refine lv_iconst (v := 1) hx hb dX2_isBefore_21 (by decide) ?_
  refine va_put (D := g.1) (ci := 2) (v := .int 1) (ty := .int) (C := RX2) (T := TX2) (N := 15) hx hb hts hinX2 tyX2 tyX2_ok nmX2 hown hK hP hD hS 0 rfl rfl 0 (by decide) (hts (.fieldLink RX2 38 "DefaultReasonerModel" "thrown" "I") (by decide +kernel)) (fun _ h9 => h9) rfl (by decide +kernel) rfl rfl (Nat.le_of_ble_eq_true rfl) dX2_isBefore_22 (fun H locs hP hD hS => ?_)
  have hP : va_P g.1 vwCl [(mm, .inr (2, [.int 1, .int 0, .int 0, .ref (b 3), .ref (b 4), .int 0, .ref (b 6), .ref (b 7), .ref (b 8), .ref (b 9), .int 0, .ref (b 11), .int 0, .ref (b 13), .ref (b 14)]))] H := hP
  have hD : va_D A [(mm, .inr (2, [.int 1, .int 0, .int 0, .ref (b 3), .ref (b 4), .int 0, .ref (b 6), .ref (b 7), .ref (b 8), .ref (b 9), .int 0, .ref (b 11), .int 0, .ref (b 13), .ref (b 14)]))] := hD
  refine lv_aload_n hx hb dX2_isBefore_25 rfl (lv_at hl 0 rfl) ?_
  refine va_get (D := g.1) (ci := 2) (v := .int 1) (C := RX2) (T := TX2) (N := 15) hx hb hts hinX2 hown hK hP 0 rfl rfl 0 (by decide) (hts (.fieldLink RX2 38 "DefaultReasonerModel" "thrown" "I") (by decide +kernel)) (fun _ h9 => h9) rfl dX2_isBefore_26 ?_
  refine lv_if_ne (tgt := 45) hx hb dX2_isBefore_29 (by decide) (fun _ => ?_) (fun c9 => absurd c9 (by decide))
  refine lv_iconst (v := 0) hx hb dX2_isBefore_45 (by decide) ?_
  exact g_zr hx hb hr hlocks hP hD hS (1, [.int 0, .int 0, .ref (b 3), .ref (b 4), .int 0, .ref (b 6), .ref (b 7), .ref (b 8), .ref (b 9), .int 0, .ref (b 11), .int 0, .ref (b 13), .ref (b 14)]) [0] rfl (by decide) rfl dX2_isBefore_46 (Nat.le_of_ble_eq_true rfl) (Nat.le_of_ble_eq_true rfl) (Or.inl rfl) (rfl)
set_option maxHeartbeats 4000000 in
set_option maxRecDepth 100000 in
theorem c_X2_isOpen (l : Launch) (g : gG) (sz : Nat) (mm : Nat) (b : Nat → Nat) (x y : Int32) : gMi l yX2_isOpen wsX2_isOpen ({ frames := 1, cells := 0, slots := 0, locals := 21 } : Room) g [.ref mm, .int x, .int y] [(mm, .inr (2, [.int 0, .int 0, .int 0, .ref (b 3), .ref (b 4), .int 0, .ref (b 6), .ref (b 7), .ref (b 8), .ref (b 9), .int 0, .ref (b 11), .int 0, .ref (b 13), .ref (b 14)]))] sz (fun (r : Int32) (u : (Int32 × List Value)) => u.1 = 1) (fun (u : (Int32 × List Value)) => [(mm, .inr (2, .int u.1 :: u.2))]) 0 0 := by
  refine g_of (l := l) (y := yX2_isOpen) (wy := wsX2_isOpen) (rm := ({ frames := 1, cells := 0, slots := 0, locals := 21 } : Room)) (g := g) (av := [.ref mm, .int x, .int y]) (ws := [(mm, .inr (2, [.int 0, .int 0, .int 0, .ref (b 3), .ref (b 4), .int 0, .ref (b 6), .ref (b 7), .ref (b 8), .ref (b 9), .int 0, .ref (b 11), .int 0, .ref (b 13), .ref (b 14)]))]) (sz := sz) (mc := 0) (ms := 0) (Qc := fun A => va_Qi (fun (r : Int32) (u : (Int32 × List Value)) => u.1 = 1) (fun u t9 => gPost g A ((fun (u : (Int32 × List Value)) => [(mm, .inr (2, .int u.1 :: u.2))]) u) t9) A) (cc := cX2_isOpen) (maxL := 3) (ret := some .boolean) (by decide) rfl (Nat.le_of_ble_eq_true rfl) ?_
  intro p e s m below meth c A ls hx hb hr hml hown hts hlocks hnm hA hK hE hP hD hS hl
  have hl : lv_has ls 3 [(0, .ref mm), (1, .int x), (2, .int y)] := hl
  have hown : s.vm.findClass RX2 = some m.cls := hown
  have hP : va_P g.1 vwCl [(mm, .inr (2, [.int 0, .int 0, .int 0, .ref (b 3), .ref (b 4), .int 0, .ref (b 6), .ref (b 7), .ref (b 8), .ref (b 9), .int 0, .ref (b 11), .int 0, .ref (b 13), .ref (b 14)]))] s.heap := hP
  have hinX2 : ∀ w ∈ u_ws RX2 TX2 15, w ∈ wsX2_isOpen := by decide +kernel
  refine lv_aload_n hx hb dX2_isOpen_0 rfl (lv_at hl 0 rfl) ?_
  refine lv_aload_n hx hb dX2_isOpen_1 rfl (lv_at hl 0 rfl) ?_
  refine lv_iload_n hx hb dX2_isOpen_2 rfl (lv_at hl 1 rfl) ?_
  refine gj_i (wc := [(mm, .inr (2, [.int 0, .int 0, .int 0, .ref (b 3), .ref (b 4), .int 0, .ref (b 6), .ref (b 7), .ref (b 8), .ref (b 9), .int 0, .ref (b 11), .int 0, .ref (b 13), .ref (b 14)]))]) (wr := []) (gr_V (n := 1) ⟨hx, hb, hml, hown, hts⟩ (c_X2_isDefault l g s.heap.size mm b 0 0 x) gX2_isOpen_X2_isDefault rfl rfl rfl (by decide +kernel) ⟨Nat.le_of_ble_eq_true rfl, Nat.le_of_ble_eq_true rfl⟩ (gp_V hK hE hA hP hD hS [0] rfl (by decide) rfl (q0 := 0) rfl rfl) rfl hl.1 rfl (Nat.le_of_ble_eq_true rfl) dX2_isOpen_3 ⟨Nat.le_of_ble_eq_true rfl, Nat.le_of_ble_eq_true rfl⟩) hP hD hS hA [0] [] rfl rfl (by decide) (by decide) (fun r1 u1 H locs hp1 hP hD hS => ?_)
  have hP : va_P g.1 vwCl [(mm, .inr (2, [.int 0, .int 0, .int 0, .ref (b 3), .ref (b 4), .int 0, .ref (b 6), .ref (b 7), .ref (b 8), .ref (b 9), .int 0, .ref (b 11), .int 0, .ref (b 13), .ref (b 14)]))] H := hP
  have hD : va_D A [(mm, .inr (2, [.int 0, .int 0, .int 0, .ref (b 3), .ref (b 4), .int 0, .ref (b 6), .ref (b 7), .ref (b 8), .ref (b 9), .int 0, .ref (b 11), .int 0, .ref (b 13), .ref (b 14)]))] := hD
  have hp1 : r1 = 0 := hp1.trans (by decide)
  subst hp1
  refine lv_if_ne (tgt := 13) hx hb dX2_isOpen_6 (by decide) (fun c9 => absurd (by decide) c9) (fun _ => ?_)
  refine lv_iconst (v := 1) hx hb dX2_isOpen_9 (by decide) ?_
  refine lv_goto (tgt := 25) hx hb dX2_isOpen_10 (by decide) ?_
  refine va_put (D := g.1) (ci := 2) (v := .int 1) (ty := .int) (C := RX2) (T := TX2) (N := 15) hx hb hts hinX2 tyX2 tyX2_ok nmX2 hown hK hP hD hS 0 rfl rfl 0 (by decide) (hts (.fieldLink RX2 38 "DefaultReasonerModel" "thrown" "I") (by decide +kernel)) (fun _ h9 => h9) rfl (by decide +kernel) rfl rfl (Nat.le_of_ble_eq_true rfl) dX2_isOpen_25 (fun H locs hP hD hS => ?_)
  have hP : va_P g.1 vwCl [(mm, .inr (2, [.int 1, .int 0, .int 0, .ref (b 3), .ref (b 4), .int 0, .ref (b 6), .ref (b 7), .ref (b 8), .ref (b 9), .int 0, .ref (b 11), .int 0, .ref (b 13), .ref (b 14)]))] H := hP
  have hD : va_D A [(mm, .inr (2, [.int 1, .int 0, .int 0, .ref (b 3), .ref (b 4), .int 0, .ref (b 6), .ref (b 7), .ref (b 8), .ref (b 9), .int 0, .ref (b 11), .int 0, .ref (b 13), .ref (b 14)]))] := hD
  refine lv_aload_n hx hb dX2_isOpen_28 rfl (lv_at hl 0 rfl) ?_
  refine va_get (D := g.1) (ci := 2) (v := .int 1) (C := RX2) (T := TX2) (N := 15) hx hb hts hinX2 hown hK hP 0 rfl rfl 0 (by decide) (hts (.fieldLink RX2 38 "DefaultReasonerModel" "thrown" "I") (by decide +kernel)) (fun _ h9 => h9) rfl dX2_isOpen_29 ?_
  refine lv_if_ne (tgt := 48) hx hb dX2_isOpen_32 (by decide) (fun _ => ?_) (fun c9 => absurd c9 (by decide))
  refine lv_iconst (v := 0) hx hb dX2_isOpen_48 (by decide) ?_
  exact g_zr hx hb hr hlocks hP hD hS (1, [.int 0, .int 0, .ref (b 3), .ref (b 4), .int 0, .ref (b 6), .ref (b 7), .ref (b 8), .ref (b 9), .int 0, .ref (b 11), .int 0, .ref (b 13), .ref (b 14)]) [0] rfl (by decide) rfl dX2_isOpen_49 (Nat.le_of_ble_eq_true rfl) (Nat.le_of_ble_eq_true rfl) (Or.inl rfl) (rfl)
set_option maxHeartbeats 4000000 in
set_option maxRecDepth 100000 in
theorem c_X2_forgetPriorities (l : Launch) (g : gG) (sz : Nat) (mm : Nat) (b : Nat → Nat) : gMi l yX2_forgetPriorities wsX2_forgetPriorities ({ frames := 0, cells := 0, slots := 0, locals := 0 } : Room) g [.ref mm] [(mm, .inr (2, [.int 0, .int 0, .int 0, .ref (b 3), .ref (b 4), .int 0, .ref (b 6), .ref (b 7), .ref (b 8), .ref (b 9), .int 0, .ref (b 11), .int 0, .ref (b 13), .ref (b 14)])), ((b 9), .inl (g.2.1.2.1, 36, .inl (fun _ => 0)))] sz (fun (r : Int32) (u : (Int32 × List Value)) => r = 0) (fun (u : (Int32 × List Value)) => [(mm, .inr (2, .int u.1 :: u.2))]) 0 0 := by
  refine g_of (l := l) (y := yX2_forgetPriorities) (wy := wsX2_forgetPriorities) (rm := ({ frames := 0, cells := 0, slots := 0, locals := 0 } : Room)) (g := g) (av := [.ref mm]) (ws := [(mm, .inr (2, [.int 0, .int 0, .int 0, .ref (b 3), .ref (b 4), .int 0, .ref (b 6), .ref (b 7), .ref (b 8), .ref (b 9), .int 0, .ref (b 11), .int 0, .ref (b 13), .ref (b 14)])), ((b 9), .inl (g.2.1.2.1, 36, .inl (fun _ => 0)))]) (sz := sz) (mc := 0) (ms := 0) (Qc := fun A => va_Qi (fun (r : Int32) (u : (Int32 × List Value)) => r = 0) (fun u t9 => gPost g A ((fun (u : (Int32 × List Value)) => [(mm, .inr (2, .int u.1 :: u.2))]) u) t9) A) (cc := cX2_forgetPriorities) (maxL := 4) (ret := some .int) (by decide) rfl (Nat.le_of_ble_eq_true rfl) ?_
  intro p e s m below meth c A ls hx hb hr hml hown hts hlocks hnm hA hK hE hP hD hS hl
  have hl : lv_has ls 4 [(0, .ref mm)] := hl
  have hown : s.vm.findClass RX2 = some m.cls := hown
  have hP : va_P g.1 vwCl [(mm, .inr (2, [.int 0, .int 0, .int 0, .ref (b 3), .ref (b 4), .int 0, .ref (b 6), .ref (b 7), .ref (b 8), .ref (b 9), .int 0, .ref (b 11), .int 0, .ref (b 13), .ref (b 14)])), ((b 9), .inl (g.2.1.2.1, 36, .inl (fun _ => 0)))] s.heap := hP
  have hinX2 : ∀ w ∈ u_ws RX2 TX2 15, w ∈ wsX2_forgetPriorities := by decide +kernel
  refine lv_aload_n hx hb dX2_forgetPriorities_0 rfl (lv_at hl 0 rfl) ?_
  refine lv_iconst (v := 0) hx hb dX2_forgetPriorities_1 (by decide) ?_
  refine va_put (D := g.1) (ci := 2) (v := .int 0) (ty := .int) (C := RX2) (T := TX2) (N := 15) hx hb hts hinX2 tyX2 tyX2_ok nmX2 hown hK hP hD hS 0 rfl rfl 0 (by decide) (hts (.fieldLink RX2 38 "DefaultReasonerModel" "thrown" "I") (by decide +kernel)) (fun _ h9 => h9) rfl (by decide +kernel) rfl rfl (Nat.le_of_ble_eq_true rfl) dX2_forgetPriorities_2 (fun H locs hP hD hS => ?_)
  have hP : va_P g.1 vwCl [(mm, .inr (2, [.int 0, .int 0, .int 0, .ref (b 3), .ref (b 4), .int 0, .ref (b 6), .ref (b 7), .ref (b 8), .ref (b 9), .int 0, .ref (b 11), .int 0, .ref (b 13), .ref (b 14)])), ((b 9), .inl (g.2.1.2.1, 36, .inl (fun _ => 0)))] H := hP
  have hD : va_D A [(mm, .inr (2, [.int 0, .int 0, .int 0, .ref (b 3), .ref (b 4), .int 0, .ref (b 6), .ref (b 7), .ref (b 8), .ref (b 9), .int 0, .ref (b 11), .int 0, .ref (b 13), .ref (b 14)])), ((b 9), .inl (g.2.1.2.1, 36, .inl (fun _ => 0)))] := hD
  refine lv_iconst (v := 0) hx hb dX2_forgetPriorities_5 (by decide) ?_
  refine lv_istore_n (lv' := [(1, .int 0), (0, .ref mm)]) hx hb dX2_forgetPriorities_6 rfl hl (by decide) rfl (fun ls hl => ?_)
  refine lv_iconst (v := 0) hx hb dX2_forgetPriorities_7 (by decide) ?_
  refine lv_istore_n (lv' := [(2, .int 0), (1, .int 0), (0, .ref mm)]) hx hb dX2_forgetPriorities_8 rfl hl (by decide) rfl (fun ls hl => ?_)
  refine lv_iload_n hx hb dX2_forgetPriorities_9 rfl (lv_at hl 0 rfl) ?_
  refine lv_aload_n hx hb dX2_forgetPriorities_10 rfl (lv_at hl 2 rfl) ?_
  refine va_get (D := g.1) (ci := 2) (v := .int 0) (C := RX2) (T := TX2) (N := 15) hx hb hts hinX2 hown hK hP 0 rfl rfl 5 (by decide) (hts (.fieldLink RX2 43 "DefaultReasonerModel" "defaults" "I") (by decide +kernel)) (fun _ h9 => h9) rfl dX2_forgetPriorities_11 ?_
  refine lv_icmp_ge (tgt := 56) hx hb dX2_forgetPriorities_14 (by decide) (fun _ => ?_) (fun c9 => absurd (by decide) c9)
  refine lv_iconst (v := 0) hx hb dX2_forgetPriorities_56 (by decide) ?_
  refine lv_istore_n (lv' := [(2, .int 0), (1, .int 0), (0, .ref mm)]) hx hb dX2_forgetPriorities_57 rfl hl (by decide) rfl (fun ls hl => ?_)
  refine lv_iload_n hx hb dX2_forgetPriorities_58 rfl (lv_at hl 0 rfl) ?_
  refine lv_bipush (v := 36) hx hb dX2_forgetPriorities_59 (by decide) ?_
  refine lv_icmp_ge (tgt := 77) hx hb dX2_forgetPriorities_61 (by decide) (fun c9 => absurd c9 (by decide)) (fun _ => ?_)
  refine lv_aload_n hx hb dX2_forgetPriorities_64 rfl (lv_at hl 2 rfl) ?_
  refine va_get (D := g.1) (ci := 2) (v := .ref (b 9)) (C := RX2) (T := TX2) (N := 15) hx hb hts hinX2 hown hK hP 0 rfl rfl 9 (by decide) (hts (.fieldLink RX2 25 "DefaultReasonerModel" "told" "[Z") (by decide +kernel)) (fun _ h9 => h9) rfl dX2_forgetPriorities_65 ?_
  refine lv_iload_n hx hb dX2_forgetPriorities_68 rfl (lv_at hl 0 rfl) ?_
  refine lv_iconst (v := 0) hx hb dX2_forgetPriorities_69 (by decide) ?_
  refine va_zast hx hb hK hP hD hS 1 1 rfl rfl (by unfold vp_in; decide) dX2_forgetPriorities_70 (fun H locs hP hD hS => ?_)
  have hP : va_P g.1 vwCl [(mm, .inr (2, [.int 0, .int 0, .int 0, .ref (b 3), .ref (b 4), .int 0, .ref (b 6), .ref (b 7), .ref (b 8), .ref (b 9), .int 0, .ref (b 11), .int 0, .ref (b 13), .ref (b 14)])), ((b 9), .inl (g.2.1.2.1, 36, .inl (upd (fun _ => 0) 0 0)))] H := hP
  have hD : va_D A [(mm, .inr (2, [.int 0, .int 0, .int 0, .ref (b 3), .ref (b 4), .int 0, .ref (b 6), .ref (b 7), .ref (b 8), .ref (b 9), .int 0, .ref (b 11), .int 0, .ref (b 13), .ref (b 14)])), ((b 9), .inl (g.2.1.2.1, 36, .inl (upd (fun _ => 0) 0 0)))] := hD
  refine lv_iinc (v := 1) (lv' := [(2, .int 1), (1, .int 0), (0, .ref mm)]) hx hb dX2_forgetPriorities_71 hl (k := 0) rfl (by decide) (by decide) rfl (fun ls hl => ?_)
  refine lv_goto (tgt := 58) hx hb dX2_forgetPriorities_74 (by decide) ?_
  refine lv_iload_n hx hb dX2_forgetPriorities_58 rfl (lv_at hl 0 rfl) ?_
  refine lv_bipush (v := 36) hx hb dX2_forgetPriorities_59 (by decide) ?_
  refine lv_icmp_ge (tgt := 77) hx hb dX2_forgetPriorities_61 (by decide) (fun c9 => absurd c9 (by decide)) (fun _ => ?_)
  refine lv_aload_n hx hb dX2_forgetPriorities_64 rfl (lv_at hl 2 rfl) ?_
  refine va_get (D := g.1) (ci := 2) (v := .ref (b 9)) (C := RX2) (T := TX2) (N := 15) hx hb hts hinX2 hown hK hP 0 rfl rfl 9 (by decide) (hts (.fieldLink RX2 25 "DefaultReasonerModel" "told" "[Z") (by decide +kernel)) (fun _ h9 => h9) rfl dX2_forgetPriorities_65 ?_
  refine lv_iload_n hx hb dX2_forgetPriorities_68 rfl (lv_at hl 0 rfl) ?_
  refine lv_iconst (v := 0) hx hb dX2_forgetPriorities_69 (by decide) ?_
  refine va_zast hx hb hK hP hD hS 1 1 rfl rfl (by unfold vp_in; decide) dX2_forgetPriorities_70 (fun H locs hP hD hS => ?_)
  have hP : va_P g.1 vwCl [(mm, .inr (2, [.int 0, .int 0, .int 0, .ref (b 3), .ref (b 4), .int 0, .ref (b 6), .ref (b 7), .ref (b 8), .ref (b 9), .int 0, .ref (b 11), .int 0, .ref (b 13), .ref (b 14)])), ((b 9), .inl (g.2.1.2.1, 36, .inl (upd (upd (fun _ => 0) 0 0) 1 0)))] H := hP
  have hD : va_D A [(mm, .inr (2, [.int 0, .int 0, .int 0, .ref (b 3), .ref (b 4), .int 0, .ref (b 6), .ref (b 7), .ref (b 8), .ref (b 9), .int 0, .ref (b 11), .int 0, .ref (b 13), .ref (b 14)])), ((b 9), .inl (g.2.1.2.1, 36, .inl (upd (upd (fun _ => 0) 0 0) 1 0)))] := hD
  refine lv_iinc (v := 2) (lv' := [(2, .int 2), (1, .int 0), (0, .ref mm)]) hx hb dX2_forgetPriorities_71 hl (k := 0) rfl (by decide) (by decide) rfl (fun ls hl => ?_)
  refine lv_goto (tgt := 58) hx hb dX2_forgetPriorities_74 (by decide) ?_
  refine lv_iload_n hx hb dX2_forgetPriorities_58 rfl (lv_at hl 0 rfl) ?_
  refine lv_bipush (v := 36) hx hb dX2_forgetPriorities_59 (by decide) ?_
  refine lv_icmp_ge (tgt := 77) hx hb dX2_forgetPriorities_61 (by decide) (fun c9 => absurd c9 (by decide)) (fun _ => ?_)
  refine lv_aload_n hx hb dX2_forgetPriorities_64 rfl (lv_at hl 2 rfl) ?_
  refine va_get (D := g.1) (ci := 2) (v := .ref (b 9)) (C := RX2) (T := TX2) (N := 15) hx hb hts hinX2 hown hK hP 0 rfl rfl 9 (by decide) (hts (.fieldLink RX2 25 "DefaultReasonerModel" "told" "[Z") (by decide +kernel)) (fun _ h9 => h9) rfl dX2_forgetPriorities_65 ?_
  refine lv_iload_n hx hb dX2_forgetPriorities_68 rfl (lv_at hl 0 rfl) ?_
  refine lv_iconst (v := 0) hx hb dX2_forgetPriorities_69 (by decide) ?_
  refine va_zast hx hb hK hP hD hS 1 1 rfl rfl (by unfold vp_in; decide) dX2_forgetPriorities_70 (fun H locs hP hD hS => ?_)
  have hP : va_P g.1 vwCl [(mm, .inr (2, [.int 0, .int 0, .int 0, .ref (b 3), .ref (b 4), .int 0, .ref (b 6), .ref (b 7), .ref (b 8), .ref (b 9), .int 0, .ref (b 11), .int 0, .ref (b 13), .ref (b 14)])), ((b 9), .inl (g.2.1.2.1, 36, .inl (upd (upd (upd (fun _ => 0) 0 0) 1 0) 2 0)))] H := hP
  have hD : va_D A [(mm, .inr (2, [.int 0, .int 0, .int 0, .ref (b 3), .ref (b 4), .int 0, .ref (b 6), .ref (b 7), .ref (b 8), .ref (b 9), .int 0, .ref (b 11), .int 0, .ref (b 13), .ref (b 14)])), ((b 9), .inl (g.2.1.2.1, 36, .inl (upd (upd (upd (fun _ => 0) 0 0) 1 0) 2 0)))] := hD
  refine lv_iinc (v := 3) (lv' := [(2, .int 3), (1, .int 0), (0, .ref mm)]) hx hb dX2_forgetPriorities_71 hl (k := 0) rfl (by decide) (by decide) rfl (fun ls hl => ?_)
  refine lv_goto (tgt := 58) hx hb dX2_forgetPriorities_74 (by decide) ?_
  refine lv_iload_n hx hb dX2_forgetPriorities_58 rfl (lv_at hl 0 rfl) ?_
  refine lv_bipush (v := 36) hx hb dX2_forgetPriorities_59 (by decide) ?_
  refine lv_icmp_ge (tgt := 77) hx hb dX2_forgetPriorities_61 (by decide) (fun c9 => absurd c9 (by decide)) (fun _ => ?_)
  refine lv_aload_n hx hb dX2_forgetPriorities_64 rfl (lv_at hl 2 rfl) ?_
  refine va_get (D := g.1) (ci := 2) (v := .ref (b 9)) (C := RX2) (T := TX2) (N := 15) hx hb hts hinX2 hown hK hP 0 rfl rfl 9 (by decide) (hts (.fieldLink RX2 25 "DefaultReasonerModel" "told" "[Z") (by decide +kernel)) (fun _ h9 => h9) rfl dX2_forgetPriorities_65 ?_
  refine lv_iload_n hx hb dX2_forgetPriorities_68 rfl (lv_at hl 0 rfl) ?_
  refine lv_iconst (v := 0) hx hb dX2_forgetPriorities_69 (by decide) ?_
  refine va_zast hx hb hK hP hD hS 1 1 rfl rfl (by unfold vp_in; decide) dX2_forgetPriorities_70 (fun H locs hP hD hS => ?_)
  have hP : va_P g.1 vwCl [(mm, .inr (2, [.int 0, .int 0, .int 0, .ref (b 3), .ref (b 4), .int 0, .ref (b 6), .ref (b 7), .ref (b 8), .ref (b 9), .int 0, .ref (b 11), .int 0, .ref (b 13), .ref (b 14)])), ((b 9), .inl (g.2.1.2.1, 36, .inl (upd (upd (upd (upd (fun _ => 0) 0 0) 1 0) 2 0) 3 0)))] H := hP
  have hD : va_D A [(mm, .inr (2, [.int 0, .int 0, .int 0, .ref (b 3), .ref (b 4), .int 0, .ref (b 6), .ref (b 7), .ref (b 8), .ref (b 9), .int 0, .ref (b 11), .int 0, .ref (b 13), .ref (b 14)])), ((b 9), .inl (g.2.1.2.1, 36, .inl (upd (upd (upd (upd (fun _ => 0) 0 0) 1 0) 2 0) 3 0)))] := hD
  refine lv_iinc (v := 4) (lv' := [(2, .int 4), (1, .int 0), (0, .ref mm)]) hx hb dX2_forgetPriorities_71 hl (k := 0) rfl (by decide) (by decide) rfl (fun ls hl => ?_)
  refine lv_goto (tgt := 58) hx hb dX2_forgetPriorities_74 (by decide) ?_
  refine lv_iload_n hx hb dX2_forgetPriorities_58 rfl (lv_at hl 0 rfl) ?_
  refine lv_bipush (v := 36) hx hb dX2_forgetPriorities_59 (by decide) ?_
  refine lv_icmp_ge (tgt := 77) hx hb dX2_forgetPriorities_61 (by decide) (fun c9 => absurd c9 (by decide)) (fun _ => ?_)
  refine lv_aload_n hx hb dX2_forgetPriorities_64 rfl (lv_at hl 2 rfl) ?_
  refine va_get (D := g.1) (ci := 2) (v := .ref (b 9)) (C := RX2) (T := TX2) (N := 15) hx hb hts hinX2 hown hK hP 0 rfl rfl 9 (by decide) (hts (.fieldLink RX2 25 "DefaultReasonerModel" "told" "[Z") (by decide +kernel)) (fun _ h9 => h9) rfl dX2_forgetPriorities_65 ?_
  refine lv_iload_n hx hb dX2_forgetPriorities_68 rfl (lv_at hl 0 rfl) ?_
  refine lv_iconst (v := 0) hx hb dX2_forgetPriorities_69 (by decide) ?_
  refine va_zast hx hb hK hP hD hS 1 1 rfl rfl (by unfold vp_in; decide) dX2_forgetPriorities_70 (fun H locs hP hD hS => ?_)
  have hP : va_P g.1 vwCl [(mm, .inr (2, [.int 0, .int 0, .int 0, .ref (b 3), .ref (b 4), .int 0, .ref (b 6), .ref (b 7), .ref (b 8), .ref (b 9), .int 0, .ref (b 11), .int 0, .ref (b 13), .ref (b 14)])), ((b 9), .inl (g.2.1.2.1, 36, .inl (upd (upd (upd (upd (upd (fun _ => 0) 0 0) 1 0) 2 0) 3 0) 4 0)))] H := hP
  have hD : va_D A [(mm, .inr (2, [.int 0, .int 0, .int 0, .ref (b 3), .ref (b 4), .int 0, .ref (b 6), .ref (b 7), .ref (b 8), .ref (b 9), .int 0, .ref (b 11), .int 0, .ref (b 13), .ref (b 14)])), ((b 9), .inl (g.2.1.2.1, 36, .inl (upd (upd (upd (upd (upd (fun _ => 0) 0 0) 1 0) 2 0) 3 0) 4 0)))] := hD
  refine lv_iinc (v := 5) (lv' := [(2, .int 5), (1, .int 0), (0, .ref mm)]) hx hb dX2_forgetPriorities_71 hl (k := 0) rfl (by decide) (by decide) rfl (fun ls hl => ?_)
  refine lv_goto (tgt := 58) hx hb dX2_forgetPriorities_74 (by decide) ?_
  refine lv_iload_n hx hb dX2_forgetPriorities_58 rfl (lv_at hl 0 rfl) ?_
  refine lv_bipush (v := 36) hx hb dX2_forgetPriorities_59 (by decide) ?_
  refine lv_icmp_ge (tgt := 77) hx hb dX2_forgetPriorities_61 (by decide) (fun c9 => absurd c9 (by decide)) (fun _ => ?_)
  refine lv_aload_n hx hb dX2_forgetPriorities_64 rfl (lv_at hl 2 rfl) ?_
  refine va_get (D := g.1) (ci := 2) (v := .ref (b 9)) (C := RX2) (T := TX2) (N := 15) hx hb hts hinX2 hown hK hP 0 rfl rfl 9 (by decide) (hts (.fieldLink RX2 25 "DefaultReasonerModel" "told" "[Z") (by decide +kernel)) (fun _ h9 => h9) rfl dX2_forgetPriorities_65 ?_
  refine lv_iload_n hx hb dX2_forgetPriorities_68 rfl (lv_at hl 0 rfl) ?_
  refine lv_iconst (v := 0) hx hb dX2_forgetPriorities_69 (by decide) ?_
  refine va_zast hx hb hK hP hD hS 1 1 rfl rfl (by unfold vp_in; decide) dX2_forgetPriorities_70 (fun H locs hP hD hS => ?_)
  have hP : va_P g.1 vwCl [(mm, .inr (2, [.int 0, .int 0, .int 0, .ref (b 3), .ref (b 4), .int 0, .ref (b 6), .ref (b 7), .ref (b 8), .ref (b 9), .int 0, .ref (b 11), .int 0, .ref (b 13), .ref (b 14)])), ((b 9), .inl (g.2.1.2.1, 36, .inl (upd (upd (upd (upd (upd (upd (fun _ => 0) 0 0) 1 0) 2 0) 3 0) 4 0) 5 0)))] H := hP
  have hD : va_D A [(mm, .inr (2, [.int 0, .int 0, .int 0, .ref (b 3), .ref (b 4), .int 0, .ref (b 6), .ref (b 7), .ref (b 8), .ref (b 9), .int 0, .ref (b 11), .int 0, .ref (b 13), .ref (b 14)])), ((b 9), .inl (g.2.1.2.1, 36, .inl (upd (upd (upd (upd (upd (upd (fun _ => 0) 0 0) 1 0) 2 0) 3 0) 4 0) 5 0)))] := hD
  refine lv_iinc (v := 6) (lv' := [(2, .int 6), (1, .int 0), (0, .ref mm)]) hx hb dX2_forgetPriorities_71 hl (k := 0) rfl (by decide) (by decide) rfl (fun ls hl => ?_)
  refine lv_goto (tgt := 58) hx hb dX2_forgetPriorities_74 (by decide) ?_
  refine lv_iload_n hx hb dX2_forgetPriorities_58 rfl (lv_at hl 0 rfl) ?_
  refine lv_bipush (v := 36) hx hb dX2_forgetPriorities_59 (by decide) ?_
  refine lv_icmp_ge (tgt := 77) hx hb dX2_forgetPriorities_61 (by decide) (fun c9 => absurd c9 (by decide)) (fun _ => ?_)
  refine lv_aload_n hx hb dX2_forgetPriorities_64 rfl (lv_at hl 2 rfl) ?_
  refine va_get (D := g.1) (ci := 2) (v := .ref (b 9)) (C := RX2) (T := TX2) (N := 15) hx hb hts hinX2 hown hK hP 0 rfl rfl 9 (by decide) (hts (.fieldLink RX2 25 "DefaultReasonerModel" "told" "[Z") (by decide +kernel)) (fun _ h9 => h9) rfl dX2_forgetPriorities_65 ?_
  refine lv_iload_n hx hb dX2_forgetPriorities_68 rfl (lv_at hl 0 rfl) ?_
  refine lv_iconst (v := 0) hx hb dX2_forgetPriorities_69 (by decide) ?_
  refine va_zast hx hb hK hP hD hS 1 1 rfl rfl (by unfold vp_in; decide) dX2_forgetPriorities_70 (fun H locs hP hD hS => ?_)
  have hP : va_P g.1 vwCl [(mm, .inr (2, [.int 0, .int 0, .int 0, .ref (b 3), .ref (b 4), .int 0, .ref (b 6), .ref (b 7), .ref (b 8), .ref (b 9), .int 0, .ref (b 11), .int 0, .ref (b 13), .ref (b 14)])), ((b 9), .inl (g.2.1.2.1, 36, .inl (upd (upd (upd (upd (upd (upd (upd (fun _ => 0) 0 0) 1 0) 2 0) 3 0) 4 0) 5 0) 6 0)))] H := hP
  have hD : va_D A [(mm, .inr (2, [.int 0, .int 0, .int 0, .ref (b 3), .ref (b 4), .int 0, .ref (b 6), .ref (b 7), .ref (b 8), .ref (b 9), .int 0, .ref (b 11), .int 0, .ref (b 13), .ref (b 14)])), ((b 9), .inl (g.2.1.2.1, 36, .inl (upd (upd (upd (upd (upd (upd (upd (fun _ => 0) 0 0) 1 0) 2 0) 3 0) 4 0) 5 0) 6 0)))] := hD
  refine lv_iinc (v := 7) (lv' := [(2, .int 7), (1, .int 0), (0, .ref mm)]) hx hb dX2_forgetPriorities_71 hl (k := 0) rfl (by decide) (by decide) rfl (fun ls hl => ?_)
  refine lv_goto (tgt := 58) hx hb dX2_forgetPriorities_74 (by decide) ?_
  refine lv_iload_n hx hb dX2_forgetPriorities_58 rfl (lv_at hl 0 rfl) ?_
  refine lv_bipush (v := 36) hx hb dX2_forgetPriorities_59 (by decide) ?_
  refine lv_icmp_ge (tgt := 77) hx hb dX2_forgetPriorities_61 (by decide) (fun c9 => absurd c9 (by decide)) (fun _ => ?_)
  refine lv_aload_n hx hb dX2_forgetPriorities_64 rfl (lv_at hl 2 rfl) ?_
  refine va_get (D := g.1) (ci := 2) (v := .ref (b 9)) (C := RX2) (T := TX2) (N := 15) hx hb hts hinX2 hown hK hP 0 rfl rfl 9 (by decide) (hts (.fieldLink RX2 25 "DefaultReasonerModel" "told" "[Z") (by decide +kernel)) (fun _ h9 => h9) rfl dX2_forgetPriorities_65 ?_
  refine lv_iload_n hx hb dX2_forgetPriorities_68 rfl (lv_at hl 0 rfl) ?_
  refine lv_iconst (v := 0) hx hb dX2_forgetPriorities_69 (by decide) ?_
  refine va_zast hx hb hK hP hD hS 1 1 rfl rfl (by unfold vp_in; decide) dX2_forgetPriorities_70 (fun H locs hP hD hS => ?_)
  have hP : va_P g.1 vwCl [(mm, .inr (2, [.int 0, .int 0, .int 0, .ref (b 3), .ref (b 4), .int 0, .ref (b 6), .ref (b 7), .ref (b 8), .ref (b 9), .int 0, .ref (b 11), .int 0, .ref (b 13), .ref (b 14)])), ((b 9), .inl (g.2.1.2.1, 36, .inl (upd (upd (upd (upd (upd (upd (upd (upd (fun _ => 0) 0 0) 1 0) 2 0) 3 0) 4 0) 5 0) 6 0) 7 0)))] H := hP
  have hD : va_D A [(mm, .inr (2, [.int 0, .int 0, .int 0, .ref (b 3), .ref (b 4), .int 0, .ref (b 6), .ref (b 7), .ref (b 8), .ref (b 9), .int 0, .ref (b 11), .int 0, .ref (b 13), .ref (b 14)])), ((b 9), .inl (g.2.1.2.1, 36, .inl (upd (upd (upd (upd (upd (upd (upd (upd (fun _ => 0) 0 0) 1 0) 2 0) 3 0) 4 0) 5 0) 6 0) 7 0)))] := hD
  refine lv_iinc (v := 8) (lv' := [(2, .int 8), (1, .int 0), (0, .ref mm)]) hx hb dX2_forgetPriorities_71 hl (k := 0) rfl (by decide) (by decide) rfl (fun ls hl => ?_)
  refine lv_goto (tgt := 58) hx hb dX2_forgetPriorities_74 (by decide) ?_
  refine lv_iload_n hx hb dX2_forgetPriorities_58 rfl (lv_at hl 0 rfl) ?_
  refine lv_bipush (v := 36) hx hb dX2_forgetPriorities_59 (by decide) ?_
  refine lv_icmp_ge (tgt := 77) hx hb dX2_forgetPriorities_61 (by decide) (fun c9 => absurd c9 (by decide)) (fun _ => ?_)
  refine lv_aload_n hx hb dX2_forgetPriorities_64 rfl (lv_at hl 2 rfl) ?_
  refine va_get (D := g.1) (ci := 2) (v := .ref (b 9)) (C := RX2) (T := TX2) (N := 15) hx hb hts hinX2 hown hK hP 0 rfl rfl 9 (by decide) (hts (.fieldLink RX2 25 "DefaultReasonerModel" "told" "[Z") (by decide +kernel)) (fun _ h9 => h9) rfl dX2_forgetPriorities_65 ?_
  refine lv_iload_n hx hb dX2_forgetPriorities_68 rfl (lv_at hl 0 rfl) ?_
  refine lv_iconst (v := 0) hx hb dX2_forgetPriorities_69 (by decide) ?_
  refine va_zast hx hb hK hP hD hS 1 1 rfl rfl (by unfold vp_in; decide) dX2_forgetPriorities_70 (fun H locs hP hD hS => ?_)
  have hP : va_P g.1 vwCl [(mm, .inr (2, [.int 0, .int 0, .int 0, .ref (b 3), .ref (b 4), .int 0, .ref (b 6), .ref (b 7), .ref (b 8), .ref (b 9), .int 0, .ref (b 11), .int 0, .ref (b 13), .ref (b 14)])), ((b 9), .inl (g.2.1.2.1, 36, .inl (upd (upd (upd (upd (upd (upd (upd (upd (upd (fun _ => 0) 0 0) 1 0) 2 0) 3 0) 4 0) 5 0) 6 0) 7 0) 8 0)))] H := hP
  have hD : va_D A [(mm, .inr (2, [.int 0, .int 0, .int 0, .ref (b 3), .ref (b 4), .int 0, .ref (b 6), .ref (b 7), .ref (b 8), .ref (b 9), .int 0, .ref (b 11), .int 0, .ref (b 13), .ref (b 14)])), ((b 9), .inl (g.2.1.2.1, 36, .inl (upd (upd (upd (upd (upd (upd (upd (upd (upd (fun _ => 0) 0 0) 1 0) 2 0) 3 0) 4 0) 5 0) 6 0) 7 0) 8 0)))] := hD
  refine lv_iinc (v := 9) (lv' := [(2, .int 9), (1, .int 0), (0, .ref mm)]) hx hb dX2_forgetPriorities_71 hl (k := 0) rfl (by decide) (by decide) rfl (fun ls hl => ?_)
  refine lv_goto (tgt := 58) hx hb dX2_forgetPriorities_74 (by decide) ?_
  refine lv_iload_n hx hb dX2_forgetPriorities_58 rfl (lv_at hl 0 rfl) ?_
  refine lv_bipush (v := 36) hx hb dX2_forgetPriorities_59 (by decide) ?_
  refine lv_icmp_ge (tgt := 77) hx hb dX2_forgetPriorities_61 (by decide) (fun c9 => absurd c9 (by decide)) (fun _ => ?_)
  refine lv_aload_n hx hb dX2_forgetPriorities_64 rfl (lv_at hl 2 rfl) ?_
  refine va_get (D := g.1) (ci := 2) (v := .ref (b 9)) (C := RX2) (T := TX2) (N := 15) hx hb hts hinX2 hown hK hP 0 rfl rfl 9 (by decide) (hts (.fieldLink RX2 25 "DefaultReasonerModel" "told" "[Z") (by decide +kernel)) (fun _ h9 => h9) rfl dX2_forgetPriorities_65 ?_
  refine lv_iload_n hx hb dX2_forgetPriorities_68 rfl (lv_at hl 0 rfl) ?_
  refine lv_iconst (v := 0) hx hb dX2_forgetPriorities_69 (by decide) ?_
  refine va_zast hx hb hK hP hD hS 1 1 rfl rfl (by unfold vp_in; decide) dX2_forgetPriorities_70 (fun H locs hP hD hS => ?_)
  have hP : va_P g.1 vwCl [(mm, .inr (2, [.int 0, .int 0, .int 0, .ref (b 3), .ref (b 4), .int 0, .ref (b 6), .ref (b 7), .ref (b 8), .ref (b 9), .int 0, .ref (b 11), .int 0, .ref (b 13), .ref (b 14)])), ((b 9), .inl (g.2.1.2.1, 36, .inl (upd (upd (upd (upd (upd (upd (upd (upd (upd (upd (fun _ => 0) 0 0) 1 0) 2 0) 3 0) 4 0) 5 0) 6 0) 7 0) 8 0) 9 0)))] H := hP
  have hD : va_D A [(mm, .inr (2, [.int 0, .int 0, .int 0, .ref (b 3), .ref (b 4), .int 0, .ref (b 6), .ref (b 7), .ref (b 8), .ref (b 9), .int 0, .ref (b 11), .int 0, .ref (b 13), .ref (b 14)])), ((b 9), .inl (g.2.1.2.1, 36, .inl (upd (upd (upd (upd (upd (upd (upd (upd (upd (upd (fun _ => 0) 0 0) 1 0) 2 0) 3 0) 4 0) 5 0) 6 0) 7 0) 8 0) 9 0)))] := hD
  refine lv_iinc (v := 10) (lv' := [(2, .int 10), (1, .int 0), (0, .ref mm)]) hx hb dX2_forgetPriorities_71 hl (k := 0) rfl (by decide) (by decide) rfl (fun ls hl => ?_)
  refine lv_goto (tgt := 58) hx hb dX2_forgetPriorities_74 (by decide) ?_
  refine lv_iload_n hx hb dX2_forgetPriorities_58 rfl (lv_at hl 0 rfl) ?_
  refine lv_bipush (v := 36) hx hb dX2_forgetPriorities_59 (by decide) ?_
  refine lv_icmp_ge (tgt := 77) hx hb dX2_forgetPriorities_61 (by decide) (fun c9 => absurd c9 (by decide)) (fun _ => ?_)
  refine lv_aload_n hx hb dX2_forgetPriorities_64 rfl (lv_at hl 2 rfl) ?_
  refine va_get (D := g.1) (ci := 2) (v := .ref (b 9)) (C := RX2) (T := TX2) (N := 15) hx hb hts hinX2 hown hK hP 0 rfl rfl 9 (by decide) (hts (.fieldLink RX2 25 "DefaultReasonerModel" "told" "[Z") (by decide +kernel)) (fun _ h9 => h9) rfl dX2_forgetPriorities_65 ?_
  refine lv_iload_n hx hb dX2_forgetPriorities_68 rfl (lv_at hl 0 rfl) ?_
  refine lv_iconst (v := 0) hx hb dX2_forgetPriorities_69 (by decide) ?_
  refine va_zast hx hb hK hP hD hS 1 1 rfl rfl (by unfold vp_in; decide) dX2_forgetPriorities_70 (fun H locs hP hD hS => ?_)
  have hP : va_P g.1 vwCl [(mm, .inr (2, [.int 0, .int 0, .int 0, .ref (b 3), .ref (b 4), .int 0, .ref (b 6), .ref (b 7), .ref (b 8), .ref (b 9), .int 0, .ref (b 11), .int 0, .ref (b 13), .ref (b 14)])), ((b 9), .inl (g.2.1.2.1, 36, .inl (upd (upd (upd (upd (upd (upd (upd (upd (upd (upd (upd (fun _ => 0) 0 0) 1 0) 2 0) 3 0) 4 0) 5 0) 6 0) 7 0) 8 0) 9 0) 10 0)))] H := hP
  have hD : va_D A [(mm, .inr (2, [.int 0, .int 0, .int 0, .ref (b 3), .ref (b 4), .int 0, .ref (b 6), .ref (b 7), .ref (b 8), .ref (b 9), .int 0, .ref (b 11), .int 0, .ref (b 13), .ref (b 14)])), ((b 9), .inl (g.2.1.2.1, 36, .inl (upd (upd (upd (upd (upd (upd (upd (upd (upd (upd (upd (fun _ => 0) 0 0) 1 0) 2 0) 3 0) 4 0) 5 0) 6 0) 7 0) 8 0) 9 0) 10 0)))] := hD
  refine lv_iinc (v := 11) (lv' := [(2, .int 11), (1, .int 0), (0, .ref mm)]) hx hb dX2_forgetPriorities_71 hl (k := 0) rfl (by decide) (by decide) rfl (fun ls hl => ?_)
  refine lv_goto (tgt := 58) hx hb dX2_forgetPriorities_74 (by decide) ?_
  refine lv_iload_n hx hb dX2_forgetPriorities_58 rfl (lv_at hl 0 rfl) ?_
  refine lv_bipush (v := 36) hx hb dX2_forgetPriorities_59 (by decide) ?_
  refine lv_icmp_ge (tgt := 77) hx hb dX2_forgetPriorities_61 (by decide) (fun c9 => absurd c9 (by decide)) (fun _ => ?_)
  refine lv_aload_n hx hb dX2_forgetPriorities_64 rfl (lv_at hl 2 rfl) ?_
  refine va_get (D := g.1) (ci := 2) (v := .ref (b 9)) (C := RX2) (T := TX2) (N := 15) hx hb hts hinX2 hown hK hP 0 rfl rfl 9 (by decide) (hts (.fieldLink RX2 25 "DefaultReasonerModel" "told" "[Z") (by decide +kernel)) (fun _ h9 => h9) rfl dX2_forgetPriorities_65 ?_
  refine lv_iload_n hx hb dX2_forgetPriorities_68 rfl (lv_at hl 0 rfl) ?_
  refine lv_iconst (v := 0) hx hb dX2_forgetPriorities_69 (by decide) ?_
  refine va_zast hx hb hK hP hD hS 1 1 rfl rfl (by unfold vp_in; decide) dX2_forgetPriorities_70 (fun H locs hP hD hS => ?_)
  have hP : va_P g.1 vwCl [(mm, .inr (2, [.int 0, .int 0, .int 0, .ref (b 3), .ref (b 4), .int 0, .ref (b 6), .ref (b 7), .ref (b 8), .ref (b 9), .int 0, .ref (b 11), .int 0, .ref (b 13), .ref (b 14)])), ((b 9), .inl (g.2.1.2.1, 36, .inl (upd (upd (upd (upd (upd (upd (upd (upd (upd (upd (upd (upd (fun _ => 0) 0 0) 1 0) 2 0) 3 0) 4 0) 5 0) 6 0) 7 0) 8 0) 9 0) 10 0) 11 0)))] H := hP
  have hD : va_D A [(mm, .inr (2, [.int 0, .int 0, .int 0, .ref (b 3), .ref (b 4), .int 0, .ref (b 6), .ref (b 7), .ref (b 8), .ref (b 9), .int 0, .ref (b 11), .int 0, .ref (b 13), .ref (b 14)])), ((b 9), .inl (g.2.1.2.1, 36, .inl (upd (upd (upd (upd (upd (upd (upd (upd (upd (upd (upd (upd (fun _ => 0) 0 0) 1 0) 2 0) 3 0) 4 0) 5 0) 6 0) 7 0) 8 0) 9 0) 10 0) 11 0)))] := hD
  refine lv_iinc (v := 12) (lv' := [(2, .int 12), (1, .int 0), (0, .ref mm)]) hx hb dX2_forgetPriorities_71 hl (k := 0) rfl (by decide) (by decide) rfl (fun ls hl => ?_)
  refine lv_goto (tgt := 58) hx hb dX2_forgetPriorities_74 (by decide) ?_
  refine lv_iload_n hx hb dX2_forgetPriorities_58 rfl (lv_at hl 0 rfl) ?_
  refine lv_bipush (v := 36) hx hb dX2_forgetPriorities_59 (by decide) ?_
  refine lv_icmp_ge (tgt := 77) hx hb dX2_forgetPriorities_61 (by decide) (fun c9 => absurd c9 (by decide)) (fun _ => ?_)
  refine lv_aload_n hx hb dX2_forgetPriorities_64 rfl (lv_at hl 2 rfl) ?_
  refine va_get (D := g.1) (ci := 2) (v := .ref (b 9)) (C := RX2) (T := TX2) (N := 15) hx hb hts hinX2 hown hK hP 0 rfl rfl 9 (by decide) (hts (.fieldLink RX2 25 "DefaultReasonerModel" "told" "[Z") (by decide +kernel)) (fun _ h9 => h9) rfl dX2_forgetPriorities_65 ?_
  refine lv_iload_n hx hb dX2_forgetPriorities_68 rfl (lv_at hl 0 rfl) ?_
  refine lv_iconst (v := 0) hx hb dX2_forgetPriorities_69 (by decide) ?_
  refine va_zast hx hb hK hP hD hS 1 1 rfl rfl (by unfold vp_in; decide) dX2_forgetPriorities_70 (fun H locs hP hD hS => ?_)
  have hP : va_P g.1 vwCl [(mm, .inr (2, [.int 0, .int 0, .int 0, .ref (b 3), .ref (b 4), .int 0, .ref (b 6), .ref (b 7), .ref (b 8), .ref (b 9), .int 0, .ref (b 11), .int 0, .ref (b 13), .ref (b 14)])), ((b 9), .inl (g.2.1.2.1, 36, .inl (upd (upd (upd (upd (upd (upd (upd (upd (upd (upd (upd (upd (upd (fun _ => 0) 0 0) 1 0) 2 0) 3 0) 4 0) 5 0) 6 0) 7 0) 8 0) 9 0) 10 0) 11 0) 12 0)))] H := hP
  have hD : va_D A [(mm, .inr (2, [.int 0, .int 0, .int 0, .ref (b 3), .ref (b 4), .int 0, .ref (b 6), .ref (b 7), .ref (b 8), .ref (b 9), .int 0, .ref (b 11), .int 0, .ref (b 13), .ref (b 14)])), ((b 9), .inl (g.2.1.2.1, 36, .inl (upd (upd (upd (upd (upd (upd (upd (upd (upd (upd (upd (upd (upd (fun _ => 0) 0 0) 1 0) 2 0) 3 0) 4 0) 5 0) 6 0) 7 0) 8 0) 9 0) 10 0) 11 0) 12 0)))] := hD
  refine lv_iinc (v := 13) (lv' := [(2, .int 13), (1, .int 0), (0, .ref mm)]) hx hb dX2_forgetPriorities_71 hl (k := 0) rfl (by decide) (by decide) rfl (fun ls hl => ?_)
  refine lv_goto (tgt := 58) hx hb dX2_forgetPriorities_74 (by decide) ?_
  refine lv_iload_n hx hb dX2_forgetPriorities_58 rfl (lv_at hl 0 rfl) ?_
  refine lv_bipush (v := 36) hx hb dX2_forgetPriorities_59 (by decide) ?_
  refine lv_icmp_ge (tgt := 77) hx hb dX2_forgetPriorities_61 (by decide) (fun c9 => absurd c9 (by decide)) (fun _ => ?_)
  refine lv_aload_n hx hb dX2_forgetPriorities_64 rfl (lv_at hl 2 rfl) ?_
  refine va_get (D := g.1) (ci := 2) (v := .ref (b 9)) (C := RX2) (T := TX2) (N := 15) hx hb hts hinX2 hown hK hP 0 rfl rfl 9 (by decide) (hts (.fieldLink RX2 25 "DefaultReasonerModel" "told" "[Z") (by decide +kernel)) (fun _ h9 => h9) rfl dX2_forgetPriorities_65 ?_
  refine lv_iload_n hx hb dX2_forgetPriorities_68 rfl (lv_at hl 0 rfl) ?_
  refine lv_iconst (v := 0) hx hb dX2_forgetPriorities_69 (by decide) ?_
  refine va_zast hx hb hK hP hD hS 1 1 rfl rfl (by unfold vp_in; decide) dX2_forgetPriorities_70 (fun H locs hP hD hS => ?_)
  have hP : va_P g.1 vwCl [(mm, .inr (2, [.int 0, .int 0, .int 0, .ref (b 3), .ref (b 4), .int 0, .ref (b 6), .ref (b 7), .ref (b 8), .ref (b 9), .int 0, .ref (b 11), .int 0, .ref (b 13), .ref (b 14)])), ((b 9), .inl (g.2.1.2.1, 36, .inl (upd (upd (upd (upd (upd (upd (upd (upd (upd (upd (upd (upd (upd (upd (fun _ => 0) 0 0) 1 0) 2 0) 3 0) 4 0) 5 0) 6 0) 7 0) 8 0) 9 0) 10 0) 11 0) 12 0) 13 0)))] H := hP
  have hD : va_D A [(mm, .inr (2, [.int 0, .int 0, .int 0, .ref (b 3), .ref (b 4), .int 0, .ref (b 6), .ref (b 7), .ref (b 8), .ref (b 9), .int 0, .ref (b 11), .int 0, .ref (b 13), .ref (b 14)])), ((b 9), .inl (g.2.1.2.1, 36, .inl (upd (upd (upd (upd (upd (upd (upd (upd (upd (upd (upd (upd (upd (upd (fun _ => 0) 0 0) 1 0) 2 0) 3 0) 4 0) 5 0) 6 0) 7 0) 8 0) 9 0) 10 0) 11 0) 12 0) 13 0)))] := hD
  refine lv_iinc (v := 14) (lv' := [(2, .int 14), (1, .int 0), (0, .ref mm)]) hx hb dX2_forgetPriorities_71 hl (k := 0) rfl (by decide) (by decide) rfl (fun ls hl => ?_)
  refine lv_goto (tgt := 58) hx hb dX2_forgetPriorities_74 (by decide) ?_
  refine lv_iload_n hx hb dX2_forgetPriorities_58 rfl (lv_at hl 0 rfl) ?_
  refine lv_bipush (v := 36) hx hb dX2_forgetPriorities_59 (by decide) ?_
  refine lv_icmp_ge (tgt := 77) hx hb dX2_forgetPriorities_61 (by decide) (fun c9 => absurd c9 (by decide)) (fun _ => ?_)
  refine lv_aload_n hx hb dX2_forgetPriorities_64 rfl (lv_at hl 2 rfl) ?_
  refine va_get (D := g.1) (ci := 2) (v := .ref (b 9)) (C := RX2) (T := TX2) (N := 15) hx hb hts hinX2 hown hK hP 0 rfl rfl 9 (by decide) (hts (.fieldLink RX2 25 "DefaultReasonerModel" "told" "[Z") (by decide +kernel)) (fun _ h9 => h9) rfl dX2_forgetPriorities_65 ?_
  refine lv_iload_n hx hb dX2_forgetPriorities_68 rfl (lv_at hl 0 rfl) ?_
  refine lv_iconst (v := 0) hx hb dX2_forgetPriorities_69 (by decide) ?_
  refine va_zast hx hb hK hP hD hS 1 1 rfl rfl (by unfold vp_in; decide) dX2_forgetPriorities_70 (fun H locs hP hD hS => ?_)
  have hP : va_P g.1 vwCl [(mm, .inr (2, [.int 0, .int 0, .int 0, .ref (b 3), .ref (b 4), .int 0, .ref (b 6), .ref (b 7), .ref (b 8), .ref (b 9), .int 0, .ref (b 11), .int 0, .ref (b 13), .ref (b 14)])), ((b 9), .inl (g.2.1.2.1, 36, .inl (upd (upd (upd (upd (upd (upd (upd (upd (upd (upd (upd (upd (upd (upd (upd (fun _ => 0) 0 0) 1 0) 2 0) 3 0) 4 0) 5 0) 6 0) 7 0) 8 0) 9 0) 10 0) 11 0) 12 0) 13 0) 14 0)))] H := hP
  have hD : va_D A [(mm, .inr (2, [.int 0, .int 0, .int 0, .ref (b 3), .ref (b 4), .int 0, .ref (b 6), .ref (b 7), .ref (b 8), .ref (b 9), .int 0, .ref (b 11), .int 0, .ref (b 13), .ref (b 14)])), ((b 9), .inl (g.2.1.2.1, 36, .inl (upd (upd (upd (upd (upd (upd (upd (upd (upd (upd (upd (upd (upd (upd (upd (fun _ => 0) 0 0) 1 0) 2 0) 3 0) 4 0) 5 0) 6 0) 7 0) 8 0) 9 0) 10 0) 11 0) 12 0) 13 0) 14 0)))] := hD
  refine lv_iinc (v := 15) (lv' := [(2, .int 15), (1, .int 0), (0, .ref mm)]) hx hb dX2_forgetPriorities_71 hl (k := 0) rfl (by decide) (by decide) rfl (fun ls hl => ?_)
  refine lv_goto (tgt := 58) hx hb dX2_forgetPriorities_74 (by decide) ?_
  refine lv_iload_n hx hb dX2_forgetPriorities_58 rfl (lv_at hl 0 rfl) ?_
  refine lv_bipush (v := 36) hx hb dX2_forgetPriorities_59 (by decide) ?_
  refine lv_icmp_ge (tgt := 77) hx hb dX2_forgetPriorities_61 (by decide) (fun c9 => absurd c9 (by decide)) (fun _ => ?_)
  refine lv_aload_n hx hb dX2_forgetPriorities_64 rfl (lv_at hl 2 rfl) ?_
  refine va_get (D := g.1) (ci := 2) (v := .ref (b 9)) (C := RX2) (T := TX2) (N := 15) hx hb hts hinX2 hown hK hP 0 rfl rfl 9 (by decide) (hts (.fieldLink RX2 25 "DefaultReasonerModel" "told" "[Z") (by decide +kernel)) (fun _ h9 => h9) rfl dX2_forgetPriorities_65 ?_
  refine lv_iload_n hx hb dX2_forgetPriorities_68 rfl (lv_at hl 0 rfl) ?_
  refine lv_iconst (v := 0) hx hb dX2_forgetPriorities_69 (by decide) ?_
  refine va_zast hx hb hK hP hD hS 1 1 rfl rfl (by unfold vp_in; decide) dX2_forgetPriorities_70 (fun H locs hP hD hS => ?_)
  have hP : va_P g.1 vwCl [(mm, .inr (2, [.int 0, .int 0, .int 0, .ref (b 3), .ref (b 4), .int 0, .ref (b 6), .ref (b 7), .ref (b 8), .ref (b 9), .int 0, .ref (b 11), .int 0, .ref (b 13), .ref (b 14)])), ((b 9), .inl (g.2.1.2.1, 36, .inl (upd (upd (upd (upd (upd (upd (upd (upd (upd (upd (upd (upd (upd (upd (upd (upd (fun _ => 0) 0 0) 1 0) 2 0) 3 0) 4 0) 5 0) 6 0) 7 0) 8 0) 9 0) 10 0) 11 0) 12 0) 13 0) 14 0) 15 0)))] H := hP
  have hD : va_D A [(mm, .inr (2, [.int 0, .int 0, .int 0, .ref (b 3), .ref (b 4), .int 0, .ref (b 6), .ref (b 7), .ref (b 8), .ref (b 9), .int 0, .ref (b 11), .int 0, .ref (b 13), .ref (b 14)])), ((b 9), .inl (g.2.1.2.1, 36, .inl (upd (upd (upd (upd (upd (upd (upd (upd (upd (upd (upd (upd (upd (upd (upd (upd (fun _ => 0) 0 0) 1 0) 2 0) 3 0) 4 0) 5 0) 6 0) 7 0) 8 0) 9 0) 10 0) 11 0) 12 0) 13 0) 14 0) 15 0)))] := hD
  refine lv_iinc (v := 16) (lv' := [(2, .int 16), (1, .int 0), (0, .ref mm)]) hx hb dX2_forgetPriorities_71 hl (k := 0) rfl (by decide) (by decide) rfl (fun ls hl => ?_)
  refine lv_goto (tgt := 58) hx hb dX2_forgetPriorities_74 (by decide) ?_
  refine lv_iload_n hx hb dX2_forgetPriorities_58 rfl (lv_at hl 0 rfl) ?_
  refine lv_bipush (v := 36) hx hb dX2_forgetPriorities_59 (by decide) ?_
  refine lv_icmp_ge (tgt := 77) hx hb dX2_forgetPriorities_61 (by decide) (fun c9 => absurd c9 (by decide)) (fun _ => ?_)
  refine lv_aload_n hx hb dX2_forgetPriorities_64 rfl (lv_at hl 2 rfl) ?_
  refine va_get (D := g.1) (ci := 2) (v := .ref (b 9)) (C := RX2) (T := TX2) (N := 15) hx hb hts hinX2 hown hK hP 0 rfl rfl 9 (by decide) (hts (.fieldLink RX2 25 "DefaultReasonerModel" "told" "[Z") (by decide +kernel)) (fun _ h9 => h9) rfl dX2_forgetPriorities_65 ?_
  refine lv_iload_n hx hb dX2_forgetPriorities_68 rfl (lv_at hl 0 rfl) ?_
  refine lv_iconst (v := 0) hx hb dX2_forgetPriorities_69 (by decide) ?_
  refine va_zast hx hb hK hP hD hS 1 1 rfl rfl (by unfold vp_in; decide) dX2_forgetPriorities_70 (fun H locs hP hD hS => ?_)
  have hP : va_P g.1 vwCl [(mm, .inr (2, [.int 0, .int 0, .int 0, .ref (b 3), .ref (b 4), .int 0, .ref (b 6), .ref (b 7), .ref (b 8), .ref (b 9), .int 0, .ref (b 11), .int 0, .ref (b 13), .ref (b 14)])), ((b 9), .inl (g.2.1.2.1, 36, .inl (upd (upd (upd (upd (upd (upd (upd (upd (upd (upd (upd (upd (upd (upd (upd (upd (upd (fun _ => 0) 0 0) 1 0) 2 0) 3 0) 4 0) 5 0) 6 0) 7 0) 8 0) 9 0) 10 0) 11 0) 12 0) 13 0) 14 0) 15 0) 16 0)))] H := hP
  have hD : va_D A [(mm, .inr (2, [.int 0, .int 0, .int 0, .ref (b 3), .ref (b 4), .int 0, .ref (b 6), .ref (b 7), .ref (b 8), .ref (b 9), .int 0, .ref (b 11), .int 0, .ref (b 13), .ref (b 14)])), ((b 9), .inl (g.2.1.2.1, 36, .inl (upd (upd (upd (upd (upd (upd (upd (upd (upd (upd (upd (upd (upd (upd (upd (upd (upd (fun _ => 0) 0 0) 1 0) 2 0) 3 0) 4 0) 5 0) 6 0) 7 0) 8 0) 9 0) 10 0) 11 0) 12 0) 13 0) 14 0) 15 0) 16 0)))] := hD
  refine lv_iinc (v := 17) (lv' := [(2, .int 17), (1, .int 0), (0, .ref mm)]) hx hb dX2_forgetPriorities_71 hl (k := 0) rfl (by decide) (by decide) rfl (fun ls hl => ?_)
  refine lv_goto (tgt := 58) hx hb dX2_forgetPriorities_74 (by decide) ?_
  refine lv_iload_n hx hb dX2_forgetPriorities_58 rfl (lv_at hl 0 rfl) ?_
  refine lv_bipush (v := 36) hx hb dX2_forgetPriorities_59 (by decide) ?_
  refine lv_icmp_ge (tgt := 77) hx hb dX2_forgetPriorities_61 (by decide) (fun c9 => absurd c9 (by decide)) (fun _ => ?_)
  refine lv_aload_n hx hb dX2_forgetPriorities_64 rfl (lv_at hl 2 rfl) ?_
  refine va_get (D := g.1) (ci := 2) (v := .ref (b 9)) (C := RX2) (T := TX2) (N := 15) hx hb hts hinX2 hown hK hP 0 rfl rfl 9 (by decide) (hts (.fieldLink RX2 25 "DefaultReasonerModel" "told" "[Z") (by decide +kernel)) (fun _ h9 => h9) rfl dX2_forgetPriorities_65 ?_
  refine lv_iload_n hx hb dX2_forgetPriorities_68 rfl (lv_at hl 0 rfl) ?_
  refine lv_iconst (v := 0) hx hb dX2_forgetPriorities_69 (by decide) ?_
  refine va_zast hx hb hK hP hD hS 1 1 rfl rfl (by unfold vp_in; decide) dX2_forgetPriorities_70 (fun H locs hP hD hS => ?_)
  have hP : va_P g.1 vwCl [(mm, .inr (2, [.int 0, .int 0, .int 0, .ref (b 3), .ref (b 4), .int 0, .ref (b 6), .ref (b 7), .ref (b 8), .ref (b 9), .int 0, .ref (b 11), .int 0, .ref (b 13), .ref (b 14)])), ((b 9), .inl (g.2.1.2.1, 36, .inl (upd (upd (upd (upd (upd (upd (upd (upd (upd (upd (upd (upd (upd (upd (upd (upd (upd (upd (fun _ => 0) 0 0) 1 0) 2 0) 3 0) 4 0) 5 0) 6 0) 7 0) 8 0) 9 0) 10 0) 11 0) 12 0) 13 0) 14 0) 15 0) 16 0) 17 0)))] H := hP
  have hD : va_D A [(mm, .inr (2, [.int 0, .int 0, .int 0, .ref (b 3), .ref (b 4), .int 0, .ref (b 6), .ref (b 7), .ref (b 8), .ref (b 9), .int 0, .ref (b 11), .int 0, .ref (b 13), .ref (b 14)])), ((b 9), .inl (g.2.1.2.1, 36, .inl (upd (upd (upd (upd (upd (upd (upd (upd (upd (upd (upd (upd (upd (upd (upd (upd (upd (upd (fun _ => 0) 0 0) 1 0) 2 0) 3 0) 4 0) 5 0) 6 0) 7 0) 8 0) 9 0) 10 0) 11 0) 12 0) 13 0) 14 0) 15 0) 16 0) 17 0)))] := hD
  refine lv_iinc (v := 18) (lv' := [(2, .int 18), (1, .int 0), (0, .ref mm)]) hx hb dX2_forgetPriorities_71 hl (k := 0) rfl (by decide) (by decide) rfl (fun ls hl => ?_)
  refine lv_goto (tgt := 58) hx hb dX2_forgetPriorities_74 (by decide) ?_
  refine lv_iload_n hx hb dX2_forgetPriorities_58 rfl (lv_at hl 0 rfl) ?_
  refine lv_bipush (v := 36) hx hb dX2_forgetPriorities_59 (by decide) ?_
  refine lv_icmp_ge (tgt := 77) hx hb dX2_forgetPriorities_61 (by decide) (fun c9 => absurd c9 (by decide)) (fun _ => ?_)
  refine lv_aload_n hx hb dX2_forgetPriorities_64 rfl (lv_at hl 2 rfl) ?_
  refine va_get (D := g.1) (ci := 2) (v := .ref (b 9)) (C := RX2) (T := TX2) (N := 15) hx hb hts hinX2 hown hK hP 0 rfl rfl 9 (by decide) (hts (.fieldLink RX2 25 "DefaultReasonerModel" "told" "[Z") (by decide +kernel)) (fun _ h9 => h9) rfl dX2_forgetPriorities_65 ?_
  refine lv_iload_n hx hb dX2_forgetPriorities_68 rfl (lv_at hl 0 rfl) ?_
  refine lv_iconst (v := 0) hx hb dX2_forgetPriorities_69 (by decide) ?_
  refine va_zast hx hb hK hP hD hS 1 1 rfl rfl (by unfold vp_in; decide) dX2_forgetPriorities_70 (fun H locs hP hD hS => ?_)
  have hP : va_P g.1 vwCl [(mm, .inr (2, [.int 0, .int 0, .int 0, .ref (b 3), .ref (b 4), .int 0, .ref (b 6), .ref (b 7), .ref (b 8), .ref (b 9), .int 0, .ref (b 11), .int 0, .ref (b 13), .ref (b 14)])), ((b 9), .inl (g.2.1.2.1, 36, .inl (upd (upd (upd (upd (upd (upd (upd (upd (upd (upd (upd (upd (upd (upd (upd (upd (upd (upd (upd (fun _ => 0) 0 0) 1 0) 2 0) 3 0) 4 0) 5 0) 6 0) 7 0) 8 0) 9 0) 10 0) 11 0) 12 0) 13 0) 14 0) 15 0) 16 0) 17 0) 18 0)))] H := hP
  have hD : va_D A [(mm, .inr (2, [.int 0, .int 0, .int 0, .ref (b 3), .ref (b 4), .int 0, .ref (b 6), .ref (b 7), .ref (b 8), .ref (b 9), .int 0, .ref (b 11), .int 0, .ref (b 13), .ref (b 14)])), ((b 9), .inl (g.2.1.2.1, 36, .inl (upd (upd (upd (upd (upd (upd (upd (upd (upd (upd (upd (upd (upd (upd (upd (upd (upd (upd (upd (fun _ => 0) 0 0) 1 0) 2 0) 3 0) 4 0) 5 0) 6 0) 7 0) 8 0) 9 0) 10 0) 11 0) 12 0) 13 0) 14 0) 15 0) 16 0) 17 0) 18 0)))] := hD
  refine lv_iinc (v := 19) (lv' := [(2, .int 19), (1, .int 0), (0, .ref mm)]) hx hb dX2_forgetPriorities_71 hl (k := 0) rfl (by decide) (by decide) rfl (fun ls hl => ?_)
  refine lv_goto (tgt := 58) hx hb dX2_forgetPriorities_74 (by decide) ?_
  refine lv_iload_n hx hb dX2_forgetPriorities_58 rfl (lv_at hl 0 rfl) ?_
  refine lv_bipush (v := 36) hx hb dX2_forgetPriorities_59 (by decide) ?_
  refine lv_icmp_ge (tgt := 77) hx hb dX2_forgetPriorities_61 (by decide) (fun c9 => absurd c9 (by decide)) (fun _ => ?_)
  refine lv_aload_n hx hb dX2_forgetPriorities_64 rfl (lv_at hl 2 rfl) ?_
  refine va_get (D := g.1) (ci := 2) (v := .ref (b 9)) (C := RX2) (T := TX2) (N := 15) hx hb hts hinX2 hown hK hP 0 rfl rfl 9 (by decide) (hts (.fieldLink RX2 25 "DefaultReasonerModel" "told" "[Z") (by decide +kernel)) (fun _ h9 => h9) rfl dX2_forgetPriorities_65 ?_
  refine lv_iload_n hx hb dX2_forgetPriorities_68 rfl (lv_at hl 0 rfl) ?_
  refine lv_iconst (v := 0) hx hb dX2_forgetPriorities_69 (by decide) ?_
  refine va_zast hx hb hK hP hD hS 1 1 rfl rfl (by unfold vp_in; decide) dX2_forgetPriorities_70 (fun H locs hP hD hS => ?_)
  have hP : va_P g.1 vwCl [(mm, .inr (2, [.int 0, .int 0, .int 0, .ref (b 3), .ref (b 4), .int 0, .ref (b 6), .ref (b 7), .ref (b 8), .ref (b 9), .int 0, .ref (b 11), .int 0, .ref (b 13), .ref (b 14)])), ((b 9), .inl (g.2.1.2.1, 36, .inl (upd (upd (upd (upd (upd (upd (upd (upd (upd (upd (upd (upd (upd (upd (upd (upd (upd (upd (upd (upd (fun _ => 0) 0 0) 1 0) 2 0) 3 0) 4 0) 5 0) 6 0) 7 0) 8 0) 9 0) 10 0) 11 0) 12 0) 13 0) 14 0) 15 0) 16 0) 17 0) 18 0) 19 0)))] H := hP
  have hD : va_D A [(mm, .inr (2, [.int 0, .int 0, .int 0, .ref (b 3), .ref (b 4), .int 0, .ref (b 6), .ref (b 7), .ref (b 8), .ref (b 9), .int 0, .ref (b 11), .int 0, .ref (b 13), .ref (b 14)])), ((b 9), .inl (g.2.1.2.1, 36, .inl (upd (upd (upd (upd (upd (upd (upd (upd (upd (upd (upd (upd (upd (upd (upd (upd (upd (upd (upd (upd (fun _ => 0) 0 0) 1 0) 2 0) 3 0) 4 0) 5 0) 6 0) 7 0) 8 0) 9 0) 10 0) 11 0) 12 0) 13 0) 14 0) 15 0) 16 0) 17 0) 18 0) 19 0)))] := hD
  refine lv_iinc (v := 20) (lv' := [(2, .int 20), (1, .int 0), (0, .ref mm)]) hx hb dX2_forgetPriorities_71 hl (k := 0) rfl (by decide) (by decide) rfl (fun ls hl => ?_)
  refine lv_goto (tgt := 58) hx hb dX2_forgetPriorities_74 (by decide) ?_
  refine lv_iload_n hx hb dX2_forgetPriorities_58 rfl (lv_at hl 0 rfl) ?_
  refine lv_bipush (v := 36) hx hb dX2_forgetPriorities_59 (by decide) ?_
  refine lv_icmp_ge (tgt := 77) hx hb dX2_forgetPriorities_61 (by decide) (fun c9 => absurd c9 (by decide)) (fun _ => ?_)
  refine lv_aload_n hx hb dX2_forgetPriorities_64 rfl (lv_at hl 2 rfl) ?_
  refine va_get (D := g.1) (ci := 2) (v := .ref (b 9)) (C := RX2) (T := TX2) (N := 15) hx hb hts hinX2 hown hK hP 0 rfl rfl 9 (by decide) (hts (.fieldLink RX2 25 "DefaultReasonerModel" "told" "[Z") (by decide +kernel)) (fun _ h9 => h9) rfl dX2_forgetPriorities_65 ?_
  refine lv_iload_n hx hb dX2_forgetPriorities_68 rfl (lv_at hl 0 rfl) ?_
  refine lv_iconst (v := 0) hx hb dX2_forgetPriorities_69 (by decide) ?_
  refine va_zast hx hb hK hP hD hS 1 1 rfl rfl (by unfold vp_in; decide) dX2_forgetPriorities_70 (fun H locs hP hD hS => ?_)
  have hP : va_P g.1 vwCl [(mm, .inr (2, [.int 0, .int 0, .int 0, .ref (b 3), .ref (b 4), .int 0, .ref (b 6), .ref (b 7), .ref (b 8), .ref (b 9), .int 0, .ref (b 11), .int 0, .ref (b 13), .ref (b 14)])), ((b 9), .inl (g.2.1.2.1, 36, .inl (upd (upd (upd (upd (upd (upd (upd (upd (upd (upd (upd (upd (upd (upd (upd (upd (upd (upd (upd (upd (upd (fun _ => 0) 0 0) 1 0) 2 0) 3 0) 4 0) 5 0) 6 0) 7 0) 8 0) 9 0) 10 0) 11 0) 12 0) 13 0) 14 0) 15 0) 16 0) 17 0) 18 0) 19 0) 20 0)))] H := hP
  have hD : va_D A [(mm, .inr (2, [.int 0, .int 0, .int 0, .ref (b 3), .ref (b 4), .int 0, .ref (b 6), .ref (b 7), .ref (b 8), .ref (b 9), .int 0, .ref (b 11), .int 0, .ref (b 13), .ref (b 14)])), ((b 9), .inl (g.2.1.2.1, 36, .inl (upd (upd (upd (upd (upd (upd (upd (upd (upd (upd (upd (upd (upd (upd (upd (upd (upd (upd (upd (upd (upd (fun _ => 0) 0 0) 1 0) 2 0) 3 0) 4 0) 5 0) 6 0) 7 0) 8 0) 9 0) 10 0) 11 0) 12 0) 13 0) 14 0) 15 0) 16 0) 17 0) 18 0) 19 0) 20 0)))] := hD
  refine lv_iinc (v := 21) (lv' := [(2, .int 21), (1, .int 0), (0, .ref mm)]) hx hb dX2_forgetPriorities_71 hl (k := 0) rfl (by decide) (by decide) rfl (fun ls hl => ?_)
  refine lv_goto (tgt := 58) hx hb dX2_forgetPriorities_74 (by decide) ?_
  refine lv_iload_n hx hb dX2_forgetPriorities_58 rfl (lv_at hl 0 rfl) ?_
  refine lv_bipush (v := 36) hx hb dX2_forgetPriorities_59 (by decide) ?_
  refine lv_icmp_ge (tgt := 77) hx hb dX2_forgetPriorities_61 (by decide) (fun c9 => absurd c9 (by decide)) (fun _ => ?_)
  refine lv_aload_n hx hb dX2_forgetPriorities_64 rfl (lv_at hl 2 rfl) ?_
  refine va_get (D := g.1) (ci := 2) (v := .ref (b 9)) (C := RX2) (T := TX2) (N := 15) hx hb hts hinX2 hown hK hP 0 rfl rfl 9 (by decide) (hts (.fieldLink RX2 25 "DefaultReasonerModel" "told" "[Z") (by decide +kernel)) (fun _ h9 => h9) rfl dX2_forgetPriorities_65 ?_
  refine lv_iload_n hx hb dX2_forgetPriorities_68 rfl (lv_at hl 0 rfl) ?_
  refine lv_iconst (v := 0) hx hb dX2_forgetPriorities_69 (by decide) ?_
  refine va_zast hx hb hK hP hD hS 1 1 rfl rfl (by unfold vp_in; decide) dX2_forgetPriorities_70 (fun H locs hP hD hS => ?_)
  have hP : va_P g.1 vwCl [(mm, .inr (2, [.int 0, .int 0, .int 0, .ref (b 3), .ref (b 4), .int 0, .ref (b 6), .ref (b 7), .ref (b 8), .ref (b 9), .int 0, .ref (b 11), .int 0, .ref (b 13), .ref (b 14)])), ((b 9), .inl (g.2.1.2.1, 36, .inl (upd (upd (upd (upd (upd (upd (upd (upd (upd (upd (upd (upd (upd (upd (upd (upd (upd (upd (upd (upd (upd (upd (fun _ => 0) 0 0) 1 0) 2 0) 3 0) 4 0) 5 0) 6 0) 7 0) 8 0) 9 0) 10 0) 11 0) 12 0) 13 0) 14 0) 15 0) 16 0) 17 0) 18 0) 19 0) 20 0) 21 0)))] H := hP
  have hD : va_D A [(mm, .inr (2, [.int 0, .int 0, .int 0, .ref (b 3), .ref (b 4), .int 0, .ref (b 6), .ref (b 7), .ref (b 8), .ref (b 9), .int 0, .ref (b 11), .int 0, .ref (b 13), .ref (b 14)])), ((b 9), .inl (g.2.1.2.1, 36, .inl (upd (upd (upd (upd (upd (upd (upd (upd (upd (upd (upd (upd (upd (upd (upd (upd (upd (upd (upd (upd (upd (upd (fun _ => 0) 0 0) 1 0) 2 0) 3 0) 4 0) 5 0) 6 0) 7 0) 8 0) 9 0) 10 0) 11 0) 12 0) 13 0) 14 0) 15 0) 16 0) 17 0) 18 0) 19 0) 20 0) 21 0)))] := hD
  refine lv_iinc (v := 22) (lv' := [(2, .int 22), (1, .int 0), (0, .ref mm)]) hx hb dX2_forgetPriorities_71 hl (k := 0) rfl (by decide) (by decide) rfl (fun ls hl => ?_)
  refine lv_goto (tgt := 58) hx hb dX2_forgetPriorities_74 (by decide) ?_
  refine lv_iload_n hx hb dX2_forgetPriorities_58 rfl (lv_at hl 0 rfl) ?_
  refine lv_bipush (v := 36) hx hb dX2_forgetPriorities_59 (by decide) ?_
  refine lv_icmp_ge (tgt := 77) hx hb dX2_forgetPriorities_61 (by decide) (fun c9 => absurd c9 (by decide)) (fun _ => ?_)
  refine lv_aload_n hx hb dX2_forgetPriorities_64 rfl (lv_at hl 2 rfl) ?_
  refine va_get (D := g.1) (ci := 2) (v := .ref (b 9)) (C := RX2) (T := TX2) (N := 15) hx hb hts hinX2 hown hK hP 0 rfl rfl 9 (by decide) (hts (.fieldLink RX2 25 "DefaultReasonerModel" "told" "[Z") (by decide +kernel)) (fun _ h9 => h9) rfl dX2_forgetPriorities_65 ?_
  refine lv_iload_n hx hb dX2_forgetPriorities_68 rfl (lv_at hl 0 rfl) ?_
  refine lv_iconst (v := 0) hx hb dX2_forgetPriorities_69 (by decide) ?_
  refine va_zast hx hb hK hP hD hS 1 1 rfl rfl (by unfold vp_in; decide) dX2_forgetPriorities_70 (fun H locs hP hD hS => ?_)
  have hP : va_P g.1 vwCl [(mm, .inr (2, [.int 0, .int 0, .int 0, .ref (b 3), .ref (b 4), .int 0, .ref (b 6), .ref (b 7), .ref (b 8), .ref (b 9), .int 0, .ref (b 11), .int 0, .ref (b 13), .ref (b 14)])), ((b 9), .inl (g.2.1.2.1, 36, .inl (upd (upd (upd (upd (upd (upd (upd (upd (upd (upd (upd (upd (upd (upd (upd (upd (upd (upd (upd (upd (upd (upd (upd (fun _ => 0) 0 0) 1 0) 2 0) 3 0) 4 0) 5 0) 6 0) 7 0) 8 0) 9 0) 10 0) 11 0) 12 0) 13 0) 14 0) 15 0) 16 0) 17 0) 18 0) 19 0) 20 0) 21 0) 22 0)))] H := hP
  have hD : va_D A [(mm, .inr (2, [.int 0, .int 0, .int 0, .ref (b 3), .ref (b 4), .int 0, .ref (b 6), .ref (b 7), .ref (b 8), .ref (b 9), .int 0, .ref (b 11), .int 0, .ref (b 13), .ref (b 14)])), ((b 9), .inl (g.2.1.2.1, 36, .inl (upd (upd (upd (upd (upd (upd (upd (upd (upd (upd (upd (upd (upd (upd (upd (upd (upd (upd (upd (upd (upd (upd (upd (fun _ => 0) 0 0) 1 0) 2 0) 3 0) 4 0) 5 0) 6 0) 7 0) 8 0) 9 0) 10 0) 11 0) 12 0) 13 0) 14 0) 15 0) 16 0) 17 0) 18 0) 19 0) 20 0) 21 0) 22 0)))] := hD
  refine lv_iinc (v := 23) (lv' := [(2, .int 23), (1, .int 0), (0, .ref mm)]) hx hb dX2_forgetPriorities_71 hl (k := 0) rfl (by decide) (by decide) rfl (fun ls hl => ?_)
  refine lv_goto (tgt := 58) hx hb dX2_forgetPriorities_74 (by decide) ?_
  refine lv_iload_n hx hb dX2_forgetPriorities_58 rfl (lv_at hl 0 rfl) ?_
  refine lv_bipush (v := 36) hx hb dX2_forgetPriorities_59 (by decide) ?_
  refine lv_icmp_ge (tgt := 77) hx hb dX2_forgetPriorities_61 (by decide) (fun c9 => absurd c9 (by decide)) (fun _ => ?_)
  refine lv_aload_n hx hb dX2_forgetPriorities_64 rfl (lv_at hl 2 rfl) ?_
  refine va_get (D := g.1) (ci := 2) (v := .ref (b 9)) (C := RX2) (T := TX2) (N := 15) hx hb hts hinX2 hown hK hP 0 rfl rfl 9 (by decide) (hts (.fieldLink RX2 25 "DefaultReasonerModel" "told" "[Z") (by decide +kernel)) (fun _ h9 => h9) rfl dX2_forgetPriorities_65 ?_
  refine lv_iload_n hx hb dX2_forgetPriorities_68 rfl (lv_at hl 0 rfl) ?_
  refine lv_iconst (v := 0) hx hb dX2_forgetPriorities_69 (by decide) ?_
  refine va_zast hx hb hK hP hD hS 1 1 rfl rfl (by unfold vp_in; decide) dX2_forgetPriorities_70 (fun H locs hP hD hS => ?_)
  have hP : va_P g.1 vwCl [(mm, .inr (2, [.int 0, .int 0, .int 0, .ref (b 3), .ref (b 4), .int 0, .ref (b 6), .ref (b 7), .ref (b 8), .ref (b 9), .int 0, .ref (b 11), .int 0, .ref (b 13), .ref (b 14)])), ((b 9), .inl (g.2.1.2.1, 36, .inl (upd (upd (upd (upd (upd (upd (upd (upd (upd (upd (upd (upd (upd (upd (upd (upd (upd (upd (upd (upd (upd (upd (upd (upd (fun _ => 0) 0 0) 1 0) 2 0) 3 0) 4 0) 5 0) 6 0) 7 0) 8 0) 9 0) 10 0) 11 0) 12 0) 13 0) 14 0) 15 0) 16 0) 17 0) 18 0) 19 0) 20 0) 21 0) 22 0) 23 0)))] H := hP
  have hD : va_D A [(mm, .inr (2, [.int 0, .int 0, .int 0, .ref (b 3), .ref (b 4), .int 0, .ref (b 6), .ref (b 7), .ref (b 8), .ref (b 9), .int 0, .ref (b 11), .int 0, .ref (b 13), .ref (b 14)])), ((b 9), .inl (g.2.1.2.1, 36, .inl (upd (upd (upd (upd (upd (upd (upd (upd (upd (upd (upd (upd (upd (upd (upd (upd (upd (upd (upd (upd (upd (upd (upd (upd (fun _ => 0) 0 0) 1 0) 2 0) 3 0) 4 0) 5 0) 6 0) 7 0) 8 0) 9 0) 10 0) 11 0) 12 0) 13 0) 14 0) 15 0) 16 0) 17 0) 18 0) 19 0) 20 0) 21 0) 22 0) 23 0)))] := hD
  refine lv_iinc (v := 24) (lv' := [(2, .int 24), (1, .int 0), (0, .ref mm)]) hx hb dX2_forgetPriorities_71 hl (k := 0) rfl (by decide) (by decide) rfl (fun ls hl => ?_)
  refine lv_goto (tgt := 58) hx hb dX2_forgetPriorities_74 (by decide) ?_
  refine lv_iload_n hx hb dX2_forgetPriorities_58 rfl (lv_at hl 0 rfl) ?_
  refine lv_bipush (v := 36) hx hb dX2_forgetPriorities_59 (by decide) ?_
  refine lv_icmp_ge (tgt := 77) hx hb dX2_forgetPriorities_61 (by decide) (fun c9 => absurd c9 (by decide)) (fun _ => ?_)
  refine lv_aload_n hx hb dX2_forgetPriorities_64 rfl (lv_at hl 2 rfl) ?_
  refine va_get (D := g.1) (ci := 2) (v := .ref (b 9)) (C := RX2) (T := TX2) (N := 15) hx hb hts hinX2 hown hK hP 0 rfl rfl 9 (by decide) (hts (.fieldLink RX2 25 "DefaultReasonerModel" "told" "[Z") (by decide +kernel)) (fun _ h9 => h9) rfl dX2_forgetPriorities_65 ?_
  refine lv_iload_n hx hb dX2_forgetPriorities_68 rfl (lv_at hl 0 rfl) ?_
  refine lv_iconst (v := 0) hx hb dX2_forgetPriorities_69 (by decide) ?_
  refine va_zast hx hb hK hP hD hS 1 1 rfl rfl (by unfold vp_in; decide) dX2_forgetPriorities_70 (fun H locs hP hD hS => ?_)
  have hP : va_P g.1 vwCl [(mm, .inr (2, [.int 0, .int 0, .int 0, .ref (b 3), .ref (b 4), .int 0, .ref (b 6), .ref (b 7), .ref (b 8), .ref (b 9), .int 0, .ref (b 11), .int 0, .ref (b 13), .ref (b 14)])), ((b 9), .inl (g.2.1.2.1, 36, .inl (upd (upd (upd (upd (upd (upd (upd (upd (upd (upd (upd (upd (upd (upd (upd (upd (upd (upd (upd (upd (upd (upd (upd (upd (upd (fun _ => 0) 0 0) 1 0) 2 0) 3 0) 4 0) 5 0) 6 0) 7 0) 8 0) 9 0) 10 0) 11 0) 12 0) 13 0) 14 0) 15 0) 16 0) 17 0) 18 0) 19 0) 20 0) 21 0) 22 0) 23 0) 24 0)))] H := hP
  have hD : va_D A [(mm, .inr (2, [.int 0, .int 0, .int 0, .ref (b 3), .ref (b 4), .int 0, .ref (b 6), .ref (b 7), .ref (b 8), .ref (b 9), .int 0, .ref (b 11), .int 0, .ref (b 13), .ref (b 14)])), ((b 9), .inl (g.2.1.2.1, 36, .inl (upd (upd (upd (upd (upd (upd (upd (upd (upd (upd (upd (upd (upd (upd (upd (upd (upd (upd (upd (upd (upd (upd (upd (upd (upd (fun _ => 0) 0 0) 1 0) 2 0) 3 0) 4 0) 5 0) 6 0) 7 0) 8 0) 9 0) 10 0) 11 0) 12 0) 13 0) 14 0) 15 0) 16 0) 17 0) 18 0) 19 0) 20 0) 21 0) 22 0) 23 0) 24 0)))] := hD
  refine lv_iinc (v := 25) (lv' := [(2, .int 25), (1, .int 0), (0, .ref mm)]) hx hb dX2_forgetPriorities_71 hl (k := 0) rfl (by decide) (by decide) rfl (fun ls hl => ?_)
  refine lv_goto (tgt := 58) hx hb dX2_forgetPriorities_74 (by decide) ?_
  refine lv_iload_n hx hb dX2_forgetPriorities_58 rfl (lv_at hl 0 rfl) ?_
  refine lv_bipush (v := 36) hx hb dX2_forgetPriorities_59 (by decide) ?_
  refine lv_icmp_ge (tgt := 77) hx hb dX2_forgetPriorities_61 (by decide) (fun c9 => absurd c9 (by decide)) (fun _ => ?_)
  refine lv_aload_n hx hb dX2_forgetPriorities_64 rfl (lv_at hl 2 rfl) ?_
  refine va_get (D := g.1) (ci := 2) (v := .ref (b 9)) (C := RX2) (T := TX2) (N := 15) hx hb hts hinX2 hown hK hP 0 rfl rfl 9 (by decide) (hts (.fieldLink RX2 25 "DefaultReasonerModel" "told" "[Z") (by decide +kernel)) (fun _ h9 => h9) rfl dX2_forgetPriorities_65 ?_
  refine lv_iload_n hx hb dX2_forgetPriorities_68 rfl (lv_at hl 0 rfl) ?_
  refine lv_iconst (v := 0) hx hb dX2_forgetPriorities_69 (by decide) ?_
  refine va_zast hx hb hK hP hD hS 1 1 rfl rfl (by unfold vp_in; decide) dX2_forgetPriorities_70 (fun H locs hP hD hS => ?_)
  have hP : va_P g.1 vwCl [(mm, .inr (2, [.int 0, .int 0, .int 0, .ref (b 3), .ref (b 4), .int 0, .ref (b 6), .ref (b 7), .ref (b 8), .ref (b 9), .int 0, .ref (b 11), .int 0, .ref (b 13), .ref (b 14)])), ((b 9), .inl (g.2.1.2.1, 36, .inl (upd (upd (upd (upd (upd (upd (upd (upd (upd (upd (upd (upd (upd (upd (upd (upd (upd (upd (upd (upd (upd (upd (upd (upd (upd (upd (fun _ => 0) 0 0) 1 0) 2 0) 3 0) 4 0) 5 0) 6 0) 7 0) 8 0) 9 0) 10 0) 11 0) 12 0) 13 0) 14 0) 15 0) 16 0) 17 0) 18 0) 19 0) 20 0) 21 0) 22 0) 23 0) 24 0) 25 0)))] H := hP
  have hD : va_D A [(mm, .inr (2, [.int 0, .int 0, .int 0, .ref (b 3), .ref (b 4), .int 0, .ref (b 6), .ref (b 7), .ref (b 8), .ref (b 9), .int 0, .ref (b 11), .int 0, .ref (b 13), .ref (b 14)])), ((b 9), .inl (g.2.1.2.1, 36, .inl (upd (upd (upd (upd (upd (upd (upd (upd (upd (upd (upd (upd (upd (upd (upd (upd (upd (upd (upd (upd (upd (upd (upd (upd (upd (upd (fun _ => 0) 0 0) 1 0) 2 0) 3 0) 4 0) 5 0) 6 0) 7 0) 8 0) 9 0) 10 0) 11 0) 12 0) 13 0) 14 0) 15 0) 16 0) 17 0) 18 0) 19 0) 20 0) 21 0) 22 0) 23 0) 24 0) 25 0)))] := hD
  refine lv_iinc (v := 26) (lv' := [(2, .int 26), (1, .int 0), (0, .ref mm)]) hx hb dX2_forgetPriorities_71 hl (k := 0) rfl (by decide) (by decide) rfl (fun ls hl => ?_)
  refine lv_goto (tgt := 58) hx hb dX2_forgetPriorities_74 (by decide) ?_
  refine lv_iload_n hx hb dX2_forgetPriorities_58 rfl (lv_at hl 0 rfl) ?_
  refine lv_bipush (v := 36) hx hb dX2_forgetPriorities_59 (by decide) ?_
  refine lv_icmp_ge (tgt := 77) hx hb dX2_forgetPriorities_61 (by decide) (fun c9 => absurd c9 (by decide)) (fun _ => ?_)
  refine lv_aload_n hx hb dX2_forgetPriorities_64 rfl (lv_at hl 2 rfl) ?_
  refine va_get (D := g.1) (ci := 2) (v := .ref (b 9)) (C := RX2) (T := TX2) (N := 15) hx hb hts hinX2 hown hK hP 0 rfl rfl 9 (by decide) (hts (.fieldLink RX2 25 "DefaultReasonerModel" "told" "[Z") (by decide +kernel)) (fun _ h9 => h9) rfl dX2_forgetPriorities_65 ?_
  refine lv_iload_n hx hb dX2_forgetPriorities_68 rfl (lv_at hl 0 rfl) ?_
  refine lv_iconst (v := 0) hx hb dX2_forgetPriorities_69 (by decide) ?_
  refine va_zast hx hb hK hP hD hS 1 1 rfl rfl (by unfold vp_in; decide) dX2_forgetPriorities_70 (fun H locs hP hD hS => ?_)
  have hP : va_P g.1 vwCl [(mm, .inr (2, [.int 0, .int 0, .int 0, .ref (b 3), .ref (b 4), .int 0, .ref (b 6), .ref (b 7), .ref (b 8), .ref (b 9), .int 0, .ref (b 11), .int 0, .ref (b 13), .ref (b 14)])), ((b 9), .inl (g.2.1.2.1, 36, .inl (upd (upd (upd (upd (upd (upd (upd (upd (upd (upd (upd (upd (upd (upd (upd (upd (upd (upd (upd (upd (upd (upd (upd (upd (upd (upd (upd (fun _ => 0) 0 0) 1 0) 2 0) 3 0) 4 0) 5 0) 6 0) 7 0) 8 0) 9 0) 10 0) 11 0) 12 0) 13 0) 14 0) 15 0) 16 0) 17 0) 18 0) 19 0) 20 0) 21 0) 22 0) 23 0) 24 0) 25 0) 26 0)))] H := hP
  have hD : va_D A [(mm, .inr (2, [.int 0, .int 0, .int 0, .ref (b 3), .ref (b 4), .int 0, .ref (b 6), .ref (b 7), .ref (b 8), .ref (b 9), .int 0, .ref (b 11), .int 0, .ref (b 13), .ref (b 14)])), ((b 9), .inl (g.2.1.2.1, 36, .inl (upd (upd (upd (upd (upd (upd (upd (upd (upd (upd (upd (upd (upd (upd (upd (upd (upd (upd (upd (upd (upd (upd (upd (upd (upd (upd (upd (fun _ => 0) 0 0) 1 0) 2 0) 3 0) 4 0) 5 0) 6 0) 7 0) 8 0) 9 0) 10 0) 11 0) 12 0) 13 0) 14 0) 15 0) 16 0) 17 0) 18 0) 19 0) 20 0) 21 0) 22 0) 23 0) 24 0) 25 0) 26 0)))] := hD
  refine lv_iinc (v := 27) (lv' := [(2, .int 27), (1, .int 0), (0, .ref mm)]) hx hb dX2_forgetPriorities_71 hl (k := 0) rfl (by decide) (by decide) rfl (fun ls hl => ?_)
  refine lv_goto (tgt := 58) hx hb dX2_forgetPriorities_74 (by decide) ?_
  refine lv_iload_n hx hb dX2_forgetPriorities_58 rfl (lv_at hl 0 rfl) ?_
  refine lv_bipush (v := 36) hx hb dX2_forgetPriorities_59 (by decide) ?_
  refine lv_icmp_ge (tgt := 77) hx hb dX2_forgetPriorities_61 (by decide) (fun c9 => absurd c9 (by decide)) (fun _ => ?_)
  refine lv_aload_n hx hb dX2_forgetPriorities_64 rfl (lv_at hl 2 rfl) ?_
  refine va_get (D := g.1) (ci := 2) (v := .ref (b 9)) (C := RX2) (T := TX2) (N := 15) hx hb hts hinX2 hown hK hP 0 rfl rfl 9 (by decide) (hts (.fieldLink RX2 25 "DefaultReasonerModel" "told" "[Z") (by decide +kernel)) (fun _ h9 => h9) rfl dX2_forgetPriorities_65 ?_
  refine lv_iload_n hx hb dX2_forgetPriorities_68 rfl (lv_at hl 0 rfl) ?_
  refine lv_iconst (v := 0) hx hb dX2_forgetPriorities_69 (by decide) ?_
  refine va_zast hx hb hK hP hD hS 1 1 rfl rfl (by unfold vp_in; decide) dX2_forgetPriorities_70 (fun H locs hP hD hS => ?_)
  have hP : va_P g.1 vwCl [(mm, .inr (2, [.int 0, .int 0, .int 0, .ref (b 3), .ref (b 4), .int 0, .ref (b 6), .ref (b 7), .ref (b 8), .ref (b 9), .int 0, .ref (b 11), .int 0, .ref (b 13), .ref (b 14)])), ((b 9), .inl (g.2.1.2.1, 36, .inl (upd (upd (upd (upd (upd (upd (upd (upd (upd (upd (upd (upd (upd (upd (upd (upd (upd (upd (upd (upd (upd (upd (upd (upd (upd (upd (upd (upd (fun _ => 0) 0 0) 1 0) 2 0) 3 0) 4 0) 5 0) 6 0) 7 0) 8 0) 9 0) 10 0) 11 0) 12 0) 13 0) 14 0) 15 0) 16 0) 17 0) 18 0) 19 0) 20 0) 21 0) 22 0) 23 0) 24 0) 25 0) 26 0) 27 0)))] H := hP
  have hD : va_D A [(mm, .inr (2, [.int 0, .int 0, .int 0, .ref (b 3), .ref (b 4), .int 0, .ref (b 6), .ref (b 7), .ref (b 8), .ref (b 9), .int 0, .ref (b 11), .int 0, .ref (b 13), .ref (b 14)])), ((b 9), .inl (g.2.1.2.1, 36, .inl (upd (upd (upd (upd (upd (upd (upd (upd (upd (upd (upd (upd (upd (upd (upd (upd (upd (upd (upd (upd (upd (upd (upd (upd (upd (upd (upd (upd (fun _ => 0) 0 0) 1 0) 2 0) 3 0) 4 0) 5 0) 6 0) 7 0) 8 0) 9 0) 10 0) 11 0) 12 0) 13 0) 14 0) 15 0) 16 0) 17 0) 18 0) 19 0) 20 0) 21 0) 22 0) 23 0) 24 0) 25 0) 26 0) 27 0)))] := hD
  refine lv_iinc (v := 28) (lv' := [(2, .int 28), (1, .int 0), (0, .ref mm)]) hx hb dX2_forgetPriorities_71 hl (k := 0) rfl (by decide) (by decide) rfl (fun ls hl => ?_)
  refine lv_goto (tgt := 58) hx hb dX2_forgetPriorities_74 (by decide) ?_
  refine lv_iload_n hx hb dX2_forgetPriorities_58 rfl (lv_at hl 0 rfl) ?_
  refine lv_bipush (v := 36) hx hb dX2_forgetPriorities_59 (by decide) ?_
  refine lv_icmp_ge (tgt := 77) hx hb dX2_forgetPriorities_61 (by decide) (fun c9 => absurd c9 (by decide)) (fun _ => ?_)
  refine lv_aload_n hx hb dX2_forgetPriorities_64 rfl (lv_at hl 2 rfl) ?_
  refine va_get (D := g.1) (ci := 2) (v := .ref (b 9)) (C := RX2) (T := TX2) (N := 15) hx hb hts hinX2 hown hK hP 0 rfl rfl 9 (by decide) (hts (.fieldLink RX2 25 "DefaultReasonerModel" "told" "[Z") (by decide +kernel)) (fun _ h9 => h9) rfl dX2_forgetPriorities_65 ?_
  refine lv_iload_n hx hb dX2_forgetPriorities_68 rfl (lv_at hl 0 rfl) ?_
  refine lv_iconst (v := 0) hx hb dX2_forgetPriorities_69 (by decide) ?_
  refine va_zast hx hb hK hP hD hS 1 1 rfl rfl (by unfold vp_in; decide) dX2_forgetPriorities_70 (fun H locs hP hD hS => ?_)
  have hP : va_P g.1 vwCl [(mm, .inr (2, [.int 0, .int 0, .int 0, .ref (b 3), .ref (b 4), .int 0, .ref (b 6), .ref (b 7), .ref (b 8), .ref (b 9), .int 0, .ref (b 11), .int 0, .ref (b 13), .ref (b 14)])), ((b 9), .inl (g.2.1.2.1, 36, .inl (upd (upd (upd (upd (upd (upd (upd (upd (upd (upd (upd (upd (upd (upd (upd (upd (upd (upd (upd (upd (upd (upd (upd (upd (upd (upd (upd (upd (upd (fun _ => 0) 0 0) 1 0) 2 0) 3 0) 4 0) 5 0) 6 0) 7 0) 8 0) 9 0) 10 0) 11 0) 12 0) 13 0) 14 0) 15 0) 16 0) 17 0) 18 0) 19 0) 20 0) 21 0) 22 0) 23 0) 24 0) 25 0) 26 0) 27 0) 28 0)))] H := hP
  have hD : va_D A [(mm, .inr (2, [.int 0, .int 0, .int 0, .ref (b 3), .ref (b 4), .int 0, .ref (b 6), .ref (b 7), .ref (b 8), .ref (b 9), .int 0, .ref (b 11), .int 0, .ref (b 13), .ref (b 14)])), ((b 9), .inl (g.2.1.2.1, 36, .inl (upd (upd (upd (upd (upd (upd (upd (upd (upd (upd (upd (upd (upd (upd (upd (upd (upd (upd (upd (upd (upd (upd (upd (upd (upd (upd (upd (upd (upd (fun _ => 0) 0 0) 1 0) 2 0) 3 0) 4 0) 5 0) 6 0) 7 0) 8 0) 9 0) 10 0) 11 0) 12 0) 13 0) 14 0) 15 0) 16 0) 17 0) 18 0) 19 0) 20 0) 21 0) 22 0) 23 0) 24 0) 25 0) 26 0) 27 0) 28 0)))] := hD
  refine lv_iinc (v := 29) (lv' := [(2, .int 29), (1, .int 0), (0, .ref mm)]) hx hb dX2_forgetPriorities_71 hl (k := 0) rfl (by decide) (by decide) rfl (fun ls hl => ?_)
  refine lv_goto (tgt := 58) hx hb dX2_forgetPriorities_74 (by decide) ?_
  refine lv_iload_n hx hb dX2_forgetPriorities_58 rfl (lv_at hl 0 rfl) ?_
  refine lv_bipush (v := 36) hx hb dX2_forgetPriorities_59 (by decide) ?_
  refine lv_icmp_ge (tgt := 77) hx hb dX2_forgetPriorities_61 (by decide) (fun c9 => absurd c9 (by decide)) (fun _ => ?_)
  refine lv_aload_n hx hb dX2_forgetPriorities_64 rfl (lv_at hl 2 rfl) ?_
  refine va_get (D := g.1) (ci := 2) (v := .ref (b 9)) (C := RX2) (T := TX2) (N := 15) hx hb hts hinX2 hown hK hP 0 rfl rfl 9 (by decide) (hts (.fieldLink RX2 25 "DefaultReasonerModel" "told" "[Z") (by decide +kernel)) (fun _ h9 => h9) rfl dX2_forgetPriorities_65 ?_
  refine lv_iload_n hx hb dX2_forgetPriorities_68 rfl (lv_at hl 0 rfl) ?_
  refine lv_iconst (v := 0) hx hb dX2_forgetPriorities_69 (by decide) ?_
  refine va_zast hx hb hK hP hD hS 1 1 rfl rfl (by unfold vp_in; decide) dX2_forgetPriorities_70 (fun H locs hP hD hS => ?_)
  have hP : va_P g.1 vwCl [(mm, .inr (2, [.int 0, .int 0, .int 0, .ref (b 3), .ref (b 4), .int 0, .ref (b 6), .ref (b 7), .ref (b 8), .ref (b 9), .int 0, .ref (b 11), .int 0, .ref (b 13), .ref (b 14)])), ((b 9), .inl (g.2.1.2.1, 36, .inl (upd (upd (upd (upd (upd (upd (upd (upd (upd (upd (upd (upd (upd (upd (upd (upd (upd (upd (upd (upd (upd (upd (upd (upd (upd (upd (upd (upd (upd (upd (fun _ => 0) 0 0) 1 0) 2 0) 3 0) 4 0) 5 0) 6 0) 7 0) 8 0) 9 0) 10 0) 11 0) 12 0) 13 0) 14 0) 15 0) 16 0) 17 0) 18 0) 19 0) 20 0) 21 0) 22 0) 23 0) 24 0) 25 0) 26 0) 27 0) 28 0) 29 0)))] H := hP
  have hD : va_D A [(mm, .inr (2, [.int 0, .int 0, .int 0, .ref (b 3), .ref (b 4), .int 0, .ref (b 6), .ref (b 7), .ref (b 8), .ref (b 9), .int 0, .ref (b 11), .int 0, .ref (b 13), .ref (b 14)])), ((b 9), .inl (g.2.1.2.1, 36, .inl (upd (upd (upd (upd (upd (upd (upd (upd (upd (upd (upd (upd (upd (upd (upd (upd (upd (upd (upd (upd (upd (upd (upd (upd (upd (upd (upd (upd (upd (upd (fun _ => 0) 0 0) 1 0) 2 0) 3 0) 4 0) 5 0) 6 0) 7 0) 8 0) 9 0) 10 0) 11 0) 12 0) 13 0) 14 0) 15 0) 16 0) 17 0) 18 0) 19 0) 20 0) 21 0) 22 0) 23 0) 24 0) 25 0) 26 0) 27 0) 28 0) 29 0)))] := hD
  refine lv_iinc (v := 30) (lv' := [(2, .int 30), (1, .int 0), (0, .ref mm)]) hx hb dX2_forgetPriorities_71 hl (k := 0) rfl (by decide) (by decide) rfl (fun ls hl => ?_)
  refine lv_goto (tgt := 58) hx hb dX2_forgetPriorities_74 (by decide) ?_
  refine lv_iload_n hx hb dX2_forgetPriorities_58 rfl (lv_at hl 0 rfl) ?_
  refine lv_bipush (v := 36) hx hb dX2_forgetPriorities_59 (by decide) ?_
  refine lv_icmp_ge (tgt := 77) hx hb dX2_forgetPriorities_61 (by decide) (fun c9 => absurd c9 (by decide)) (fun _ => ?_)
  refine lv_aload_n hx hb dX2_forgetPriorities_64 rfl (lv_at hl 2 rfl) ?_
  refine va_get (D := g.1) (ci := 2) (v := .ref (b 9)) (C := RX2) (T := TX2) (N := 15) hx hb hts hinX2 hown hK hP 0 rfl rfl 9 (by decide) (hts (.fieldLink RX2 25 "DefaultReasonerModel" "told" "[Z") (by decide +kernel)) (fun _ h9 => h9) rfl dX2_forgetPriorities_65 ?_
  refine lv_iload_n hx hb dX2_forgetPriorities_68 rfl (lv_at hl 0 rfl) ?_
  refine lv_iconst (v := 0) hx hb dX2_forgetPriorities_69 (by decide) ?_
  refine va_zast hx hb hK hP hD hS 1 1 rfl rfl (by unfold vp_in; decide) dX2_forgetPriorities_70 (fun H locs hP hD hS => ?_)
  have hP : va_P g.1 vwCl [(mm, .inr (2, [.int 0, .int 0, .int 0, .ref (b 3), .ref (b 4), .int 0, .ref (b 6), .ref (b 7), .ref (b 8), .ref (b 9), .int 0, .ref (b 11), .int 0, .ref (b 13), .ref (b 14)])), ((b 9), .inl (g.2.1.2.1, 36, .inl (upd (upd (upd (upd (upd (upd (upd (upd (upd (upd (upd (upd (upd (upd (upd (upd (upd (upd (upd (upd (upd (upd (upd (upd (upd (upd (upd (upd (upd (upd (upd (fun _ => 0) 0 0) 1 0) 2 0) 3 0) 4 0) 5 0) 6 0) 7 0) 8 0) 9 0) 10 0) 11 0) 12 0) 13 0) 14 0) 15 0) 16 0) 17 0) 18 0) 19 0) 20 0) 21 0) 22 0) 23 0) 24 0) 25 0) 26 0) 27 0) 28 0) 29 0) 30 0)))] H := hP
  have hD : va_D A [(mm, .inr (2, [.int 0, .int 0, .int 0, .ref (b 3), .ref (b 4), .int 0, .ref (b 6), .ref (b 7), .ref (b 8), .ref (b 9), .int 0, .ref (b 11), .int 0, .ref (b 13), .ref (b 14)])), ((b 9), .inl (g.2.1.2.1, 36, .inl (upd (upd (upd (upd (upd (upd (upd (upd (upd (upd (upd (upd (upd (upd (upd (upd (upd (upd (upd (upd (upd (upd (upd (upd (upd (upd (upd (upd (upd (upd (upd (fun _ => 0) 0 0) 1 0) 2 0) 3 0) 4 0) 5 0) 6 0) 7 0) 8 0) 9 0) 10 0) 11 0) 12 0) 13 0) 14 0) 15 0) 16 0) 17 0) 18 0) 19 0) 20 0) 21 0) 22 0) 23 0) 24 0) 25 0) 26 0) 27 0) 28 0) 29 0) 30 0)))] := hD
  refine lv_iinc (v := 31) (lv' := [(2, .int 31), (1, .int 0), (0, .ref mm)]) hx hb dX2_forgetPriorities_71 hl (k := 0) rfl (by decide) (by decide) rfl (fun ls hl => ?_)
  refine lv_goto (tgt := 58) hx hb dX2_forgetPriorities_74 (by decide) ?_
  refine lv_iload_n hx hb dX2_forgetPriorities_58 rfl (lv_at hl 0 rfl) ?_
  refine lv_bipush (v := 36) hx hb dX2_forgetPriorities_59 (by decide) ?_
  refine lv_icmp_ge (tgt := 77) hx hb dX2_forgetPriorities_61 (by decide) (fun c9 => absurd c9 (by decide)) (fun _ => ?_)
  refine lv_aload_n hx hb dX2_forgetPriorities_64 rfl (lv_at hl 2 rfl) ?_
  refine va_get (D := g.1) (ci := 2) (v := .ref (b 9)) (C := RX2) (T := TX2) (N := 15) hx hb hts hinX2 hown hK hP 0 rfl rfl 9 (by decide) (hts (.fieldLink RX2 25 "DefaultReasonerModel" "told" "[Z") (by decide +kernel)) (fun _ h9 => h9) rfl dX2_forgetPriorities_65 ?_
  refine lv_iload_n hx hb dX2_forgetPriorities_68 rfl (lv_at hl 0 rfl) ?_
  refine lv_iconst (v := 0) hx hb dX2_forgetPriorities_69 (by decide) ?_
  refine va_zast hx hb hK hP hD hS 1 1 rfl rfl (by unfold vp_in; decide) dX2_forgetPriorities_70 (fun H locs hP hD hS => ?_)
  have hP : va_P g.1 vwCl [(mm, .inr (2, [.int 0, .int 0, .int 0, .ref (b 3), .ref (b 4), .int 0, .ref (b 6), .ref (b 7), .ref (b 8), .ref (b 9), .int 0, .ref (b 11), .int 0, .ref (b 13), .ref (b 14)])), ((b 9), .inl (g.2.1.2.1, 36, .inl (upd (upd (upd (upd (upd (upd (upd (upd (upd (upd (upd (upd (upd (upd (upd (upd (upd (upd (upd (upd (upd (upd (upd (upd (upd (upd (upd (upd (upd (upd (upd (upd (fun _ => 0) 0 0) 1 0) 2 0) 3 0) 4 0) 5 0) 6 0) 7 0) 8 0) 9 0) 10 0) 11 0) 12 0) 13 0) 14 0) 15 0) 16 0) 17 0) 18 0) 19 0) 20 0) 21 0) 22 0) 23 0) 24 0) 25 0) 26 0) 27 0) 28 0) 29 0) 30 0) 31 0)))] H := hP
  have hD : va_D A [(mm, .inr (2, [.int 0, .int 0, .int 0, .ref (b 3), .ref (b 4), .int 0, .ref (b 6), .ref (b 7), .ref (b 8), .ref (b 9), .int 0, .ref (b 11), .int 0, .ref (b 13), .ref (b 14)])), ((b 9), .inl (g.2.1.2.1, 36, .inl (upd (upd (upd (upd (upd (upd (upd (upd (upd (upd (upd (upd (upd (upd (upd (upd (upd (upd (upd (upd (upd (upd (upd (upd (upd (upd (upd (upd (upd (upd (upd (upd (fun _ => 0) 0 0) 1 0) 2 0) 3 0) 4 0) 5 0) 6 0) 7 0) 8 0) 9 0) 10 0) 11 0) 12 0) 13 0) 14 0) 15 0) 16 0) 17 0) 18 0) 19 0) 20 0) 21 0) 22 0) 23 0) 24 0) 25 0) 26 0) 27 0) 28 0) 29 0) 30 0) 31 0)))] := hD
  refine lv_iinc (v := 32) (lv' := [(2, .int 32), (1, .int 0), (0, .ref mm)]) hx hb dX2_forgetPriorities_71 hl (k := 0) rfl (by decide) (by decide) rfl (fun ls hl => ?_)
  refine lv_goto (tgt := 58) hx hb dX2_forgetPriorities_74 (by decide) ?_
  refine lv_iload_n hx hb dX2_forgetPriorities_58 rfl (lv_at hl 0 rfl) ?_
  refine lv_bipush (v := 36) hx hb dX2_forgetPriorities_59 (by decide) ?_
  refine lv_icmp_ge (tgt := 77) hx hb dX2_forgetPriorities_61 (by decide) (fun c9 => absurd c9 (by decide)) (fun _ => ?_)
  refine lv_aload_n hx hb dX2_forgetPriorities_64 rfl (lv_at hl 2 rfl) ?_
  refine va_get (D := g.1) (ci := 2) (v := .ref (b 9)) (C := RX2) (T := TX2) (N := 15) hx hb hts hinX2 hown hK hP 0 rfl rfl 9 (by decide) (hts (.fieldLink RX2 25 "DefaultReasonerModel" "told" "[Z") (by decide +kernel)) (fun _ h9 => h9) rfl dX2_forgetPriorities_65 ?_
  refine lv_iload_n hx hb dX2_forgetPriorities_68 rfl (lv_at hl 0 rfl) ?_
  refine lv_iconst (v := 0) hx hb dX2_forgetPriorities_69 (by decide) ?_
  refine va_zast hx hb hK hP hD hS 1 1 rfl rfl (by unfold vp_in; decide) dX2_forgetPriorities_70 (fun H locs hP hD hS => ?_)
  have hP : va_P g.1 vwCl [(mm, .inr (2, [.int 0, .int 0, .int 0, .ref (b 3), .ref (b 4), .int 0, .ref (b 6), .ref (b 7), .ref (b 8), .ref (b 9), .int 0, .ref (b 11), .int 0, .ref (b 13), .ref (b 14)])), ((b 9), .inl (g.2.1.2.1, 36, .inl (upd (upd (upd (upd (upd (upd (upd (upd (upd (upd (upd (upd (upd (upd (upd (upd (upd (upd (upd (upd (upd (upd (upd (upd (upd (upd (upd (upd (upd (upd (upd (upd (upd (fun _ => 0) 0 0) 1 0) 2 0) 3 0) 4 0) 5 0) 6 0) 7 0) 8 0) 9 0) 10 0) 11 0) 12 0) 13 0) 14 0) 15 0) 16 0) 17 0) 18 0) 19 0) 20 0) 21 0) 22 0) 23 0) 24 0) 25 0) 26 0) 27 0) 28 0) 29 0) 30 0) 31 0) 32 0)))] H := hP
  have hD : va_D A [(mm, .inr (2, [.int 0, .int 0, .int 0, .ref (b 3), .ref (b 4), .int 0, .ref (b 6), .ref (b 7), .ref (b 8), .ref (b 9), .int 0, .ref (b 11), .int 0, .ref (b 13), .ref (b 14)])), ((b 9), .inl (g.2.1.2.1, 36, .inl (upd (upd (upd (upd (upd (upd (upd (upd (upd (upd (upd (upd (upd (upd (upd (upd (upd (upd (upd (upd (upd (upd (upd (upd (upd (upd (upd (upd (upd (upd (upd (upd (upd (fun _ => 0) 0 0) 1 0) 2 0) 3 0) 4 0) 5 0) 6 0) 7 0) 8 0) 9 0) 10 0) 11 0) 12 0) 13 0) 14 0) 15 0) 16 0) 17 0) 18 0) 19 0) 20 0) 21 0) 22 0) 23 0) 24 0) 25 0) 26 0) 27 0) 28 0) 29 0) 30 0) 31 0) 32 0)))] := hD
  refine lv_iinc (v := 33) (lv' := [(2, .int 33), (1, .int 0), (0, .ref mm)]) hx hb dX2_forgetPriorities_71 hl (k := 0) rfl (by decide) (by decide) rfl (fun ls hl => ?_)
  refine lv_goto (tgt := 58) hx hb dX2_forgetPriorities_74 (by decide) ?_
  refine lv_iload_n hx hb dX2_forgetPriorities_58 rfl (lv_at hl 0 rfl) ?_
  refine lv_bipush (v := 36) hx hb dX2_forgetPriorities_59 (by decide) ?_
  refine lv_icmp_ge (tgt := 77) hx hb dX2_forgetPriorities_61 (by decide) (fun c9 => absurd c9 (by decide)) (fun _ => ?_)
  refine lv_aload_n hx hb dX2_forgetPriorities_64 rfl (lv_at hl 2 rfl) ?_
  refine va_get (D := g.1) (ci := 2) (v := .ref (b 9)) (C := RX2) (T := TX2) (N := 15) hx hb hts hinX2 hown hK hP 0 rfl rfl 9 (by decide) (hts (.fieldLink RX2 25 "DefaultReasonerModel" "told" "[Z") (by decide +kernel)) (fun _ h9 => h9) rfl dX2_forgetPriorities_65 ?_
  refine lv_iload_n hx hb dX2_forgetPriorities_68 rfl (lv_at hl 0 rfl) ?_
  refine lv_iconst (v := 0) hx hb dX2_forgetPriorities_69 (by decide) ?_
  refine va_zast hx hb hK hP hD hS 1 1 rfl rfl (by unfold vp_in; decide) dX2_forgetPriorities_70 (fun H locs hP hD hS => ?_)
  have hP : va_P g.1 vwCl [(mm, .inr (2, [.int 0, .int 0, .int 0, .ref (b 3), .ref (b 4), .int 0, .ref (b 6), .ref (b 7), .ref (b 8), .ref (b 9), .int 0, .ref (b 11), .int 0, .ref (b 13), .ref (b 14)])), ((b 9), .inl (g.2.1.2.1, 36, .inl (upd (upd (upd (upd (upd (upd (upd (upd (upd (upd (upd (upd (upd (upd (upd (upd (upd (upd (upd (upd (upd (upd (upd (upd (upd (upd (upd (upd (upd (upd (upd (upd (upd (upd (fun _ => 0) 0 0) 1 0) 2 0) 3 0) 4 0) 5 0) 6 0) 7 0) 8 0) 9 0) 10 0) 11 0) 12 0) 13 0) 14 0) 15 0) 16 0) 17 0) 18 0) 19 0) 20 0) 21 0) 22 0) 23 0) 24 0) 25 0) 26 0) 27 0) 28 0) 29 0) 30 0) 31 0) 32 0) 33 0)))] H := hP
  have hD : va_D A [(mm, .inr (2, [.int 0, .int 0, .int 0, .ref (b 3), .ref (b 4), .int 0, .ref (b 6), .ref (b 7), .ref (b 8), .ref (b 9), .int 0, .ref (b 11), .int 0, .ref (b 13), .ref (b 14)])), ((b 9), .inl (g.2.1.2.1, 36, .inl (upd (upd (upd (upd (upd (upd (upd (upd (upd (upd (upd (upd (upd (upd (upd (upd (upd (upd (upd (upd (upd (upd (upd (upd (upd (upd (upd (upd (upd (upd (upd (upd (upd (upd (fun _ => 0) 0 0) 1 0) 2 0) 3 0) 4 0) 5 0) 6 0) 7 0) 8 0) 9 0) 10 0) 11 0) 12 0) 13 0) 14 0) 15 0) 16 0) 17 0) 18 0) 19 0) 20 0) 21 0) 22 0) 23 0) 24 0) 25 0) 26 0) 27 0) 28 0) 29 0) 30 0) 31 0) 32 0) 33 0)))] := hD
  refine lv_iinc (v := 34) (lv' := [(2, .int 34), (1, .int 0), (0, .ref mm)]) hx hb dX2_forgetPriorities_71 hl (k := 0) rfl (by decide) (by decide) rfl (fun ls hl => ?_)
  refine lv_goto (tgt := 58) hx hb dX2_forgetPriorities_74 (by decide) ?_
  refine lv_iload_n hx hb dX2_forgetPriorities_58 rfl (lv_at hl 0 rfl) ?_
  refine lv_bipush (v := 36) hx hb dX2_forgetPriorities_59 (by decide) ?_
  refine lv_icmp_ge (tgt := 77) hx hb dX2_forgetPriorities_61 (by decide) (fun c9 => absurd c9 (by decide)) (fun _ => ?_)
  refine lv_aload_n hx hb dX2_forgetPriorities_64 rfl (lv_at hl 2 rfl) ?_
  refine va_get (D := g.1) (ci := 2) (v := .ref (b 9)) (C := RX2) (T := TX2) (N := 15) hx hb hts hinX2 hown hK hP 0 rfl rfl 9 (by decide) (hts (.fieldLink RX2 25 "DefaultReasonerModel" "told" "[Z") (by decide +kernel)) (fun _ h9 => h9) rfl dX2_forgetPriorities_65 ?_
  refine lv_iload_n hx hb dX2_forgetPriorities_68 rfl (lv_at hl 0 rfl) ?_
  refine lv_iconst (v := 0) hx hb dX2_forgetPriorities_69 (by decide) ?_
  refine va_zast hx hb hK hP hD hS 1 1 rfl rfl (by unfold vp_in; decide) dX2_forgetPriorities_70 (fun H locs hP hD hS => ?_)
  have hP : va_P g.1 vwCl [(mm, .inr (2, [.int 0, .int 0, .int 0, .ref (b 3), .ref (b 4), .int 0, .ref (b 6), .ref (b 7), .ref (b 8), .ref (b 9), .int 0, .ref (b 11), .int 0, .ref (b 13), .ref (b 14)])), ((b 9), .inl (g.2.1.2.1, 36, .inl (upd (upd (upd (upd (upd (upd (upd (upd (upd (upd (upd (upd (upd (upd (upd (upd (upd (upd (upd (upd (upd (upd (upd (upd (upd (upd (upd (upd (upd (upd (upd (upd (upd (upd (upd (fun _ => 0) 0 0) 1 0) 2 0) 3 0) 4 0) 5 0) 6 0) 7 0) 8 0) 9 0) 10 0) 11 0) 12 0) 13 0) 14 0) 15 0) 16 0) 17 0) 18 0) 19 0) 20 0) 21 0) 22 0) 23 0) 24 0) 25 0) 26 0) 27 0) 28 0) 29 0) 30 0) 31 0) 32 0) 33 0) 34 0)))] H := hP
  have hD : va_D A [(mm, .inr (2, [.int 0, .int 0, .int 0, .ref (b 3), .ref (b 4), .int 0, .ref (b 6), .ref (b 7), .ref (b 8), .ref (b 9), .int 0, .ref (b 11), .int 0, .ref (b 13), .ref (b 14)])), ((b 9), .inl (g.2.1.2.1, 36, .inl (upd (upd (upd (upd (upd (upd (upd (upd (upd (upd (upd (upd (upd (upd (upd (upd (upd (upd (upd (upd (upd (upd (upd (upd (upd (upd (upd (upd (upd (upd (upd (upd (upd (upd (upd (fun _ => 0) 0 0) 1 0) 2 0) 3 0) 4 0) 5 0) 6 0) 7 0) 8 0) 9 0) 10 0) 11 0) 12 0) 13 0) 14 0) 15 0) 16 0) 17 0) 18 0) 19 0) 20 0) 21 0) 22 0) 23 0) 24 0) 25 0) 26 0) 27 0) 28 0) 29 0) 30 0) 31 0) 32 0) 33 0) 34 0)))] := hD
  refine lv_iinc (v := 35) (lv' := [(2, .int 35), (1, .int 0), (0, .ref mm)]) hx hb dX2_forgetPriorities_71 hl (k := 0) rfl (by decide) (by decide) rfl (fun ls hl => ?_)
  refine lv_goto (tgt := 58) hx hb dX2_forgetPriorities_74 (by decide) ?_
  refine lv_iload_n hx hb dX2_forgetPriorities_58 rfl (lv_at hl 0 rfl) ?_
  refine lv_bipush (v := 36) hx hb dX2_forgetPriorities_59 (by decide) ?_
  refine lv_icmp_ge (tgt := 77) hx hb dX2_forgetPriorities_61 (by decide) (fun c9 => absurd c9 (by decide)) (fun _ => ?_)
  refine lv_aload_n hx hb dX2_forgetPriorities_64 rfl (lv_at hl 2 rfl) ?_
  refine va_get (D := g.1) (ci := 2) (v := .ref (b 9)) (C := RX2) (T := TX2) (N := 15) hx hb hts hinX2 hown hK hP 0 rfl rfl 9 (by decide) (hts (.fieldLink RX2 25 "DefaultReasonerModel" "told" "[Z") (by decide +kernel)) (fun _ h9 => h9) rfl dX2_forgetPriorities_65 ?_
  refine lv_iload_n hx hb dX2_forgetPriorities_68 rfl (lv_at hl 0 rfl) ?_
  refine lv_iconst (v := 0) hx hb dX2_forgetPriorities_69 (by decide) ?_
  refine va_zast hx hb hK hP hD hS 1 1 rfl rfl (by unfold vp_in; decide) dX2_forgetPriorities_70 (fun H locs hP hD hS => ?_)
  have hP : va_P g.1 vwCl [(mm, .inr (2, [.int 0, .int 0, .int 0, .ref (b 3), .ref (b 4), .int 0, .ref (b 6), .ref (b 7), .ref (b 8), .ref (b 9), .int 0, .ref (b 11), .int 0, .ref (b 13), .ref (b 14)])), ((b 9), .inl (g.2.1.2.1, 36, .inl (upd (upd (upd (upd (upd (upd (upd (upd (upd (upd (upd (upd (upd (upd (upd (upd (upd (upd (upd (upd (upd (upd (upd (upd (upd (upd (upd (upd (upd (upd (upd (upd (upd (upd (upd (upd (fun _ => 0) 0 0) 1 0) 2 0) 3 0) 4 0) 5 0) 6 0) 7 0) 8 0) 9 0) 10 0) 11 0) 12 0) 13 0) 14 0) 15 0) 16 0) 17 0) 18 0) 19 0) 20 0) 21 0) 22 0) 23 0) 24 0) 25 0) 26 0) 27 0) 28 0) 29 0) 30 0) 31 0) 32 0) 33 0) 34 0) 35 0)))] H := hP
  have hD : va_D A [(mm, .inr (2, [.int 0, .int 0, .int 0, .ref (b 3), .ref (b 4), .int 0, .ref (b 6), .ref (b 7), .ref (b 8), .ref (b 9), .int 0, .ref (b 11), .int 0, .ref (b 13), .ref (b 14)])), ((b 9), .inl (g.2.1.2.1, 36, .inl (upd (upd (upd (upd (upd (upd (upd (upd (upd (upd (upd (upd (upd (upd (upd (upd (upd (upd (upd (upd (upd (upd (upd (upd (upd (upd (upd (upd (upd (upd (upd (upd (upd (upd (upd (upd (fun _ => 0) 0 0) 1 0) 2 0) 3 0) 4 0) 5 0) 6 0) 7 0) 8 0) 9 0) 10 0) 11 0) 12 0) 13 0) 14 0) 15 0) 16 0) 17 0) 18 0) 19 0) 20 0) 21 0) 22 0) 23 0) 24 0) 25 0) 26 0) 27 0) 28 0) 29 0) 30 0) 31 0) 32 0) 33 0) 34 0) 35 0)))] := hD
  refine lv_iinc (v := 36) (lv' := [(2, .int 36), (1, .int 0), (0, .ref mm)]) hx hb dX2_forgetPriorities_71 hl (k := 0) rfl (by decide) (by decide) rfl (fun ls hl => ?_)
  refine lv_goto (tgt := 58) hx hb dX2_forgetPriorities_74 (by decide) ?_
  refine lv_iload_n hx hb dX2_forgetPriorities_58 rfl (lv_at hl 0 rfl) ?_
  refine lv_bipush (v := 36) hx hb dX2_forgetPriorities_59 (by decide) ?_
  refine lv_icmp_ge (tgt := 77) hx hb dX2_forgetPriorities_61 (by decide) (fun _ => ?_) (fun c9 => absurd (by decide) c9)
  refine lv_iload_n hx hb dX2_forgetPriorities_77 rfl (lv_at hl 1 rfl) ?_
  exact g_ir hx hb hr hlocks hP hD hS (0, [.int 0, .int 0, .ref (b 3), .ref (b 4), .int 0, .ref (b 6), .ref (b 7), .ref (b 8), .ref (b 9), .int 0, .ref (b 11), .int 0, .ref (b 13), .ref (b 14)]) [0] rfl (by decide) rfl dX2_forgetPriorities_78 (Nat.le_of_ble_eq_true rfl) (Nat.le_of_ble_eq_true rfl) (rfl)
set_option maxHeartbeats 4000000 in
set_option maxRecDepth 100000 in
theorem c_X2_facts (l : Launch) (g : gG) (sz : Nat) (mm : Nat) (b : Nat → Nat) : gMi l yX2_facts wsX2_facts ({ frames := 0, cells := 0, slots := 0, locals := 0 } : Room) g [.ref mm] [(mm, .inr (2, [.int 0, .int 0, .int 0, .ref (b 3), .ref (b 4), .int 0, .ref (b 6), .ref (b 7), .ref (b 8), .ref (b 9), .int 0, .ref (b 11), .int 0, .ref (b 13), .ref (b 14)]))] sz (fun (r : Int32) (u : (Int32 × List Value)) => r = 0) (fun (u : (Int32 × List Value)) => [(mm, .inr (2, .int u.1 :: u.2))]) 0 0 := by
  refine g_of (l := l) (y := yX2_facts) (wy := wsX2_facts) (rm := ({ frames := 0, cells := 0, slots := 0, locals := 0 } : Room)) (g := g) (av := [.ref mm]) (ws := [(mm, .inr (2, [.int 0, .int 0, .int 0, .ref (b 3), .ref (b 4), .int 0, .ref (b 6), .ref (b 7), .ref (b 8), .ref (b 9), .int 0, .ref (b 11), .int 0, .ref (b 13), .ref (b 14)]))]) (sz := sz) (mc := 0) (ms := 0) (Qc := fun A => va_Qi (fun (r : Int32) (u : (Int32 × List Value)) => r = 0) (fun u t9 => gPost g A ((fun (u : (Int32 × List Value)) => [(mm, .inr (2, .int u.1 :: u.2))]) u) t9) A) (cc := cX2_facts) (maxL := 1) (ret := some .int) (by decide) rfl (Nat.le_of_ble_eq_true rfl) ?_
  intro p e s m below meth c A ls hx hb hr hml hown hts hlocks hnm hA hK hE hP hD hS hl
  have hl : lv_has ls 1 [(0, .ref mm)] := hl
  have hown : s.vm.findClass RX2 = some m.cls := hown
  have hP : va_P g.1 vwCl [(mm, .inr (2, [.int 0, .int 0, .int 0, .ref (b 3), .ref (b 4), .int 0, .ref (b 6), .ref (b 7), .ref (b 8), .ref (b 9), .int 0, .ref (b 11), .int 0, .ref (b 13), .ref (b 14)]))] s.heap := hP
  have hinX2 : ∀ w ∈ u_ws RX2 TX2 15, w ∈ wsX2_facts := by decide +kernel
  refine lv_aload_n hx hb dX2_facts_0 rfl (lv_at hl 0 rfl) ?_
  refine lv_iconst (v := 0) hx hb dX2_facts_1 (by decide) ?_
  refine va_put (D := g.1) (ci := 2) (v := .int 0) (ty := .int) (C := RX2) (T := TX2) (N := 15) hx hb hts hinX2 tyX2 tyX2_ok nmX2 hown hK hP hD hS 0 rfl rfl 0 (by decide) (hts (.fieldLink RX2 38 "DefaultReasonerModel" "thrown" "I") (by decide +kernel)) (fun _ h9 => h9) rfl (by decide +kernel) rfl rfl (Nat.le_of_ble_eq_true rfl) dX2_facts_2 (fun H locs hP hD hS => ?_)
  have hP : va_P g.1 vwCl [(mm, .inr (2, [.int 0, .int 0, .int 0, .ref (b 3), .ref (b 4), .int 0, .ref (b 6), .ref (b 7), .ref (b 8), .ref (b 9), .int 0, .ref (b 11), .int 0, .ref (b 13), .ref (b 14)]))] H := hP
  have hD : va_D A [(mm, .inr (2, [.int 0, .int 0, .int 0, .ref (b 3), .ref (b 4), .int 0, .ref (b 6), .ref (b 7), .ref (b 8), .ref (b 9), .int 0, .ref (b 11), .int 0, .ref (b 13), .ref (b 14)]))] := hD
  refine lv_aload_n hx hb dX2_facts_5 rfl (lv_at hl 0 rfl) ?_
  refine va_get (D := g.1) (ci := 2) (v := .int 0) (C := RX2) (T := TX2) (N := 15) hx hb hts hinX2 hown hK hP 0 rfl rfl 1 (by decide) (hts (.fieldLink RX2 50 "DefaultReasonerModel" "facts" "I") (by decide +kernel)) (fun _ h9 => h9) rfl dX2_facts_6 ?_
  exact g_ir hx hb hr hlocks hP hD hS (0, [.int 0, .int 0, .ref (b 3), .ref (b 4), .int 0, .ref (b 6), .ref (b 7), .ref (b 8), .ref (b 9), .int 0, .ref (b 11), .int 0, .ref (b 13), .ref (b 14)]) [0] rfl (by decide) rfl dX2_facts_9 (Nat.le_of_ble_eq_true rfl) (Nat.le_of_ble_eq_true rfl) (rfl)
set_option maxHeartbeats 4000000 in
set_option maxRecDepth 100000 in
theorem c_X2_defaultCount (l : Launch) (g : gG) (sz : Nat) (mm : Nat) (b : Nat → Nat) : gMi l yX2_defaultCount wsX2_defaultCount ({ frames := 0, cells := 0, slots := 0, locals := 0 } : Room) g [.ref mm] [(mm, .inr (2, [.int 0, .int 0, .int 0, .ref (b 3), .ref (b 4), .int 0, .ref (b 6), .ref (b 7), .ref (b 8), .ref (b 9), .int 0, .ref (b 11), .int 0, .ref (b 13), .ref (b 14)]))] sz (fun (r : Int32) (u : (Int32 × List Value)) => r = 0) (fun (u : (Int32 × List Value)) => [(mm, .inr (2, .int u.1 :: u.2))]) 0 0 := by
  refine g_of (l := l) (y := yX2_defaultCount) (wy := wsX2_defaultCount) (rm := ({ frames := 0, cells := 0, slots := 0, locals := 0 } : Room)) (g := g) (av := [.ref mm]) (ws := [(mm, .inr (2, [.int 0, .int 0, .int 0, .ref (b 3), .ref (b 4), .int 0, .ref (b 6), .ref (b 7), .ref (b 8), .ref (b 9), .int 0, .ref (b 11), .int 0, .ref (b 13), .ref (b 14)]))]) (sz := sz) (mc := 0) (ms := 0) (Qc := fun A => va_Qi (fun (r : Int32) (u : (Int32 × List Value)) => r = 0) (fun u t9 => gPost g A ((fun (u : (Int32 × List Value)) => [(mm, .inr (2, .int u.1 :: u.2))]) u) t9) A) (cc := cX2_defaultCount) (maxL := 1) (ret := some .int) (by decide) rfl (Nat.le_of_ble_eq_true rfl) ?_
  intro p e s m below meth c A ls hx hb hr hml hown hts hlocks hnm hA hK hE hP hD hS hl
  have hl : lv_has ls 1 [(0, .ref mm)] := hl
  have hown : s.vm.findClass RX2 = some m.cls := hown
  have hP : va_P g.1 vwCl [(mm, .inr (2, [.int 0, .int 0, .int 0, .ref (b 3), .ref (b 4), .int 0, .ref (b 6), .ref (b 7), .ref (b 8), .ref (b 9), .int 0, .ref (b 11), .int 0, .ref (b 13), .ref (b 14)]))] s.heap := hP
  have hinX2 : ∀ w ∈ u_ws RX2 TX2 15, w ∈ wsX2_defaultCount := by decide +kernel
  refine lv_aload_n hx hb dX2_defaultCount_0 rfl (lv_at hl 0 rfl) ?_
  refine lv_iconst (v := 0) hx hb dX2_defaultCount_1 (by decide) ?_
  refine va_put (D := g.1) (ci := 2) (v := .int 0) (ty := .int) (C := RX2) (T := TX2) (N := 15) hx hb hts hinX2 tyX2 tyX2_ok nmX2 hown hK hP hD hS 0 rfl rfl 0 (by decide) (hts (.fieldLink RX2 38 "DefaultReasonerModel" "thrown" "I") (by decide +kernel)) (fun _ h9 => h9) rfl (by decide +kernel) rfl rfl (Nat.le_of_ble_eq_true rfl) dX2_defaultCount_2 (fun H locs hP hD hS => ?_)
  have hP : va_P g.1 vwCl [(mm, .inr (2, [.int 0, .int 0, .int 0, .ref (b 3), .ref (b 4), .int 0, .ref (b 6), .ref (b 7), .ref (b 8), .ref (b 9), .int 0, .ref (b 11), .int 0, .ref (b 13), .ref (b 14)]))] H := hP
  have hD : va_D A [(mm, .inr (2, [.int 0, .int 0, .int 0, .ref (b 3), .ref (b 4), .int 0, .ref (b 6), .ref (b 7), .ref (b 8), .ref (b 9), .int 0, .ref (b 11), .int 0, .ref (b 13), .ref (b 14)]))] := hD
  refine lv_aload_n hx hb dX2_defaultCount_5 rfl (lv_at hl 0 rfl) ?_
  refine va_get (D := g.1) (ci := 2) (v := .int 0) (C := RX2) (T := TX2) (N := 15) hx hb hts hinX2 hown hK hP 0 rfl rfl 5 (by decide) (hts (.fieldLink RX2 43 "DefaultReasonerModel" "defaults" "I") (by decide +kernel)) (fun _ h9 => h9) rfl dX2_defaultCount_6 ?_
  exact g_ir hx hb hr hlocks hP hD hS (0, [.int 0, .int 0, .ref (b 3), .ref (b 4), .int 0, .ref (b 6), .ref (b 7), .ref (b 8), .ref (b 9), .int 0, .ref (b 11), .int 0, .ref (b 13), .ref (b 14)]) [0] rfl (by decide) rfl dX2_defaultCount_9 (Nat.le_of_ble_eq_true rfl) (Nat.le_of_ble_eq_true rfl) (rfl)
set_option maxHeartbeats 4000000 in
set_option maxRecDepth 100000 in
theorem c_X2_closure (l : Launch) (g : gG) (sz : Nat) (mm : Nat) (b : Nat → Nat) (x : Int32) : gMi l yX2_closure wsX2_closure ({ frames := 2, cells := 0, slots := 0, locals := 44 } : Room) g [.ref mm, .int x] [(mm, .inr (2, [.int 0, .int 0, .int 0, .ref (b 3), .ref (b 4), .int 0, .ref (b 6), .ref (b 7), .ref (b 8), .ref (b 9), .int 0, .ref (b 11), .int 0, .ref (b 13), .ref (b 14)]))] sz (fun (r : Int32) (u : (Int32 × List Value)) => u.1 = 0 ∧ gSet x ∧ r = gCloM x ∨ u.1 = 1 ∧ ¬ gSet x) (fun (u : (Int32 × List Value)) => [(mm, .inr (2, .int u.1 :: u.2))]) 0 0 := by
  refine g_of (l := l) (y := yX2_closure) (wy := wsX2_closure) (rm := ({ frames := 2, cells := 0, slots := 0, locals := 44 } : Room)) (g := g) (av := [.ref mm, .int x]) (ws := [(mm, .inr (2, [.int 0, .int 0, .int 0, .ref (b 3), .ref (b 4), .int 0, .ref (b 6), .ref (b 7), .ref (b 8), .ref (b 9), .int 0, .ref (b 11), .int 0, .ref (b 13), .ref (b 14)]))]) (sz := sz) (mc := 0) (ms := 0) (Qc := fun A => va_Qi (fun (r : Int32) (u : (Int32 × List Value)) => u.1 = 0 ∧ gSet x ∧ r = gCloM x ∨ u.1 = 1 ∧ ¬ gSet x) (fun u t9 => gPost g A ((fun (u : (Int32 × List Value)) => [(mm, .inr (2, .int u.1 :: u.2))]) u) t9) A) (cc := cX2_closure) (maxL := 2) (ret := some .int) (by decide) rfl (Nat.le_of_ble_eq_true rfl) ?_
  intro p e s m below meth c A ls hx hb hr hml hown hts hlocks hnm hA hK hE hP hD hS hl
  have hl : lv_has ls 2 [(0, .ref mm), (1, .int x)] := hl
  have hown : s.vm.findClass RX2 = some m.cls := hown
  have hP : va_P g.1 vwCl [(mm, .inr (2, [.int 0, .int 0, .int 0, .ref (b 3), .ref (b 4), .int 0, .ref (b 6), .ref (b 7), .ref (b 8), .ref (b 9), .int 0, .ref (b 11), .int 0, .ref (b 13), .ref (b 14)]))] s.heap := hP
  have hinX2 : ∀ w ∈ u_ws RX2 TX2 15, w ∈ wsX2_closure := by decide +kernel
  refine lv_aload_n hx hb dX2_closure_0 rfl (lv_at hl 0 rfl) ?_
  refine lv_iconst (v := 0) hx hb dX2_closure_1 (by decide) ?_
  refine va_put (D := g.1) (ci := 2) (v := .int 0) (ty := .int) (C := RX2) (T := TX2) (N := 15) hx hb hts hinX2 tyX2 tyX2_ok nmX2 hown hK hP hD hS 0 rfl rfl 0 (by decide) (hts (.fieldLink RX2 38 "DefaultReasonerModel" "thrown" "I") (by decide +kernel)) (fun _ h9 => h9) rfl (by decide +kernel) rfl rfl (Nat.le_of_ble_eq_true rfl) dX2_closure_2 (fun H locs hP hD hS => ?_)
  have hP : va_P g.1 vwCl [(mm, .inr (2, [.int 0, .int 0, .int 0, .ref (b 3), .ref (b 4), .int 0, .ref (b 6), .ref (b 7), .ref (b 8), .ref (b 9), .int 0, .ref (b 11), .int 0, .ref (b 13), .ref (b 14)]))] H := hP
  have hD : va_D A [(mm, .inr (2, [.int 0, .int 0, .int 0, .ref (b 3), .ref (b 4), .int 0, .ref (b 6), .ref (b 7), .ref (b 8), .ref (b 9), .int 0, .ref (b 11), .int 0, .ref (b 13), .ref (b 14)]))] := hD
  refine lv_iload_n hx hb dX2_closure_5 rfl (lv_at hl 1 rfl) ?_
  refine gj_i (wc := []) (wr := [(mm, .inr (2, [.int 0, .int 0, .int 0, .ref (b 3), .ref (b 4), .int 0, .ref (b 6), .ref (b 7), .ref (b 8), .ref (b 9), .int 0, .ref (b 11), .int 0, .ref (b 13), .ref (b 14)]))]) (gr_S (n := 1) ⟨hx, hb, hml, hown, hts⟩ (c_X2_isSet l g H.size x) gX2_closure_X2_isSet rfl rfl rfl (by decide +kernel) ⟨Nat.le_of_ble_eq_true rfl, Nat.le_of_ble_eq_true rfl⟩ (gp_S hK hE hA hP hD hS [] rfl (by decide) rfl) rfl hl.1 rfl (Nat.le_of_ble_eq_true rfl) dX2_closure_6 ⟨Nat.le_of_ble_eq_true rfl, Nat.le_of_ble_eq_true rfl⟩) hP hD hS hA [] [0] rfl rfl (by decide) (by decide) (fun r1 u1 H locs hp1 hP hD hS => ?_)
  rcases hp1 with ⟨rfl, hf1⟩ | ⟨rfl, hf1⟩
  · have hP : va_P g.1 vwCl [(mm, .inr (2, [.int 0, .int 0, .int 0, .ref (b 3), .ref (b 4), .int 0, .ref (b 6), .ref (b 7), .ref (b 8), .ref (b 9), .int 0, .ref (b 11), .int 0, .ref (b 13), .ref (b 14)]))] H := hP
    have hD : va_D A [(mm, .inr (2, [.int 0, .int 0, .int 0, .ref (b 3), .ref (b 4), .int 0, .ref (b 6), .ref (b 7), .ref (b 8), .ref (b 9), .int 0, .ref (b 11), .int 0, .ref (b 13), .ref (b 14)]))] := hD
    refine lv_if_eq (tgt := 20) hx hb dX2_closure_9 (by decide) (fun c9 => absurd c9 (by decide)) (fun _ => ?_)
    refine lv_aload_n hx hb dX2_closure_12 rfl (lv_at hl 0 rfl) ?_
    refine lv_iload_n hx hb dX2_closure_13 rfl (lv_at hl 1 rfl) ?_
    refine gj_i (wc := [(mm, .inr (2, [.int 0, .int 0, .int 0, .ref (b 3), .ref (b 4), .int 0, .ref (b 6), .ref (b 7), .ref (b 8), .ref (b 9), .int 0, .ref (b 11), .int 0, .ref (b 13), .ref (b 14)]))]) (wr := []) (gr_V (n := 1) ⟨hx, hb, hml, hown, hts⟩ (c_X2_close l g H.size mm b 0 0 x (hf1)) gX2_closure_X2_close rfl rfl rfl (by decide +kernel) ⟨Nat.le_of_ble_eq_true rfl, Nat.le_of_ble_eq_true rfl⟩ (gp_V hK hE hA hP hD hS [0] rfl (by decide) rfl (q0 := 0) rfl rfl) rfl hl.1 rfl (Nat.le_of_ble_eq_true rfl) dX2_closure_14 ⟨Nat.le_of_ble_eq_true rfl, Nat.le_of_ble_eq_true rfl⟩) hP hD hS hA [0] [] rfl rfl (by decide) (by decide) (fun r2 u2 H locs hp2 hP hD hS => ?_)
    have hP : va_P g.1 vwCl [(mm, .inr (2, [.int 0, .int 0, .int 0, .ref (b 3), .ref (b 4), .int 0, .ref (b 6), .ref (b 7), .ref (b 8), .ref (b 9), .int 0, .ref (b 11), .int 0, .ref (b 13), .ref (b 14)]))] H := hP
    have hD : va_D A [(mm, .inr (2, [.int 0, .int 0, .int 0, .ref (b 3), .ref (b 4), .int 0, .ref (b 6), .ref (b 7), .ref (b 8), .ref (b 9), .int 0, .ref (b 11), .int 0, .ref (b 13), .ref (b 14)]))] := hD
    have hp2 : r2 = gCloM x := hp2
    subst hp2
    refine lv_goto (tgt := 25) hx hb dX2_closure_17 (by decide) ?_
    exact g_ir hx hb hr hlocks hP hD hS (0, [.int 0, .int 0, .ref (b 3), .ref (b 4), .int 0, .ref (b 6), .ref (b 7), .ref (b 8), .ref (b 9), .int 0, .ref (b 11), .int 0, .ref (b 13), .ref (b 14)]) [0] rfl (by decide) rfl dX2_closure_25 (Nat.le_of_ble_eq_true rfl) (Nat.le_of_ble_eq_true rfl) (Or.inl ⟨rfl, hf1, rfl⟩)
  · have hP : va_P g.1 vwCl [(mm, .inr (2, [.int 0, .int 0, .int 0, .ref (b 3), .ref (b 4), .int 0, .ref (b 6), .ref (b 7), .ref (b 8), .ref (b 9), .int 0, .ref (b 11), .int 0, .ref (b 13), .ref (b 14)]))] H := hP
    have hD : va_D A [(mm, .inr (2, [.int 0, .int 0, .int 0, .ref (b 3), .ref (b 4), .int 0, .ref (b 6), .ref (b 7), .ref (b 8), .ref (b 9), .int 0, .ref (b 11), .int 0, .ref (b 13), .ref (b 14)]))] := hD
    refine lv_if_eq (tgt := 20) hx hb dX2_closure_9 (by decide) (fun _ => ?_) (fun c9 => absurd (by decide) c9)
    refine lv_aload_n hx hb dX2_closure_20 rfl (lv_at hl 0 rfl) ?_
    refine lv_iconst (v := 1) hx hb dX2_closure_21 (by decide) ?_
    refine gj_i (wc := [(mm, .inr (2, [.int 0, .int 0, .int 0, .ref (b 3), .ref (b 4), .int 0, .ref (b 6), .ref (b 7), .ref (b 8), .ref (b 9), .int 0, .ref (b 11), .int 0, .ref (b 13), .ref (b 14)]))]) (wr := []) (gr_V (n := 1) ⟨hx, hb, hml, hown, hts⟩ (c_X2_fail l g H.size mm b 0 0 1) gX2_closure_X2_fail rfl rfl rfl (by decide +kernel) ⟨Nat.le_of_ble_eq_true rfl, Nat.le_of_ble_eq_true rfl⟩ (gp_V hK hE hA hP hD hS [0] rfl (by decide) rfl (q0 := 0) rfl rfl) rfl hl.1 rfl (Nat.le_of_ble_eq_true rfl) dX2_closure_22 ⟨Nat.le_of_ble_eq_true rfl, Nat.le_of_ble_eq_true rfl⟩) hP hD hS hA [0] [] rfl rfl (by decide) (by decide) (fun r3 u3 H locs hp3 hP hD hS => ?_)
    have hP : va_P g.1 vwCl [(mm, .inr (2, [.int 1, .int 0, .int 0, .ref (b 3), .ref (b 4), .int 0, .ref (b 6), .ref (b 7), .ref (b 8), .ref (b 9), .int 0, .ref (b 11), .int 0, .ref (b 13), .ref (b 14)]))] H := hP
    have hD : va_D A [(mm, .inr (2, [.int 1, .int 0, .int 0, .ref (b 3), .ref (b 4), .int 0, .ref (b 6), .ref (b 7), .ref (b 8), .ref (b 9), .int 0, .ref (b 11), .int 0, .ref (b 13), .ref (b 14)]))] := hD
    have hp3 : r3 = 0 := hp3.trans (by decide)
    subst hp3
    exact g_ir hx hb hr hlocks hP hD hS (1, [.int 0, .int 0, .ref (b 3), .ref (b 4), .int 0, .ref (b 6), .ref (b 7), .ref (b 8), .ref (b 9), .int 0, .ref (b 11), .int 0, .ref (b 13), .ref (b 14)]) [0] rfl (by decide) rfl dX2_closure_25 (Nat.le_of_ble_eq_true rfl) (Nat.le_of_ble_eq_true rfl) (Or.inr ⟨rfl, hf1⟩)
set_option maxHeartbeats 4000000 in
set_option maxRecDepth 100000 in
theorem c_X2_generatorsOf (l : Launch) (g : gG) (sz : Nat) (mm : Nat) (b : Nat → Nat) (x : Int32) : gMi l yX2_generatorsOf wsX2_generatorsOf ({ frames := 4, cells := 0, slots := 0, locals := 92 } : Room) g [.ref mm, .int x] [(mm, .inr (2, [.int 0, .int 0, .int 0, .ref (b 3), .ref (b 4), .int 0, .ref (b 6), .ref (b 7), .ref (b 8), .ref (b 9), .int 0, .ref (b 11), .int 0, .ref (b 13), .ref (b 14)]))] sz (fun (r : Int32) (u : (Int32 × List Value)) => u.1 = 0 ∧ gSet x ∧ r = 0 ∨ u.1 = 1 ∧ ¬ gSet x) (fun (u : (Int32 × List Value)) => [(mm, .inr (2, .int u.1 :: u.2))]) 0 0 := by
  refine g_of (l := l) (y := yX2_generatorsOf) (wy := wsX2_generatorsOf) (rm := ({ frames := 4, cells := 0, slots := 0, locals := 92 } : Room)) (g := g) (av := [.ref mm, .int x]) (ws := [(mm, .inr (2, [.int 0, .int 0, .int 0, .ref (b 3), .ref (b 4), .int 0, .ref (b 6), .ref (b 7), .ref (b 8), .ref (b 9), .int 0, .ref (b 11), .int 0, .ref (b 13), .ref (b 14)]))]) (sz := sz) (mc := 0) (ms := 0) (Qc := fun A => va_Qi (fun (r : Int32) (u : (Int32 × List Value)) => u.1 = 0 ∧ gSet x ∧ r = 0 ∨ u.1 = 1 ∧ ¬ gSet x) (fun u t9 => gPost g A ((fun (u : (Int32 × List Value)) => [(mm, .inr (2, .int u.1 :: u.2))]) u) t9) A) (cc := cX2_generatorsOf) (maxL := 2) (ret := some .int) (by decide) rfl (Nat.le_of_ble_eq_true rfl) ?_
  intro p e s m below meth c A ls hx hb hr hml hown hts hlocks hnm hA hK hE hP hD hS hl
  have hl : lv_has ls 2 [(0, .ref mm), (1, .int x)] := hl
  have hown : s.vm.findClass RX2 = some m.cls := hown
  have hP : va_P g.1 vwCl [(mm, .inr (2, [.int 0, .int 0, .int 0, .ref (b 3), .ref (b 4), .int 0, .ref (b 6), .ref (b 7), .ref (b 8), .ref (b 9), .int 0, .ref (b 11), .int 0, .ref (b 13), .ref (b 14)]))] s.heap := hP
  have hinX2 : ∀ w ∈ u_ws RX2 TX2 15, w ∈ wsX2_generatorsOf := by decide +kernel
  refine lv_aload_n hx hb dX2_generatorsOf_0 rfl (lv_at hl 0 rfl) ?_
  refine lv_iconst (v := 0) hx hb dX2_generatorsOf_1 (by decide) ?_
  refine va_put (D := g.1) (ci := 2) (v := .int 0) (ty := .int) (C := RX2) (T := TX2) (N := 15) hx hb hts hinX2 tyX2 tyX2_ok nmX2 hown hK hP hD hS 0 rfl rfl 0 (by decide) (hts (.fieldLink RX2 38 "DefaultReasonerModel" "thrown" "I") (by decide +kernel)) (fun _ h9 => h9) rfl (by decide +kernel) rfl rfl (Nat.le_of_ble_eq_true rfl) dX2_generatorsOf_2 (fun H locs hP hD hS => ?_)
  have hP : va_P g.1 vwCl [(mm, .inr (2, [.int 0, .int 0, .int 0, .ref (b 3), .ref (b 4), .int 0, .ref (b 6), .ref (b 7), .ref (b 8), .ref (b 9), .int 0, .ref (b 11), .int 0, .ref (b 13), .ref (b 14)]))] H := hP
  have hD : va_D A [(mm, .inr (2, [.int 0, .int 0, .int 0, .ref (b 3), .ref (b 4), .int 0, .ref (b 6), .ref (b 7), .ref (b 8), .ref (b 9), .int 0, .ref (b 11), .int 0, .ref (b 13), .ref (b 14)]))] := hD
  refine lv_iload_n hx hb dX2_generatorsOf_5 rfl (lv_at hl 1 rfl) ?_
  refine gj_i (wc := []) (wr := [(mm, .inr (2, [.int 0, .int 0, .int 0, .ref (b 3), .ref (b 4), .int 0, .ref (b 6), .ref (b 7), .ref (b 8), .ref (b 9), .int 0, .ref (b 11), .int 0, .ref (b 13), .ref (b 14)]))]) (gr_S (n := 1) ⟨hx, hb, hml, hown, hts⟩ (c_X2_isSet l g H.size x) gX2_generatorsOf_X2_isSet rfl rfl rfl (by decide +kernel) ⟨Nat.le_of_ble_eq_true rfl, Nat.le_of_ble_eq_true rfl⟩ (gp_S hK hE hA hP hD hS [] rfl (by decide) rfl) rfl hl.1 rfl (Nat.le_of_ble_eq_true rfl) dX2_generatorsOf_6 ⟨Nat.le_of_ble_eq_true rfl, Nat.le_of_ble_eq_true rfl⟩) hP hD hS hA [] [0] rfl rfl (by decide) (by decide) (fun r1 u1 H locs hp1 hP hD hS => ?_)
  rcases hp1 with ⟨rfl, hf1⟩ | ⟨rfl, hf1⟩
  · have hP : va_P g.1 vwCl [(mm, .inr (2, [.int 0, .int 0, .int 0, .ref (b 3), .ref (b 4), .int 0, .ref (b 6), .ref (b 7), .ref (b 8), .ref (b 9), .int 0, .ref (b 11), .int 0, .ref (b 13), .ref (b 14)]))] H := hP
    have hD : va_D A [(mm, .inr (2, [.int 0, .int 0, .int 0, .ref (b 3), .ref (b 4), .int 0, .ref (b 6), .ref (b 7), .ref (b 8), .ref (b 9), .int 0, .ref (b 11), .int 0, .ref (b 13), .ref (b 14)]))] := hD
    refine lv_if_eq (tgt := 20) hx hb dX2_generatorsOf_9 (by decide) (fun c9 => absurd c9 (by decide)) (fun _ => ?_)
    refine lv_aload_n hx hb dX2_generatorsOf_12 rfl (lv_at hl 0 rfl) ?_
    refine lv_iload_n hx hb dX2_generatorsOf_13 rfl (lv_at hl 1 rfl) ?_
    refine gj_i (wc := [(mm, .inr (2, [.int 0, .int 0, .int 0, .ref (b 3), .ref (b 4), .int 0, .ref (b 6), .ref (b 7), .ref (b 8), .ref (b 9), .int 0, .ref (b 11), .int 0, .ref (b 13), .ref (b 14)]))]) (wr := []) (gr_V (n := 1) ⟨hx, hb, hml, hown, hts⟩ (c_X2_generators l g H.size mm b 0 0 x) gX2_generatorsOf_X2_generators rfl rfl rfl (by decide +kernel) ⟨Nat.le_of_ble_eq_true rfl, Nat.le_of_ble_eq_true rfl⟩ (gp_V hK hE hA hP hD hS [0] rfl (by decide) rfl (q0 := 0) rfl rfl) rfl hl.1 rfl (Nat.le_of_ble_eq_true rfl) dX2_generatorsOf_14 ⟨Nat.le_of_ble_eq_true rfl, Nat.le_of_ble_eq_true rfl⟩) hP hD hS hA [0] [] rfl rfl (by decide) (by decide) (fun r2 u2 H locs hp2 hP hD hS => ?_)
    have hP : va_P g.1 vwCl [(mm, .inr (2, [.int 0, .int 0, .int 0, .ref (b 3), .ref (b 4), .int 0, .ref (b 6), .ref (b 7), .ref (b 8), .ref (b 9), .int 0, .ref (b 11), .int 0, .ref (b 13), .ref (b 14)]))] H := hP
    have hD : va_D A [(mm, .inr (2, [.int 0, .int 0, .int 0, .ref (b 3), .ref (b 4), .int 0, .ref (b 6), .ref (b 7), .ref (b 8), .ref (b 9), .int 0, .ref (b 11), .int 0, .ref (b 13), .ref (b 14)]))] := hD
    have hp2 : r2 = 0 := hp2.trans (by decide)
    subst hp2
    refine lv_goto (tgt := 25) hx hb dX2_generatorsOf_17 (by decide) ?_
    exact g_ir hx hb hr hlocks hP hD hS (0, [.int 0, .int 0, .ref (b 3), .ref (b 4), .int 0, .ref (b 6), .ref (b 7), .ref (b 8), .ref (b 9), .int 0, .ref (b 11), .int 0, .ref (b 13), .ref (b 14)]) [0] rfl (by decide) rfl dX2_generatorsOf_25 (Nat.le_of_ble_eq_true rfl) (Nat.le_of_ble_eq_true rfl) (Or.inl ⟨rfl, hf1, rfl⟩)
  · have hP : va_P g.1 vwCl [(mm, .inr (2, [.int 0, .int 0, .int 0, .ref (b 3), .ref (b 4), .int 0, .ref (b 6), .ref (b 7), .ref (b 8), .ref (b 9), .int 0, .ref (b 11), .int 0, .ref (b 13), .ref (b 14)]))] H := hP
    have hD : va_D A [(mm, .inr (2, [.int 0, .int 0, .int 0, .ref (b 3), .ref (b 4), .int 0, .ref (b 6), .ref (b 7), .ref (b 8), .ref (b 9), .int 0, .ref (b 11), .int 0, .ref (b 13), .ref (b 14)]))] := hD
    refine lv_if_eq (tgt := 20) hx hb dX2_generatorsOf_9 (by decide) (fun _ => ?_) (fun c9 => absurd (by decide) c9)
    refine lv_aload_n hx hb dX2_generatorsOf_20 rfl (lv_at hl 0 rfl) ?_
    refine lv_iconst (v := 1) hx hb dX2_generatorsOf_21 (by decide) ?_
    refine gj_i (wc := [(mm, .inr (2, [.int 0, .int 0, .int 0, .ref (b 3), .ref (b 4), .int 0, .ref (b 6), .ref (b 7), .ref (b 8), .ref (b 9), .int 0, .ref (b 11), .int 0, .ref (b 13), .ref (b 14)]))]) (wr := []) (gr_V (n := 1) ⟨hx, hb, hml, hown, hts⟩ (c_X2_fail l g H.size mm b 0 0 1) gX2_generatorsOf_X2_fail rfl rfl rfl (by decide +kernel) ⟨Nat.le_of_ble_eq_true rfl, Nat.le_of_ble_eq_true rfl⟩ (gp_V hK hE hA hP hD hS [0] rfl (by decide) rfl (q0 := 0) rfl rfl) rfl hl.1 rfl (Nat.le_of_ble_eq_true rfl) dX2_generatorsOf_22 ⟨Nat.le_of_ble_eq_true rfl, Nat.le_of_ble_eq_true rfl⟩) hP hD hS hA [0] [] rfl rfl (by decide) (by decide) (fun r3 u3 H locs hp3 hP hD hS => ?_)
    have hP : va_P g.1 vwCl [(mm, .inr (2, [.int 1, .int 0, .int 0, .ref (b 3), .ref (b 4), .int 0, .ref (b 6), .ref (b 7), .ref (b 8), .ref (b 9), .int 0, .ref (b 11), .int 0, .ref (b 13), .ref (b 14)]))] H := hP
    have hD : va_D A [(mm, .inr (2, [.int 1, .int 0, .int 0, .ref (b 3), .ref (b 4), .int 0, .ref (b 6), .ref (b 7), .ref (b 8), .ref (b 9), .int 0, .ref (b 11), .int 0, .ref (b 13), .ref (b 14)]))] := hD
    have hp3 : r3 = 0 := hp3.trans (by decide)
    subst hp3
    exact g_ir hx hb hr hlocks hP hD hS (1, [.int 0, .int 0, .ref (b 3), .ref (b 4), .int 0, .ref (b 6), .ref (b 7), .ref (b 8), .ref (b 9), .int 0, .ref (b 11), .int 0, .ref (b 13), .ref (b 14)]) [0] rfl (by decide) rfl dX2_generatorsOf_25 (Nat.le_of_ble_eq_true rfl) (Nat.le_of_ble_eq_true rfl) (Or.inr ⟨rfl, hf1⟩)
set_option maxHeartbeats 4000000 in
set_option maxRecDepth 100000 in
theorem c_X2_isExtension (l : Launch) (g : gG) (sz : Nat) (mm : Nat) (b : Nat → Nat) (x : Int32) : gMi l yX2_isExtension wsX2_isExtension ({ frames := 5, cells := 0, slots := 0, locals := 113 } : Room) g [.ref mm, .int x] [(mm, .inr (2, [.int 0, .int 0, .int 0, .ref (b 3), .ref (b 4), .int 0, .ref (b 6), .ref (b 7), .ref (b 8), .ref (b 9), .int 0, .ref (b 11), .int 0, .ref (b 13), .ref (b 14)]))] sz (fun (r : Int32) (u : (Int32 × List Value)) => u.1 = 0 ∧ gSet x ∧ (r = 1 ∧ 0 = x ∨ r = 0 ∧ ¬ (0 : Int32) = x) ∨ u.1 = 1 ∧ ¬ gSet x) (fun (u : (Int32 × List Value)) => [(mm, .inr (2, .int u.1 :: u.2))]) 0 0 := by
  refine g_of (l := l) (y := yX2_isExtension) (wy := wsX2_isExtension) (rm := ({ frames := 5, cells := 0, slots := 0, locals := 113 } : Room)) (g := g) (av := [.ref mm, .int x]) (ws := [(mm, .inr (2, [.int 0, .int 0, .int 0, .ref (b 3), .ref (b 4), .int 0, .ref (b 6), .ref (b 7), .ref (b 8), .ref (b 9), .int 0, .ref (b 11), .int 0, .ref (b 13), .ref (b 14)]))]) (sz := sz) (mc := 0) (ms := 0) (Qc := fun A => va_Qi (fun (r : Int32) (u : (Int32 × List Value)) => u.1 = 0 ∧ gSet x ∧ (r = 1 ∧ 0 = x ∨ r = 0 ∧ ¬ (0 : Int32) = x) ∨ u.1 = 1 ∧ ¬ gSet x) (fun u t9 => gPost g A ((fun (u : (Int32 × List Value)) => [(mm, .inr (2, .int u.1 :: u.2))]) u) t9) A) (cc := cX2_isExtension) (maxL := 2) (ret := some .boolean) (by decide) rfl (Nat.le_of_ble_eq_true rfl) ?_
  intro p e s m below meth c A ls hx hb hr hml hown hts hlocks hnm hA hK hE hP hD hS hl
  have hl : lv_has ls 2 [(0, .ref mm), (1, .int x)] := hl
  have hown : s.vm.findClass RX2 = some m.cls := hown
  have hP : va_P g.1 vwCl [(mm, .inr (2, [.int 0, .int 0, .int 0, .ref (b 3), .ref (b 4), .int 0, .ref (b 6), .ref (b 7), .ref (b 8), .ref (b 9), .int 0, .ref (b 11), .int 0, .ref (b 13), .ref (b 14)]))] s.heap := hP
  have hinX2 : ∀ w ∈ u_ws RX2 TX2 15, w ∈ wsX2_isExtension := by decide +kernel
  refine lv_aload_n hx hb dX2_isExtension_0 rfl (lv_at hl 0 rfl) ?_
  refine lv_iload_n hx hb dX2_isExtension_1 rfl (lv_at hl 1 rfl) ?_
  refine gj_i (wc := []) (wr := [(mm, .inr (2, [.int 0, .int 0, .int 0, .ref (b 3), .ref (b 4), .int 0, .ref (b 6), .ref (b 7), .ref (b 8), .ref (b 9), .int 0, .ref (b 11), .int 0, .ref (b 13), .ref (b 14)]))]) (gr_S (n := 1) ⟨hx, hb, hml, hown, hts⟩ (c_X2_isSet l g s.heap.size x) gX2_isExtension_X2_isSet rfl rfl rfl (by decide +kernel) ⟨Nat.le_of_ble_eq_true rfl, Nat.le_of_ble_eq_true rfl⟩ (gp_S hK hE hA hP hD hS [] rfl (by decide) rfl) rfl hl.1 rfl (Nat.le_of_ble_eq_true rfl) dX2_isExtension_2 ⟨Nat.le_of_ble_eq_true rfl, Nat.le_of_ble_eq_true rfl⟩) hP hD hS hA [] [0] rfl rfl (by decide) (by decide) (fun r1 u1 H locs hp1 hP hD hS => ?_)
  rcases hp1 with ⟨rfl, hf1⟩ | ⟨rfl, hf1⟩
  · have hP : va_P g.1 vwCl [(mm, .inr (2, [.int 0, .int 0, .int 0, .ref (b 3), .ref (b 4), .int 0, .ref (b 6), .ref (b 7), .ref (b 8), .ref (b 9), .int 0, .ref (b 11), .int 0, .ref (b 13), .ref (b 14)]))] H := hP
    have hD : va_D A [(mm, .inr (2, [.int 0, .int 0, .int 0, .ref (b 3), .ref (b 4), .int 0, .ref (b 6), .ref (b 7), .ref (b 8), .ref (b 9), .int 0, .ref (b 11), .int 0, .ref (b 13), .ref (b 14)]))] := hD
    refine lv_if_eq (tgt := 12) hx hb dX2_isExtension_5 (by decide) (fun c9 => absurd c9 (by decide)) (fun _ => ?_)
    refine lv_iconst (v := 0) hx hb dX2_isExtension_8 (by decide) ?_
    refine lv_goto (tgt := 13) hx hb dX2_isExtension_9 (by decide) ?_
    refine va_put (D := g.1) (ci := 2) (v := .int 0) (ty := .int) (C := RX2) (T := TX2) (N := 15) hx hb hts hinX2 tyX2 tyX2_ok nmX2 hown hK hP hD hS 0 rfl rfl 0 (by decide) (hts (.fieldLink RX2 38 "DefaultReasonerModel" "thrown" "I") (by decide +kernel)) (fun _ h9 => h9) rfl (by decide +kernel) rfl rfl (Nat.le_of_ble_eq_true rfl) dX2_isExtension_13 (fun H locs hP hD hS => ?_)
    have hP : va_P g.1 vwCl [(mm, .inr (2, [.int 0, .int 0, .int 0, .ref (b 3), .ref (b 4), .int 0, .ref (b 6), .ref (b 7), .ref (b 8), .ref (b 9), .int 0, .ref (b 11), .int 0, .ref (b 13), .ref (b 14)]))] H := hP
    have hD : va_D A [(mm, .inr (2, [.int 0, .int 0, .int 0, .ref (b 3), .ref (b 4), .int 0, .ref (b 6), .ref (b 7), .ref (b 8), .ref (b 9), .int 0, .ref (b 11), .int 0, .ref (b 13), .ref (b 14)]))] := hD
    refine lv_aload_n hx hb dX2_isExtension_16 rfl (lv_at hl 0 rfl) ?_
    refine va_get (D := g.1) (ci := 2) (v := .int 0) (C := RX2) (T := TX2) (N := 15) hx hb hts hinX2 hown hK hP 0 rfl rfl 0 (by decide) (hts (.fieldLink RX2 38 "DefaultReasonerModel" "thrown" "I") (by decide +kernel)) (fun _ h9 => h9) rfl dX2_isExtension_17 ?_
    refine lv_if_ne (tgt := 35) hx hb dX2_isExtension_20 (by decide) (fun c9 => absurd (by decide) c9) (fun _ => ?_)
    refine lv_aload_n hx hb dX2_isExtension_23 rfl (lv_at hl 0 rfl) ?_
    refine lv_iload_n hx hb dX2_isExtension_24 rfl (lv_at hl 1 rfl) ?_
    refine gj_i (wc := [(mm, .inr (2, [.int 0, .int 0, .int 0, .ref (b 3), .ref (b 4), .int 0, .ref (b 6), .ref (b 7), .ref (b 8), .ref (b 9), .int 0, .ref (b 11), .int 0, .ref (b 13), .ref (b 14)]))]) (wr := []) (gr_V (n := 1) ⟨hx, hb, hml, hown, hts⟩ (c_X2_isStable l g H.size mm b 0 0 x) gX2_isExtension_X2_isStable rfl rfl rfl (by decide +kernel) ⟨Nat.le_of_ble_eq_true rfl, Nat.le_of_ble_eq_true rfl⟩ (gp_V hK hE hA hP hD hS [0] rfl (by decide) rfl (q0 := 0) rfl rfl) rfl hl.1 rfl (Nat.le_of_ble_eq_true rfl) dX2_isExtension_25 ⟨Nat.le_of_ble_eq_true rfl, Nat.le_of_ble_eq_true rfl⟩) hP hD hS hA [0] [] rfl rfl (by decide) (by decide) (fun r2 u2 H locs hp2 hP hD hS => ?_)
    rcases hp2 with ⟨rfl, hf2⟩ | ⟨rfl, hf2⟩
    · have hP : va_P g.1 vwCl [(mm, .inr (2, [.int 0, .int 0, .int 0, .ref (b 3), .ref (b 4), .int 0, .ref (b 6), .ref (b 7), .ref (b 8), .ref (b 9), .int 0, .ref (b 11), .int 0, .ref (b 13), .ref (b 14)]))] H := hP
      have hD : va_D A [(mm, .inr (2, [.int 0, .int 0, .int 0, .ref (b 3), .ref (b 4), .int 0, .ref (b 6), .ref (b 7), .ref (b 8), .ref (b 9), .int 0, .ref (b 11), .int 0, .ref (b 13), .ref (b 14)]))] := hD
      refine lv_if_eq (tgt := 35) hx hb dX2_isExtension_28 (by decide) (fun c9 => absurd c9 (by decide)) (fun _ => ?_)
      refine lv_iconst (v := 1) hx hb dX2_isExtension_31 (by decide) ?_
      refine lv_goto (tgt := 36) hx hb dX2_isExtension_32 (by decide) ?_
      exact g_zr hx hb hr hlocks hP hD hS (0, [.int 0, .int 0, .ref (b 3), .ref (b 4), .int 0, .ref (b 6), .ref (b 7), .ref (b 8), .ref (b 9), .int 0, .ref (b 11), .int 0, .ref (b 13), .ref (b 14)]) [0] rfl (by decide) rfl dX2_isExtension_36 (Nat.le_of_ble_eq_true rfl) (Nat.le_of_ble_eq_true rfl) (Or.inr rfl) (Or.inl ⟨rfl, hf1, Or.inl ⟨rfl, hf2⟩⟩)
    · have hP : va_P g.1 vwCl [(mm, .inr (2, [.int 0, .int 0, .int 0, .ref (b 3), .ref (b 4), .int 0, .ref (b 6), .ref (b 7), .ref (b 8), .ref (b 9), .int 0, .ref (b 11), .int 0, .ref (b 13), .ref (b 14)]))] H := hP
      have hD : va_D A [(mm, .inr (2, [.int 0, .int 0, .int 0, .ref (b 3), .ref (b 4), .int 0, .ref (b 6), .ref (b 7), .ref (b 8), .ref (b 9), .int 0, .ref (b 11), .int 0, .ref (b 13), .ref (b 14)]))] := hD
      refine lv_if_eq (tgt := 35) hx hb dX2_isExtension_28 (by decide) (fun _ => ?_) (fun c9 => absurd (by decide) c9)
      refine lv_iconst (v := 0) hx hb dX2_isExtension_35 (by decide) ?_
      exact g_zr hx hb hr hlocks hP hD hS (0, [.int 0, .int 0, .ref (b 3), .ref (b 4), .int 0, .ref (b 6), .ref (b 7), .ref (b 8), .ref (b 9), .int 0, .ref (b 11), .int 0, .ref (b 13), .ref (b 14)]) [0] rfl (by decide) rfl dX2_isExtension_36 (Nat.le_of_ble_eq_true rfl) (Nat.le_of_ble_eq_true rfl) (Or.inl rfl) (Or.inl ⟨rfl, hf1, Or.inr ⟨rfl, hf2⟩⟩)
  · have hP : va_P g.1 vwCl [(mm, .inr (2, [.int 0, .int 0, .int 0, .ref (b 3), .ref (b 4), .int 0, .ref (b 6), .ref (b 7), .ref (b 8), .ref (b 9), .int 0, .ref (b 11), .int 0, .ref (b 13), .ref (b 14)]))] H := hP
    have hD : va_D A [(mm, .inr (2, [.int 0, .int 0, .int 0, .ref (b 3), .ref (b 4), .int 0, .ref (b 6), .ref (b 7), .ref (b 8), .ref (b 9), .int 0, .ref (b 11), .int 0, .ref (b 13), .ref (b 14)]))] := hD
    refine lv_if_eq (tgt := 12) hx hb dX2_isExtension_5 (by decide) (fun _ => ?_) (fun c9 => absurd (by decide) c9)
    refine lv_iconst (v := 1) hx hb dX2_isExtension_12 (by decide) ?_
    refine va_put (D := g.1) (ci := 2) (v := .int 1) (ty := .int) (C := RX2) (T := TX2) (N := 15) hx hb hts hinX2 tyX2 tyX2_ok nmX2 hown hK hP hD hS 0 rfl rfl 0 (by decide) (hts (.fieldLink RX2 38 "DefaultReasonerModel" "thrown" "I") (by decide +kernel)) (fun _ h9 => h9) rfl (by decide +kernel) rfl rfl (Nat.le_of_ble_eq_true rfl) dX2_isExtension_13 (fun H locs hP hD hS => ?_)
    have hP : va_P g.1 vwCl [(mm, .inr (2, [.int 1, .int 0, .int 0, .ref (b 3), .ref (b 4), .int 0, .ref (b 6), .ref (b 7), .ref (b 8), .ref (b 9), .int 0, .ref (b 11), .int 0, .ref (b 13), .ref (b 14)]))] H := hP
    have hD : va_D A [(mm, .inr (2, [.int 1, .int 0, .int 0, .ref (b 3), .ref (b 4), .int 0, .ref (b 6), .ref (b 7), .ref (b 8), .ref (b 9), .int 0, .ref (b 11), .int 0, .ref (b 13), .ref (b 14)]))] := hD
    refine lv_aload_n hx hb dX2_isExtension_16 rfl (lv_at hl 0 rfl) ?_
    refine va_get (D := g.1) (ci := 2) (v := .int 1) (C := RX2) (T := TX2) (N := 15) hx hb hts hinX2 hown hK hP 0 rfl rfl 0 (by decide) (hts (.fieldLink RX2 38 "DefaultReasonerModel" "thrown" "I") (by decide +kernel)) (fun _ h9 => h9) rfl dX2_isExtension_17 ?_
    refine lv_if_ne (tgt := 35) hx hb dX2_isExtension_20 (by decide) (fun _ => ?_) (fun c9 => absurd c9 (by decide))
    refine lv_iconst (v := 0) hx hb dX2_isExtension_35 (by decide) ?_
    exact g_zr hx hb hr hlocks hP hD hS (1, [.int 0, .int 0, .ref (b 3), .ref (b 4), .int 0, .ref (b 6), .ref (b 7), .ref (b 8), .ref (b 9), .int 0, .ref (b 11), .int 0, .ref (b 13), .ref (b 14)]) [0] rfl (by decide) rfl dX2_isExtension_36 (Nat.le_of_ble_eq_true rfl) (Nat.le_of_ble_eq_true rfl) (Or.inl rfl) (Or.inr ⟨rfl, hf1⟩)
set_option maxHeartbeats 4000000 in
set_option maxRecDepth 100000 in
theorem c_X2_extensionCount (l : Launch) (g : gG) (sz : Nat) (mm : Nat) (b : Nat → Nat) : gMi l yX2_extensionCount wsX2_extensionCount ({ frames := 5, cells := 0, slots := 0, locals := 115 } : Room) g [.ref mm] [(mm, .inr (2, [.int 0, .int 0, .int 0, .ref (b 3), .ref (b 4), .int 0, .ref (b 6), .ref (b 7), .ref (b 8), .ref (b 9), .int 0, .ref (b 11), .int 0, .ref (b 13), .ref (b 14)])), ((b 13), .inl (g.2.1.1, 64, .inl (fun _ => 0)))] sz (fun (r : Int32) (u : (Int32 × List Value)) => r = 1) (fun (u : (Int32 × List Value)) => [(mm, .inr (2, .int u.1 :: u.2))]) 0 0 := by
  refine g_of (l := l) (y := yX2_extensionCount) (wy := wsX2_extensionCount) (rm := ({ frames := 5, cells := 0, slots := 0, locals := 115 } : Room)) (g := g) (av := [.ref mm]) (ws := [(mm, .inr (2, [.int 0, .int 0, .int 0, .ref (b 3), .ref (b 4), .int 0, .ref (b 6), .ref (b 7), .ref (b 8), .ref (b 9), .int 0, .ref (b 11), .int 0, .ref (b 13), .ref (b 14)])), ((b 13), .inl (g.2.1.1, 64, .inl (fun _ => 0)))]) (sz := sz) (mc := 0) (ms := 0) (Qc := fun A => va_Qi (fun (r : Int32) (u : (Int32 × List Value)) => r = 1) (fun u t9 => gPost g A ((fun (u : (Int32 × List Value)) => [(mm, .inr (2, .int u.1 :: u.2))]) u) t9) A) (cc := cX2_extensionCount) (maxL := 1) (ret := some .int) (by decide) rfl (Nat.le_of_ble_eq_true rfl) ?_
  intro p e s m below meth c A ls hx hb hr hml hown hts hlocks hnm hA hK hE hP hD hS hl
  have hl : lv_has ls 1 [(0, .ref mm)] := hl
  have hown : s.vm.findClass RX2 = some m.cls := hown
  have hP : va_P g.1 vwCl [(mm, .inr (2, [.int 0, .int 0, .int 0, .ref (b 3), .ref (b 4), .int 0, .ref (b 6), .ref (b 7), .ref (b 8), .ref (b 9), .int 0, .ref (b 11), .int 0, .ref (b 13), .ref (b 14)])), ((b 13), .inl (g.2.1.1, 64, .inl (fun _ => 0)))] s.heap := hP
  have hinX2 : ∀ w ∈ u_ws RX2 TX2 15, w ∈ wsX2_extensionCount := by decide +kernel
  refine lv_aload_n hx hb dX2_extensionCount_0 rfl (lv_at hl 0 rfl) ?_
  refine lv_iconst (v := 0) hx hb dX2_extensionCount_1 (by decide) ?_
  refine va_put (D := g.1) (ci := 2) (v := .int 0) (ty := .int) (C := RX2) (T := TX2) (N := 15) hx hb hts hinX2 tyX2 tyX2_ok nmX2 hown hK hP hD hS 0 rfl rfl 0 (by decide) (hts (.fieldLink RX2 38 "DefaultReasonerModel" "thrown" "I") (by decide +kernel)) (fun _ h9 => h9) rfl (by decide +kernel) rfl rfl (Nat.le_of_ble_eq_true rfl) dX2_extensionCount_2 (fun H locs hP hD hS => ?_)
  have hP : va_P g.1 vwCl [(mm, .inr (2, [.int 0, .int 0, .int 0, .ref (b 3), .ref (b 4), .int 0, .ref (b 6), .ref (b 7), .ref (b 8), .ref (b 9), .int 0, .ref (b 11), .int 0, .ref (b 13), .ref (b 14)])), ((b 13), .inl (g.2.1.1, 64, .inl (fun _ => 0)))] H := hP
  have hD : va_D A [(mm, .inr (2, [.int 0, .int 0, .int 0, .ref (b 3), .ref (b 4), .int 0, .ref (b 6), .ref (b 7), .ref (b 8), .ref (b 9), .int 0, .ref (b 11), .int 0, .ref (b 13), .ref (b 14)])), ((b 13), .inl (g.2.1.1, 64, .inl (fun _ => 0)))] := hD
  refine lv_aload_n hx hb dX2_extensionCount_5 rfl (lv_at hl 0 rfl) ?_
  refine gj_v (wc := [(mm, .inr (2, [.int 0, .int 0, .int 0, .ref (b 3), .ref (b 4), .int 0, .ref (b 6), .ref (b 7), .ref (b 8), .ref (b 9), .int 0, .ref (b 11), .int 0, .ref (b 13), .ref (b 14)])), ((b 13), .inl (g.2.1.1, 64, .inl (fun _ => 0)))]) (wr := []) (gr_V (n := 0) ⟨hx, hb, hml, hown, hts⟩ (c_X2_find l g H.size mm b 0 0 (fun _ => 0)) gX2_extensionCount_X2_find rfl rfl rfl (by decide +kernel) ⟨Nat.le_of_ble_eq_true rfl, Nat.le_of_ble_eq_true rfl⟩ (gp_V hK hE hA hP hD hS [0, 1] rfl (by decide) rfl (q0 := 0) rfl rfl) rfl hl.1 rfl (Nat.le_of_ble_eq_true rfl) dX2_extensionCount_6 ⟨Nat.le_of_ble_eq_true rfl, Nat.le_of_ble_eq_true rfl⟩) hP hD hS hA [0, 1] [] rfl rfl (by decide) (by decide) (fun u1 H locs hp1 hP hD hS => ?_)
  have hP : va_P g.1 vwCl [(mm, .inr (2, [.int 0, .int 0, .int 0, .ref (b 3), .ref (b 4), .int 0, .ref (b 6), .ref (b 7), .ref (b 8), .ref (b 9), .int 0, .ref (b 11), .int 1, .ref (b 13), .ref (b 14)])), ((b 13), .inl (g.2.1.1, 64, .inl (upd (fun _ => 0) 0 0)))] H := hP
  have hD : va_D A [(mm, .inr (2, [.int 0, .int 0, .int 0, .ref (b 3), .ref (b 4), .int 0, .ref (b 6), .ref (b 7), .ref (b 8), .ref (b 9), .int 0, .ref (b 11), .int 1, .ref (b 13), .ref (b 14)])), ((b 13), .inl (g.2.1.1, 64, .inl (upd (fun _ => 0) 0 0)))] := hD
  refine lv_aload_n hx hb dX2_extensionCount_9 rfl (lv_at hl 0 rfl) ?_
  refine va_get (D := g.1) (ci := 2) (v := .int 1) (C := RX2) (T := TX2) (N := 15) hx hb hts hinX2 hown hK hP 0 rfl rfl 12 (by decide) (hts (.fieldLink RX2 92 "DefaultReasonerModel" "count" "I") (by decide +kernel)) (fun _ h9 => h9) rfl dX2_extensionCount_10 ?_
  exact g_ir hx hb hr hlocks hP hD hS (0, [.int 0, .int 0, .ref (b 3), .ref (b 4), .int 0, .ref (b 6), .ref (b 7), .ref (b 8), .ref (b 9), .int 0, .ref (b 11), .int 1, .ref (b 13), .ref (b 14)]) [0] rfl (by decide) rfl dX2_extensionCount_13 (Nat.le_of_ble_eq_true rfl) (Nat.le_of_ble_eq_true rfl) (rfl)
set_option maxHeartbeats 4000000 in
set_option maxRecDepth 100000 in
theorem c_X2_extension (l : Launch) (g : gG) (sz : Nat) (mm : Nat) (b : Nat → Nat) (x : Int32) : gMi l yX2_extension wsX2_extension ({ frames := 6, cells := 0, slots := 0, locals := 136 } : Room) g [.ref mm, .int x] [(mm, .inr (2, [.int 0, .int 0, .int 0, .ref (b 3), .ref (b 4), .int 0, .ref (b 6), .ref (b 7), .ref (b 8), .ref (b 9), .int 0, .ref (b 11), .int 0, .ref (b 13), .ref (b 14)])), ((b 13), .inl (g.2.1.1, 64, .inl (fun _ => 0)))] sz (fun (r : Int32) (u : (Int32 × List Value)) => u.1 = 0 ∧ gNil x ∧ r = 0 ∨ u.1 = 1 ∧ ¬ gNil x) (fun (u : (Int32 × List Value)) => [(mm, .inr (2, .int u.1 :: u.2))]) 0 0 := by
  refine g_of (l := l) (y := yX2_extension) (wy := wsX2_extension) (rm := ({ frames := 6, cells := 0, slots := 0, locals := 136 } : Room)) (g := g) (av := [.ref mm, .int x]) (ws := [(mm, .inr (2, [.int 0, .int 0, .int 0, .ref (b 3), .ref (b 4), .int 0, .ref (b 6), .ref (b 7), .ref (b 8), .ref (b 9), .int 0, .ref (b 11), .int 0, .ref (b 13), .ref (b 14)])), ((b 13), .inl (g.2.1.1, 64, .inl (fun _ => 0)))]) (sz := sz) (mc := 0) (ms := 0) (Qc := fun A => va_Qi (fun (r : Int32) (u : (Int32 × List Value)) => u.1 = 0 ∧ gNil x ∧ r = 0 ∨ u.1 = 1 ∧ ¬ gNil x) (fun u t9 => gPost g A ((fun (u : (Int32 × List Value)) => [(mm, .inr (2, .int u.1 :: u.2))]) u) t9) A) (cc := cX2_extension) (maxL := 2) (ret := some .int) (by decide) rfl (Nat.le_of_ble_eq_true rfl) ?_
  intro p e s m below meth c A ls hx hb hr hml hown hts hlocks hnm hA hK hE hP hD hS hl
  have hl : lv_has ls 2 [(0, .ref mm), (1, .int x)] := hl
  have hown : s.vm.findClass RX2 = some m.cls := hown
  have hP : va_P g.1 vwCl [(mm, .inr (2, [.int 0, .int 0, .int 0, .ref (b 3), .ref (b 4), .int 0, .ref (b 6), .ref (b 7), .ref (b 8), .ref (b 9), .int 0, .ref (b 11), .int 0, .ref (b 13), .ref (b 14)])), ((b 13), .inl (g.2.1.1, 64, .inl (fun _ => 0)))] s.heap := hP
  have hinX2 : ∀ w ∈ u_ws RX2 TX2 15, w ∈ wsX2_extension := by decide +kernel
  refine lv_aload_n hx hb dX2_extension_0 rfl (lv_at hl 0 rfl) ?_
  refine lv_iload_n hx hb dX2_extension_1 rfl (lv_at hl 1 rfl) ?_
  refine gj_i (wc := [(mm, .inr (2, [.int 0, .int 0, .int 0, .ref (b 3), .ref (b 4), .int 0, .ref (b 6), .ref (b 7), .ref (b 8), .ref (b 9), .int 0, .ref (b 11), .int 0, .ref (b 13), .ref (b 14)])), ((b 13), .inl (g.2.1.1, 64, .inl (fun _ => 0)))]) (wr := []) (gr_V (n := 1) ⟨hx, hb, hml, hown, hts⟩ (c_X2_asks l g s.heap.size mm b x) gX2_extension_X2_asks rfl rfl rfl (by decide +kernel) ⟨Nat.le_of_ble_eq_true rfl, Nat.le_of_ble_eq_true rfl⟩ (gp_V hK hE hA hP hD hS [0, 1] rfl (by decide) rfl (q0 := 0) rfl rfl) rfl hl.1 rfl (Nat.le_of_ble_eq_true rfl) dX2_extension_2 ⟨Nat.le_of_ble_eq_true rfl, Nat.le_of_ble_eq_true rfl⟩) hP hD hS hA [0, 1] [] rfl rfl (by decide) (by decide) (fun r1 u1 H locs hp1 hP hD hS => ?_)
  rcases hp1 with ⟨rfl, rfl, hf1⟩ | ⟨rfl, rfl, hf1⟩
  · have hP : va_P g.1 vwCl [(mm, .inr (2, [.int 0, .int 0, .int 0, .ref (b 3), .ref (b 4), .int 0, .ref (b 6), .ref (b 7), .ref (b 8), .ref (b 9), .int 0, .ref (b 11), .int 1, .ref (b 13), .ref (b 14)])), ((b 13), .inl (g.2.1.1, 64, .inl (upd (fun _ => 0) 0 0)))] H := hP
    have hD : va_D A [(mm, .inr (2, [.int 0, .int 0, .int 0, .ref (b 3), .ref (b 4), .int 0, .ref (b 6), .ref (b 7), .ref (b 8), .ref (b 9), .int 0, .ref (b 11), .int 1, .ref (b 13), .ref (b 14)])), ((b 13), .inl (g.2.1.1, 64, .inl (upd (fun _ => 0) 0 0)))] := hD
    refine lv_if_eq (tgt := 17) hx hb dX2_extension_5 (by decide) (fun c9 => absurd c9 (by decide)) (fun _ => ?_)
    refine lv_aload_n hx hb dX2_extension_8 rfl (lv_at hl 0 rfl) ?_
    refine va_get (D := g.1) (ci := 2) (v := .ref (b 13)) (C := RX2) (T := TX2) (N := 15) hx hb hts hinX2 hown hK hP 0 rfl rfl 13 (by decide) (hts (.fieldLink RX2 32 "DefaultReasonerModel" "all" "[I") (by decide +kernel)) (fun _ h9 => h9) rfl dX2_extension_9 ?_
    refine lv_iload_n hx hb dX2_extension_12 rfl (lv_at hl 1 rfl) ?_
    refine va_iald hx hb hK hP 1 0 rfl rfl (g_nil_in hf1 (by decide)) dX2_extension_13 ?_
    refine sy_i (y := 0) (g_upd00 _) ?_
    refine lv_goto (tgt := 18) hx hb dX2_extension_14 (by decide) ?_
    exact g_ir hx hb hr hlocks hP hD hS (0, [.int 0, .int 0, .ref (b 3), .ref (b 4), .int 0, .ref (b 6), .ref (b 7), .ref (b 8), .ref (b 9), .int 0, .ref (b 11), .int 1, .ref (b 13), .ref (b 14)]) [0] rfl (by decide) rfl dX2_extension_18 (Nat.le_of_ble_eq_true rfl) (Nat.le_of_ble_eq_true rfl) (Or.inl ⟨rfl, hf1, rfl⟩)
  · have hP : va_P g.1 vwCl [(mm, .inr (2, [.int 1, .int 0, .int 0, .ref (b 3), .ref (b 4), .int 0, .ref (b 6), .ref (b 7), .ref (b 8), .ref (b 9), .int 0, .ref (b 11), .int 1, .ref (b 13), .ref (b 14)])), ((b 13), .inl (g.2.1.1, 64, .inl (upd (fun _ => 0) 0 0)))] H := hP
    have hD : va_D A [(mm, .inr (2, [.int 1, .int 0, .int 0, .ref (b 3), .ref (b 4), .int 0, .ref (b 6), .ref (b 7), .ref (b 8), .ref (b 9), .int 0, .ref (b 11), .int 1, .ref (b 13), .ref (b 14)])), ((b 13), .inl (g.2.1.1, 64, .inl (upd (fun _ => 0) 0 0)))] := hD
    refine lv_if_eq (tgt := 17) hx hb dX2_extension_5 (by decide) (fun _ => ?_) (fun c9 => absurd (by decide) c9)
    refine lv_iconst (v := 0) hx hb dX2_extension_17 (by decide) ?_
    exact g_ir hx hb hr hlocks hP hD hS (1, [.int 0, .int 0, .ref (b 3), .ref (b 4), .int 0, .ref (b 6), .ref (b 7), .ref (b 8), .ref (b 9), .int 0, .ref (b 11), .int 1, .ref (b 13), .ref (b 14)]) [0] rfl (by decide) rfl dX2_extension_18 (Nat.le_of_ble_eq_true rfl) (Nat.le_of_ble_eq_true rfl) (Or.inr ⟨rfl, hf1⟩)
set_option maxHeartbeats 4000000 in
set_option maxRecDepth 100000 in
theorem c_X2_isPreferred (l : Launch) (g : gG) (sz : Nat) (mm : Nat) (b : Nat → Nat) (x : Int32) : gMi l yX2_isPreferred wsX2_isPreferred ({ frames := 6, cells := 3, slots := 19, locals := 139 } : Room) g [.ref mm, .int x] [(mm, .inr (2, [.int 0, .int 0, .int 0, .ref (b 3), .ref (b 4), .int 0, .ref (b 6), .ref (b 7), .ref (b 8), .ref (b 9), .int 0, .ref (b 11), .int 0, .ref (b 13), .ref (b 14)])), ((b 13), .inl (g.2.1.1, 64, .inl (fun _ => 0))), ((b 14), .inl (g.2.1.2.1, 64, .inl (fun _ => 0)))] sz (fun (r : Int32) (u : (Int32 × List Value)) => u.1 = 0 ∧ gNil x ∧ r = 1 ∨ u.1 = 1 ∧ ¬ gNil x) (fun (u : (Int32 × List Value)) => [(mm, .inr (2, .int u.1 :: u.2))]) 3 19 := by
  refine g_of (l := l) (y := yX2_isPreferred) (wy := wsX2_isPreferred) (rm := ({ frames := 6, cells := 3, slots := 19, locals := 139 } : Room)) (g := g) (av := [.ref mm, .int x]) (ws := [(mm, .inr (2, [.int 0, .int 0, .int 0, .ref (b 3), .ref (b 4), .int 0, .ref (b 6), .ref (b 7), .ref (b 8), .ref (b 9), .int 0, .ref (b 11), .int 0, .ref (b 13), .ref (b 14)])), ((b 13), .inl (g.2.1.1, 64, .inl (fun _ => 0))), ((b 14), .inl (g.2.1.2.1, 64, .inl (fun _ => 0)))]) (sz := sz) (mc := 3) (ms := 19) (Qc := fun A => va_Qi (fun (r : Int32) (u : (Int32 × List Value)) => u.1 = 0 ∧ gNil x ∧ r = 1 ∨ u.1 = 1 ∧ ¬ gNil x) (fun u t9 => gPost g A ((fun (u : (Int32 × List Value)) => [(mm, .inr (2, .int u.1 :: u.2))]) u) t9) A) (cc := cX2_isPreferred) (maxL := 2) (ret := some .boolean) (by decide) rfl (Nat.le_of_ble_eq_true rfl) ?_
  intro p e s m below meth c A ls hx hb hr hml hown hts hlocks hnm hA hK hE hP hD hS hl
  have hl : lv_has ls 2 [(0, .ref mm), (1, .int x)] := hl
  have hown : s.vm.findClass RX2 = some m.cls := hown
  have hP : va_P g.1 vwCl [(mm, .inr (2, [.int 0, .int 0, .int 0, .ref (b 3), .ref (b 4), .int 0, .ref (b 6), .ref (b 7), .ref (b 8), .ref (b 9), .int 0, .ref (b 11), .int 0, .ref (b 13), .ref (b 14)])), ((b 13), .inl (g.2.1.1, 64, .inl (fun _ => 0))), ((b 14), .inl (g.2.1.2.1, 64, .inl (fun _ => 0)))] s.heap := hP
  have hinX2 : ∀ w ∈ u_ws RX2 TX2 15, w ∈ wsX2_isPreferred := by decide +kernel
  refine lv_aload_n hx hb dX2_isPreferred_0 rfl (lv_at hl 0 rfl) ?_
  refine lv_iload_n hx hb dX2_isPreferred_1 rfl (lv_at hl 1 rfl) ?_
  refine gj_i (wc := [(mm, .inr (2, [.int 0, .int 0, .int 0, .ref (b 3), .ref (b 4), .int 0, .ref (b 6), .ref (b 7), .ref (b 8), .ref (b 9), .int 0, .ref (b 11), .int 0, .ref (b 13), .ref (b 14)])), ((b 13), .inl (g.2.1.1, 64, .inl (fun _ => 0)))]) (wr := [((b 14), .inl (g.2.1.2.1, 64, .inl (fun _ => 0)))]) (gr_V (n := 1) ⟨hx, hb, hml, hown, hts⟩ (c_X2_asks l g s.heap.size mm b x) gX2_isPreferred_X2_asks rfl rfl rfl (by decide +kernel) ⟨Nat.le_of_ble_eq_true rfl, Nat.le_of_ble_eq_true rfl⟩ (gp_V hK hE hA hP hD hS [0, 1] rfl (by decide) rfl (q0 := 0) rfl rfl) rfl hl.1 rfl (Nat.le_of_ble_eq_true rfl) dX2_isPreferred_2 ⟨Nat.le_of_ble_eq_true rfl, Nat.le_of_ble_eq_true rfl⟩) hP hD hS hA [0, 1] [2] rfl rfl (by decide) (by decide) (fun r1 u1 H locs hp1 hP hD hS => ?_)
  rcases hp1 with ⟨rfl, rfl, hf1⟩ | ⟨rfl, rfl, hf1⟩
  · have hP : va_P g.1 vwCl [((b 14), .inl (g.2.1.2.1, 64, .inl (fun _ => 0))), (mm, .inr (2, [.int 0, .int 0, .int 0, .ref (b 3), .ref (b 4), .int 0, .ref (b 6), .ref (b 7), .ref (b 8), .ref (b 9), .int 0, .ref (b 11), .int 1, .ref (b 13), .ref (b 14)])), ((b 13), .inl (g.2.1.1, 64, .inl (upd (fun _ => 0) 0 0)))] H := hP
    have hD : va_D A [((b 14), .inl (g.2.1.2.1, 64, .inl (fun _ => 0))), (mm, .inr (2, [.int 0, .int 0, .int 0, .ref (b 3), .ref (b 4), .int 0, .ref (b 6), .ref (b 7), .ref (b 8), .ref (b 9), .int 0, .ref (b 11), .int 1, .ref (b 13), .ref (b 14)])), ((b 13), .inl (g.2.1.1, 64, .inl (upd (fun _ => 0) 0 0)))] := hD
    refine lv_if_ne (tgt := 10) hx hb dX2_isPreferred_5 (by decide) (fun _ => ?_) (fun c9 => absurd c9 (by decide))
    refine lv_aload_n hx hb dX2_isPreferred_10 rfl (lv_at hl 0 rfl) ?_
    refine gj_v (wc := [(mm, .inr (2, [.int 0, .int 0, .int 0, .ref (b 3), .ref (b 4), .int 0, .ref (b 6), .ref (b 7), .ref (b 8), .ref (b 9), .int 0, .ref (b 11), .int 1, .ref (b 13), .ref (b 14)])), ((b 13), .inl (g.2.1.1, 64, .inl (upd (fun _ => 0) 0 0))), ((b 14), .inl (g.2.1.2.1, 64, .inl (fun _ => 0)))]) (wr := []) (gr_V (n := 0) ⟨hx, hb, hml, hown, hts⟩ (c_X2_findPreferred l g H.size mm b 0 1 (upd (fun _ => 0) 0 0) (fun _ => 0)) gX2_isPreferred_X2_findPreferred rfl rfl rfl (by decide +kernel) ⟨Nat.le_of_ble_eq_true rfl, Nat.le_of_ble_eq_true rfl⟩ (gp_V hK hE hA hP hD hS [1, 2, 0] rfl (by decide) rfl (q0 := 0) rfl rfl) rfl hl.1 rfl (Nat.le_of_ble_eq_true rfl) dX2_isPreferred_11 ⟨Nat.le_of_ble_eq_true rfl, Nat.le_of_ble_eq_true rfl⟩) hP hD hS hA [1, 2, 0] [] rfl rfl (by decide) (by decide) (fun u2 H locs hp2 hP hD hS => ?_)
    have hP : va_P g.1 vwCl [(mm, .inr (2, [.int 0, .int 0, .int 0, .ref (b 3), .ref (b 4), .int 0, .ref (b 6), .ref (b 7), .ref (b 8), .ref (b 9), .int 0, .ref (b 11), .int 1, .ref (b 13), .ref (b 14)])), ((b 13), .inl (g.2.1.1, 64, .inl (upd (upd (fun _ => 0) 0 0) 0 0))), ((b 14), .inl (g.2.1.2.1, 64, .inl (upd (upd (fun _ => 0) 0 0) 0 1)))] H := hP
    have hD : va_D A [(mm, .inr (2, [.int 0, .int 0, .int 0, .ref (b 3), .ref (b 4), .int 0, .ref (b 6), .ref (b 7), .ref (b 8), .ref (b 9), .int 0, .ref (b 11), .int 1, .ref (b 13), .ref (b 14)])), ((b 13), .inl (g.2.1.1, 64, .inl (upd (upd (fun _ => 0) 0 0) 0 0))), ((b 14), .inl (g.2.1.2.1, 64, .inl (upd (upd (fun _ => 0) 0 0) 0 1)))] := hD
    refine lv_aload_n hx hb dX2_isPreferred_14 rfl (lv_at hl 0 rfl) ?_
    refine va_get (D := g.1) (ci := 2) (v := .ref (b 14)) (C := RX2) (T := TX2) (N := 15) hx hb hts hinX2 hown hK hP 0 rfl rfl 14 (by decide) (hts (.fieldLink RX2 35 "DefaultReasonerModel" "arePreferred" "[Z") (by decide +kernel)) (fun _ h9 => h9) rfl dX2_isPreferred_15 ?_
    refine lv_iload_n hx hb dX2_isPreferred_18 rfl (lv_at hl 1 rfl) ?_
    refine va_zald hx hb hK hP 2 1 rfl rfl (g_nil_in hf1 (by decide)) dX2_isPreferred_19 ?_
    refine sy_i (y := 1) (g_nil_1 hf1) ?_
    exact g_zr hx hb hr hlocks hP hD hS (0, [.int 0, .int 0, .ref (b 3), .ref (b 4), .int 0, .ref (b 6), .ref (b 7), .ref (b 8), .ref (b 9), .int 0, .ref (b 11), .int 1, .ref (b 13), .ref (b 14)]) [0] rfl (by decide) rfl dX2_isPreferred_20 (Nat.le_of_ble_eq_true rfl) (Nat.le_of_ble_eq_true rfl) (Or.inr rfl) (Or.inl ⟨rfl, hf1, rfl⟩)
  · have hP : va_P g.1 vwCl [((b 14), .inl (g.2.1.2.1, 64, .inl (fun _ => 0))), (mm, .inr (2, [.int 1, .int 0, .int 0, .ref (b 3), .ref (b 4), .int 0, .ref (b 6), .ref (b 7), .ref (b 8), .ref (b 9), .int 0, .ref (b 11), .int 1, .ref (b 13), .ref (b 14)])), ((b 13), .inl (g.2.1.1, 64, .inl (upd (fun _ => 0) 0 0)))] H := hP
    have hD : va_D A [((b 14), .inl (g.2.1.2.1, 64, .inl (fun _ => 0))), (mm, .inr (2, [.int 1, .int 0, .int 0, .ref (b 3), .ref (b 4), .int 0, .ref (b 6), .ref (b 7), .ref (b 8), .ref (b 9), .int 0, .ref (b 11), .int 1, .ref (b 13), .ref (b 14)])), ((b 13), .inl (g.2.1.1, 64, .inl (upd (fun _ => 0) 0 0)))] := hD
    refine lv_if_ne (tgt := 10) hx hb dX2_isPreferred_5 (by decide) (fun c9 => absurd (by decide) c9) (fun _ => ?_)
    refine lv_iconst (v := 0) hx hb dX2_isPreferred_8 (by decide) ?_
    exact g_zr hx hb hr hlocks hP hD hS (1, [.int 0, .int 0, .ref (b 3), .ref (b 4), .int 0, .ref (b 6), .ref (b 7), .ref (b 8), .ref (b 9), .int 0, .ref (b 11), .int 1, .ref (b 13), .ref (b 14)]) [1] rfl (by decide) rfl dX2_isPreferred_9 (Nat.le_of_ble_eq_true rfl) (Nat.le_of_ble_eq_true rfl) (Or.inl rfl) (Or.inr ⟨rfl, hf1⟩)
set_option maxHeartbeats 4000000 in
set_option maxRecDepth 100000 in
theorem c_X2_preferredCount (l : Launch) (g : gG) (sz : Nat) (mm : Nat) (b : Nat → Nat) : gMi l yX2_preferredCount wsX2_preferredCount ({ frames := 7, cells := 3, slots := 19, locals := 161 } : Room) g [.ref mm] [(mm, .inr (2, [.int 0, .int 0, .int 0, .ref (b 3), .ref (b 4), .int 0, .ref (b 6), .ref (b 7), .ref (b 8), .ref (b 9), .int 0, .ref (b 11), .int 0, .ref (b 13), .ref (b 14)])), ((b 13), .inl (g.2.1.1, 64, .inl (fun _ => 0))), ((b 14), .inl (g.2.1.2.1, 64, .inl (fun _ => 0)))] sz (fun (r : Int32) (u : (Int32 × List Value)) => r = 1) (fun (u : (Int32 × List Value)) => [(mm, .inr (2, .int u.1 :: u.2))]) 3 19 := by
  refine g_of (l := l) (y := yX2_preferredCount) (wy := wsX2_preferredCount) (rm := ({ frames := 7, cells := 3, slots := 19, locals := 161 } : Room)) (g := g) (av := [.ref mm]) (ws := [(mm, .inr (2, [.int 0, .int 0, .int 0, .ref (b 3), .ref (b 4), .int 0, .ref (b 6), .ref (b 7), .ref (b 8), .ref (b 9), .int 0, .ref (b 11), .int 0, .ref (b 13), .ref (b 14)])), ((b 13), .inl (g.2.1.1, 64, .inl (fun _ => 0))), ((b 14), .inl (g.2.1.2.1, 64, .inl (fun _ => 0)))]) (sz := sz) (mc := 3) (ms := 19) (Qc := fun A => va_Qi (fun (r : Int32) (u : (Int32 × List Value)) => r = 1) (fun u t9 => gPost g A ((fun (u : (Int32 × List Value)) => [(mm, .inr (2, .int u.1 :: u.2))]) u) t9) A) (cc := cX2_preferredCount) (maxL := 1) (ret := some .int) (by decide) rfl (Nat.le_of_ble_eq_true rfl) ?_
  intro p e s m below meth c A ls hx hb hr hml hown hts hlocks hnm hA hK hE hP hD hS hl
  have hl : lv_has ls 1 [(0, .ref mm)] := hl
  have hown : s.vm.findClass RX2 = some m.cls := hown
  have hP : va_P g.1 vwCl [(mm, .inr (2, [.int 0, .int 0, .int 0, .ref (b 3), .ref (b 4), .int 0, .ref (b 6), .ref (b 7), .ref (b 8), .ref (b 9), .int 0, .ref (b 11), .int 0, .ref (b 13), .ref (b 14)])), ((b 13), .inl (g.2.1.1, 64, .inl (fun _ => 0))), ((b 14), .inl (g.2.1.2.1, 64, .inl (fun _ => 0)))] s.heap := hP
  have hinX2 : ∀ w ∈ u_ws RX2 TX2 15, w ∈ wsX2_preferredCount := by decide +kernel
  refine lv_aload_n hx hb dX2_preferredCount_0 rfl (lv_at hl 0 rfl) ?_
  refine lv_iconst (v := 0) hx hb dX2_preferredCount_1 (by decide) ?_
  refine va_put (D := g.1) (ci := 2) (v := .int 0) (ty := .int) (C := RX2) (T := TX2) (N := 15) hx hb hts hinX2 tyX2 tyX2_ok nmX2 hown hK hP hD hS 0 rfl rfl 0 (by decide) (hts (.fieldLink RX2 38 "DefaultReasonerModel" "thrown" "I") (by decide +kernel)) (fun _ h9 => h9) rfl (by decide +kernel) rfl rfl (Nat.le_of_ble_eq_true rfl) dX2_preferredCount_2 (fun H locs hP hD hS => ?_)
  have hP : va_P g.1 vwCl [(mm, .inr (2, [.int 0, .int 0, .int 0, .ref (b 3), .ref (b 4), .int 0, .ref (b 6), .ref (b 7), .ref (b 8), .ref (b 9), .int 0, .ref (b 11), .int 0, .ref (b 13), .ref (b 14)])), ((b 13), .inl (g.2.1.1, 64, .inl (fun _ => 0))), ((b 14), .inl (g.2.1.2.1, 64, .inl (fun _ => 0)))] H := hP
  have hD : va_D A [(mm, .inr (2, [.int 0, .int 0, .int 0, .ref (b 3), .ref (b 4), .int 0, .ref (b 6), .ref (b 7), .ref (b 8), .ref (b 9), .int 0, .ref (b 11), .int 0, .ref (b 13), .ref (b 14)])), ((b 13), .inl (g.2.1.1, 64, .inl (fun _ => 0))), ((b 14), .inl (g.2.1.2.1, 64, .inl (fun _ => 0)))] := hD
  refine lv_aload_n hx hb dX2_preferredCount_5 rfl (lv_at hl 0 rfl) ?_
  refine gj_i (wc := [(mm, .inr (2, [.int 0, .int 0, .int 0, .ref (b 3), .ref (b 4), .int 0, .ref (b 6), .ref (b 7), .ref (b 8), .ref (b 9), .int 0, .ref (b 11), .int 0, .ref (b 13), .ref (b 14)])), ((b 13), .inl (g.2.1.1, 64, .inl (fun _ => 0))), ((b 14), .inl (g.2.1.2.1, 64, .inl (fun _ => 0)))]) (wr := []) (gr_V (n := 0) ⟨hx, hb, hml, hown, hts⟩ (c_X2_preferred l g H.size mm b 0) gX2_preferredCount_X2_preferred rfl rfl rfl (by decide +kernel) ⟨Nat.le_of_ble_eq_true rfl, Nat.le_of_ble_eq_true rfl⟩ (gp_V hK hE hA hP hD hS [0, 1, 2] rfl (by decide) rfl (q0 := 0) rfl rfl) rfl hl.1 rfl (Nat.le_of_ble_eq_true rfl) dX2_preferredCount_6 ⟨Nat.le_of_ble_eq_true rfl, Nat.le_of_ble_eq_true rfl⟩) hP hD hS hA [0, 1, 2] [] rfl rfl (by decide) (by decide) (fun r1 u1 H locs hp1 hP hD hS => ?_)
  have hP : va_P g.1 vwCl [(mm, .inr (2, [.int 0, .int 0, .int 0, .ref (b 3), .ref (b 4), .int 0, .ref (b 6), .ref (b 7), .ref (b 8), .ref (b 9), .int 0, .ref (b 11), .int 1, .ref (b 13), .ref (b 14)])), ((b 13), .inl (g.2.1.1, 64, .inl (upd (fun _ => 0) 0 0))), ((b 14), .inl (g.2.1.2.1, 64, .inl (upd (upd (fun _ => 0) 0 0) 0 1)))] H := hP
  have hD : va_D A [(mm, .inr (2, [.int 0, .int 0, .int 0, .ref (b 3), .ref (b 4), .int 0, .ref (b 6), .ref (b 7), .ref (b 8), .ref (b 9), .int 0, .ref (b 11), .int 1, .ref (b 13), .ref (b 14)])), ((b 13), .inl (g.2.1.1, 64, .inl (upd (fun _ => 0) 0 0))), ((b 14), .inl (g.2.1.2.1, 64, .inl (upd (upd (fun _ => 0) 0 0) 0 1)))] := hD
  have hp1 : r1 = 1 := hp1.trans (by decide)
  subst hp1
  exact g_ir hx hb hr hlocks hP hD hS (0, [.int 0, .int 0, .ref (b 3), .ref (b 4), .int 0, .ref (b 6), .ref (b 7), .ref (b 8), .ref (b 9), .int 0, .ref (b 11), .int 1, .ref (b 13), .ref (b 14)]) [0] rfl (by decide) rfl dX2_preferredCount_9 (Nat.le_of_ble_eq_true rfl) (Nat.le_of_ble_eq_true rfl) (rfl)
set_option maxHeartbeats 4000000 in
set_option maxRecDepth 100000 in
theorem c_X2_supports (l : Launch) (g : gG) (sz : Nat) (mm : Nat) (b : Nat → Nat) (x : Int32) : gMi l yX2_supports wsX2_supports ({ frames := 5, cells := 0, slots := 0, locals := 115 } : Room) g [.ref mm, .int x] [(mm, .inr (2, [.int 0, .int 0, .int 0, .ref (b 3), .ref (b 4), .int 0, .ref (b 6), .ref (b 7), .ref (b 8), .ref (b 9), .int 0, .ref (b 11), .int 0, .ref (b 13), .ref (b 14)])), ((b 13), .inl (g.2.1.1, 64, .inl (fun _ => 0)))] sz (fun (r : Int32) (u : (Int32 × List Value)) => u.1 = 0 ∧ gLit x ∧ r = 0 ∨ u.1 = 1 ∧ ¬ gLit x) (fun (u : (Int32 × List Value)) => [(mm, .inr (2, .int u.1 :: u.2))]) 0 0 := by
  refine g_of (l := l) (y := yX2_supports) (wy := wsX2_supports) (rm := ({ frames := 5, cells := 0, slots := 0, locals := 115 } : Room)) (g := g) (av := [.ref mm, .int x]) (ws := [(mm, .inr (2, [.int 0, .int 0, .int 0, .ref (b 3), .ref (b 4), .int 0, .ref (b 6), .ref (b 7), .ref (b 8), .ref (b 9), .int 0, .ref (b 11), .int 0, .ref (b 13), .ref (b 14)])), ((b 13), .inl (g.2.1.1, 64, .inl (fun _ => 0)))]) (sz := sz) (mc := 0) (ms := 0) (Qc := fun A => va_Qi (fun (r : Int32) (u : (Int32 × List Value)) => u.1 = 0 ∧ gLit x ∧ r = 0 ∨ u.1 = 1 ∧ ¬ gLit x) (fun u t9 => gPost g A ((fun (u : (Int32 × List Value)) => [(mm, .inr (2, .int u.1 :: u.2))]) u) t9) A) (cc := cX2_supports) (maxL := 4) (ret := some .int) (by decide) rfl (Nat.le_of_ble_eq_true rfl) ?_
  intro p e s m below meth c A ls hx hb hr hml hown hts hlocks hnm hA hK hE hP hD hS hl
  have hl : lv_has ls 4 [(0, .ref mm), (1, .int x)] := hl
  have hown : s.vm.findClass RX2 = some m.cls := hown
  have hP : va_P g.1 vwCl [(mm, .inr (2, [.int 0, .int 0, .int 0, .ref (b 3), .ref (b 4), .int 0, .ref (b 6), .ref (b 7), .ref (b 8), .ref (b 9), .int 0, .ref (b 11), .int 0, .ref (b 13), .ref (b 14)])), ((b 13), .inl (g.2.1.1, 64, .inl (fun _ => 0)))] s.heap := hP
  have hinX2 : ∀ w ∈ u_ws RX2 TX2 15, w ∈ wsX2_supports := by decide +kernel
  refine lv_aload_n hx hb dX2_supports_0 rfl (lv_at hl 0 rfl) ?_
  refine lv_iconst (v := 0) hx hb dX2_supports_1 (by decide) ?_
  refine va_put (D := g.1) (ci := 2) (v := .int 0) (ty := .int) (C := RX2) (T := TX2) (N := 15) hx hb hts hinX2 tyX2 tyX2_ok nmX2 hown hK hP hD hS 0 rfl rfl 0 (by decide) (hts (.fieldLink RX2 38 "DefaultReasonerModel" "thrown" "I") (by decide +kernel)) (fun _ h9 => h9) rfl (by decide +kernel) rfl rfl (Nat.le_of_ble_eq_true rfl) dX2_supports_2 (fun H locs hP hD hS => ?_)
  have hP : va_P g.1 vwCl [(mm, .inr (2, [.int 0, .int 0, .int 0, .ref (b 3), .ref (b 4), .int 0, .ref (b 6), .ref (b 7), .ref (b 8), .ref (b 9), .int 0, .ref (b 11), .int 0, .ref (b 13), .ref (b 14)])), ((b 13), .inl (g.2.1.1, 64, .inl (fun _ => 0)))] H := hP
  have hD : va_D A [(mm, .inr (2, [.int 0, .int 0, .int 0, .ref (b 3), .ref (b 4), .int 0, .ref (b 6), .ref (b 7), .ref (b 8), .ref (b 9), .int 0, .ref (b 11), .int 0, .ref (b 13), .ref (b 14)])), ((b 13), .inl (g.2.1.1, 64, .inl (fun _ => 0)))] := hD
  refine lv_iload_n hx hb dX2_supports_5 rfl (lv_at hl 1 rfl) ?_
  refine gj_i (wc := []) (wr := [(mm, .inr (2, [.int 0, .int 0, .int 0, .ref (b 3), .ref (b 4), .int 0, .ref (b 6), .ref (b 7), .ref (b 8), .ref (b 9), .int 0, .ref (b 11), .int 0, .ref (b 13), .ref (b 14)])), ((b 13), .inl (g.2.1.1, 64, .inl (fun _ => 0)))]) (gr_S (n := 1) ⟨hx, hb, hml, hown, hts⟩ (c_X2_isLiteral l g H.size x) gX2_supports_X2_isLiteral rfl rfl rfl (by decide +kernel) ⟨Nat.le_of_ble_eq_true rfl, Nat.le_of_ble_eq_true rfl⟩ (gp_S hK hE hA hP hD hS [] rfl (by decide) rfl) rfl hl.1 rfl (Nat.le_of_ble_eq_true rfl) dX2_supports_6 ⟨Nat.le_of_ble_eq_true rfl, Nat.le_of_ble_eq_true rfl⟩) hP hD hS hA [] [0, 1] rfl rfl (by decide) (by decide) (fun r1 u1 H locs hp1 hP hD hS => ?_)
  rcases hp1 with ⟨rfl, hf1⟩ | ⟨rfl, hf1⟩
  · have hP : va_P g.1 vwCl [(mm, .inr (2, [.int 0, .int 0, .int 0, .ref (b 3), .ref (b 4), .int 0, .ref (b 6), .ref (b 7), .ref (b 8), .ref (b 9), .int 0, .ref (b 11), .int 0, .ref (b 13), .ref (b 14)])), ((b 13), .inl (g.2.1.1, 64, .inl (fun _ => 0)))] H := hP
    have hD : va_D A [(mm, .inr (2, [.int 0, .int 0, .int 0, .ref (b 3), .ref (b 4), .int 0, .ref (b 6), .ref (b 7), .ref (b 8), .ref (b 9), .int 0, .ref (b 11), .int 0, .ref (b 13), .ref (b 14)])), ((b 13), .inl (g.2.1.1, 64, .inl (fun _ => 0)))] := hD
    refine lv_if_ne (tgt := 18) hx hb dX2_supports_9 (by decide) (fun _ => ?_) (fun c9 => absurd c9 (by decide))
    refine lv_aload_n hx hb dX2_supports_18 rfl (lv_at hl 0 rfl) ?_
    refine gj_v (wc := [(mm, .inr (2, [.int 0, .int 0, .int 0, .ref (b 3), .ref (b 4), .int 0, .ref (b 6), .ref (b 7), .ref (b 8), .ref (b 9), .int 0, .ref (b 11), .int 0, .ref (b 13), .ref (b 14)])), ((b 13), .inl (g.2.1.1, 64, .inl (fun _ => 0)))]) (wr := []) (gr_V (n := 0) ⟨hx, hb, hml, hown, hts⟩ (c_X2_find l g H.size mm b 0 0 (fun _ => 0)) gX2_supports_X2_find rfl rfl rfl (by decide +kernel) ⟨Nat.le_of_ble_eq_true rfl, Nat.le_of_ble_eq_true rfl⟩ (gp_V hK hE hA hP hD hS [0, 1] rfl (by decide) rfl (q0 := 0) rfl rfl) rfl hl.1 rfl (Nat.le_of_ble_eq_true rfl) dX2_supports_19 ⟨Nat.le_of_ble_eq_true rfl, Nat.le_of_ble_eq_true rfl⟩) hP hD hS hA [0, 1] [] rfl rfl (by decide) (by decide) (fun u2 H locs hp2 hP hD hS => ?_)
    have hP : va_P g.1 vwCl [(mm, .inr (2, [.int 0, .int 0, .int 0, .ref (b 3), .ref (b 4), .int 0, .ref (b 6), .ref (b 7), .ref (b 8), .ref (b 9), .int 0, .ref (b 11), .int 1, .ref (b 13), .ref (b 14)])), ((b 13), .inl (g.2.1.1, 64, .inl (upd (fun _ => 0) 0 0)))] H := hP
    have hD : va_D A [(mm, .inr (2, [.int 0, .int 0, .int 0, .ref (b 3), .ref (b 4), .int 0, .ref (b 6), .ref (b 7), .ref (b 8), .ref (b 9), .int 0, .ref (b 11), .int 1, .ref (b 13), .ref (b 14)])), ((b 13), .inl (g.2.1.1, 64, .inl (upd (fun _ => 0) 0 0)))] := hD
    refine lv_iconst (v := 0) hx hb dX2_supports_22 (by decide) ?_
    refine lv_istore_n (lv' := [(2, .int 0), (0, .ref mm), (1, .int x)]) hx hb dX2_supports_23 rfl hl (by decide) rfl (fun ls hl => ?_)
    refine lv_iconst (v := 0) hx hb dX2_supports_24 (by decide) ?_
    refine lv_istore_n (lv' := [(3, .int 0), (2, .int 0), (0, .ref mm), (1, .int x)]) hx hb dX2_supports_25 rfl hl (by decide) rfl (fun ls hl => ?_)
    refine lv_iload_n hx hb dX2_supports_26 rfl (lv_at hl 0 rfl) ?_
    refine lv_aload_n hx hb dX2_supports_27 rfl (lv_at hl 2 rfl) ?_
    refine va_get (D := g.1) (ci := 2) (v := .int 1) (C := RX2) (T := TX2) (N := 15) hx hb hts hinX2 hown hK hP 0 rfl rfl 12 (by decide) (hts (.fieldLink RX2 92 "DefaultReasonerModel" "count" "I") (by decide +kernel)) (fun _ h9 => h9) rfl dX2_supports_28 ?_
    refine lv_icmp_ge (tgt := 53) hx hb dX2_supports_31 (by decide) (fun c9 => absurd c9 (by decide)) (fun _ => ?_)
    refine lv_iload_n hx hb dX2_supports_34 rfl (lv_at hl 1 rfl) ?_
    refine lv_aload_n hx hb dX2_supports_35 rfl (lv_at hl 2 rfl) ?_
    refine va_get (D := g.1) (ci := 2) (v := .ref (b 13)) (C := RX2) (T := TX2) (N := 15) hx hb hts hinX2 hown hK hP 0 rfl rfl 13 (by decide) (hts (.fieldLink RX2 32 "DefaultReasonerModel" "all" "[I") (by decide +kernel)) (fun _ h9 => h9) rfl dX2_supports_36 ?_
    refine lv_iload_n hx hb dX2_supports_39 rfl (lv_at hl 0 rfl) ?_
    refine va_iald hx hb hK hP 1 0 rfl rfl (by unfold vp_in; decide) dX2_supports_40 ?_
    refine sy_i (y := 0) (rfl) ?_
    refine lv_iload_n hx hb dX2_supports_41 rfl (lv_at hl 3 rfl) ?_
    refine lv_ishr hx hb dX2_supports_42 ?_
    refine sy_i (y := 0) (g_shr0 _) ?_
    refine lv_iconst (v := 1) hx hb dX2_supports_43 (by decide) ?_
    refine lv_iand hx hb dX2_supports_44 ?_
    refine sy_i (y := 0) (by decide) ?_
    refine lv_iadd hx hb dX2_supports_45 ?_
    refine sy_i (y := 0) (by decide) ?_
    refine lv_istore_n (lv' := [(2, .int 0), (3, .int 0), (0, .ref mm), (1, .int x)]) hx hb dX2_supports_46 rfl hl (by decide) rfl (fun ls hl => ?_)
    refine lv_iinc (v := 1) (lv' := [(3, .int 1), (2, .int 0), (0, .ref mm), (1, .int x)]) hx hb dX2_supports_47 hl (k := 1) rfl (by decide) (by decide) rfl (fun ls hl => ?_)
    refine lv_goto (tgt := 26) hx hb dX2_supports_50 (by decide) ?_
    refine lv_iload_n hx hb dX2_supports_26 rfl (lv_at hl 0 rfl) ?_
    refine lv_aload_n hx hb dX2_supports_27 rfl (lv_at hl 2 rfl) ?_
    refine va_get (D := g.1) (ci := 2) (v := .int 1) (C := RX2) (T := TX2) (N := 15) hx hb hts hinX2 hown hK hP 0 rfl rfl 12 (by decide) (hts (.fieldLink RX2 92 "DefaultReasonerModel" "count" "I") (by decide +kernel)) (fun _ h9 => h9) rfl dX2_supports_28 ?_
    refine lv_icmp_ge (tgt := 53) hx hb dX2_supports_31 (by decide) (fun _ => ?_) (fun c9 => absurd (by decide) c9)
    refine lv_iload_n hx hb dX2_supports_53 rfl (lv_at hl 1 rfl) ?_
    exact g_ir hx hb hr hlocks hP hD hS (0, [.int 0, .int 0, .ref (b 3), .ref (b 4), .int 0, .ref (b 6), .ref (b 7), .ref (b 8), .ref (b 9), .int 0, .ref (b 11), .int 1, .ref (b 13), .ref (b 14)]) [0] rfl (by decide) rfl dX2_supports_54 (Nat.le_of_ble_eq_true rfl) (Nat.le_of_ble_eq_true rfl) (Or.inl ⟨rfl, hf1, rfl⟩)
  · have hP : va_P g.1 vwCl [(mm, .inr (2, [.int 0, .int 0, .int 0, .ref (b 3), .ref (b 4), .int 0, .ref (b 6), .ref (b 7), .ref (b 8), .ref (b 9), .int 0, .ref (b 11), .int 0, .ref (b 13), .ref (b 14)])), ((b 13), .inl (g.2.1.1, 64, .inl (fun _ => 0)))] H := hP
    have hD : va_D A [(mm, .inr (2, [.int 0, .int 0, .int 0, .ref (b 3), .ref (b 4), .int 0, .ref (b 6), .ref (b 7), .ref (b 8), .ref (b 9), .int 0, .ref (b 11), .int 0, .ref (b 13), .ref (b 14)])), ((b 13), .inl (g.2.1.1, 64, .inl (fun _ => 0)))] := hD
    refine lv_if_ne (tgt := 18) hx hb dX2_supports_9 (by decide) (fun c9 => absurd (by decide) c9) (fun _ => ?_)
    refine lv_aload_n hx hb dX2_supports_12 rfl (lv_at hl 0 rfl) ?_
    refine lv_iconst (v := 1) hx hb dX2_supports_13 (by decide) ?_
    refine gj_i (wc := [(mm, .inr (2, [.int 0, .int 0, .int 0, .ref (b 3), .ref (b 4), .int 0, .ref (b 6), .ref (b 7), .ref (b 8), .ref (b 9), .int 0, .ref (b 11), .int 0, .ref (b 13), .ref (b 14)]))]) (wr := [((b 13), .inl (g.2.1.1, 64, .inl (fun _ => 0)))]) (gr_V (n := 1) ⟨hx, hb, hml, hown, hts⟩ (c_X2_fail l g H.size mm b 0 0 1) gX2_supports_X2_fail rfl rfl rfl (by decide +kernel) ⟨Nat.le_of_ble_eq_true rfl, Nat.le_of_ble_eq_true rfl⟩ (gp_V hK hE hA hP hD hS [0] rfl (by decide) rfl (q0 := 0) rfl rfl) rfl hl.1 rfl (Nat.le_of_ble_eq_true rfl) dX2_supports_14 ⟨Nat.le_of_ble_eq_true rfl, Nat.le_of_ble_eq_true rfl⟩) hP hD hS hA [0] [1] rfl rfl (by decide) (by decide) (fun r3 u3 H locs hp3 hP hD hS => ?_)
    have hP : va_P g.1 vwCl [((b 13), .inl (g.2.1.1, 64, .inl (fun _ => 0))), (mm, .inr (2, [.int 1, .int 0, .int 0, .ref (b 3), .ref (b 4), .int 0, .ref (b 6), .ref (b 7), .ref (b 8), .ref (b 9), .int 0, .ref (b 11), .int 0, .ref (b 13), .ref (b 14)]))] H := hP
    have hD : va_D A [((b 13), .inl (g.2.1.1, 64, .inl (fun _ => 0))), (mm, .inr (2, [.int 1, .int 0, .int 0, .ref (b 3), .ref (b 4), .int 0, .ref (b 6), .ref (b 7), .ref (b 8), .ref (b 9), .int 0, .ref (b 11), .int 0, .ref (b 13), .ref (b 14)]))] := hD
    have hp3 : r3 = 0 := hp3.trans (by decide)
    subst hp3
    exact g_ir hx hb hr hlocks hP hD hS (1, [.int 0, .int 0, .ref (b 3), .ref (b 4), .int 0, .ref (b 6), .ref (b 7), .ref (b 8), .ref (b 9), .int 0, .ref (b 11), .int 0, .ref (b 13), .ref (b 14)]) [1] rfl (by decide) rfl dX2_supports_17 (Nat.le_of_ble_eq_true rfl) (Nat.le_of_ble_eq_true rfl) (Or.inr ⟨rfl, hf1⟩)
set_option maxHeartbeats 4000000 in
set_option maxRecDepth 100000 in
theorem c_X2_common (l : Launch) (g : gG) (sz : Nat) (mm : Nat) (b : Nat → Nat) (x : Int32) : gMi l yX2_common wsX2_common ({ frames := 6, cells := 3, slots := 19, locals := 139 } : Room) g [.ref mm, .int x] [(mm, .inr (2, [.int 0, .int 0, .int 0, .ref (b 3), .ref (b 4), .int 0, .ref (b 6), .ref (b 7), .ref (b 8), .ref (b 9), .int 0, .ref (b 11), .int 0, .ref (b 13), .ref (b 14)])), ((b 13), .inl (g.2.1.1, 64, .inl (fun _ => 0))), ((b 14), .inl (g.2.1.2.1, 64, .inl (fun _ => 0)))] sz (fun (r : Int32) (u : (Int32 × List Value)) => r = 0) (fun (u : (Int32 × List Value)) => [(mm, .inr (2, .int u.1 :: u.2))]) 3 19 := by
  refine g_of (l := l) (y := yX2_common) (wy := wsX2_common) (rm := ({ frames := 6, cells := 3, slots := 19, locals := 139 } : Room)) (g := g) (av := [.ref mm, .int x]) (ws := [(mm, .inr (2, [.int 0, .int 0, .int 0, .ref (b 3), .ref (b 4), .int 0, .ref (b 6), .ref (b 7), .ref (b 8), .ref (b 9), .int 0, .ref (b 11), .int 0, .ref (b 13), .ref (b 14)])), ((b 13), .inl (g.2.1.1, 64, .inl (fun _ => 0))), ((b 14), .inl (g.2.1.2.1, 64, .inl (fun _ => 0)))]) (sz := sz) (mc := 3) (ms := 19) (Qc := fun A => va_Qi (fun (r : Int32) (u : (Int32 × List Value)) => r = 0) (fun u t9 => gPost g A ((fun (u : (Int32 × List Value)) => [(mm, .inr (2, .int u.1 :: u.2))]) u) t9) A) (cc := cX2_common) (maxL := 4) (ret := some .int) (by decide) rfl (Nat.le_of_ble_eq_true rfl) ?_
  intro p e s m below meth c A ls hx hb hr hml hown hts hlocks hnm hA hK hE hP hD hS hl
  have hl : lv_has ls 4 [(0, .ref mm), (1, .int x)] := hl
  have hown : s.vm.findClass RX2 = some m.cls := hown
  have hP : va_P g.1 vwCl [(mm, .inr (2, [.int 0, .int 0, .int 0, .ref (b 3), .ref (b 4), .int 0, .ref (b 6), .ref (b 7), .ref (b 8), .ref (b 9), .int 0, .ref (b 11), .int 0, .ref (b 13), .ref (b 14)])), ((b 13), .inl (g.2.1.1, 64, .inl (fun _ => 0))), ((b 14), .inl (g.2.1.2.1, 64, .inl (fun _ => 0)))] s.heap := hP
  have hinX2 : ∀ w ∈ u_ws RX2 TX2 15, w ∈ wsX2_common := by decide +kernel
  refine lv_aload_n hx hb dX2_common_0 rfl (lv_at hl 0 rfl) ?_
  refine lv_iconst (v := 0) hx hb dX2_common_1 (by decide) ?_
  refine va_put (D := g.1) (ci := 2) (v := .int 0) (ty := .int) (C := RX2) (T := TX2) (N := 15) hx hb hts hinX2 tyX2 tyX2_ok nmX2 hown hK hP hD hS 0 rfl rfl 0 (by decide) (hts (.fieldLink RX2 38 "DefaultReasonerModel" "thrown" "I") (by decide +kernel)) (fun _ h9 => h9) rfl (by decide +kernel) rfl rfl (Nat.le_of_ble_eq_true rfl) dX2_common_2 (fun H locs hP hD hS => ?_)
  have hP : va_P g.1 vwCl [(mm, .inr (2, [.int 0, .int 0, .int 0, .ref (b 3), .ref (b 4), .int 0, .ref (b 6), .ref (b 7), .ref (b 8), .ref (b 9), .int 0, .ref (b 11), .int 0, .ref (b 13), .ref (b 14)])), ((b 13), .inl (g.2.1.1, 64, .inl (fun _ => 0))), ((b 14), .inl (g.2.1.2.1, 64, .inl (fun _ => 0)))] H := hP
  have hD : va_D A [(mm, .inr (2, [.int 0, .int 0, .int 0, .ref (b 3), .ref (b 4), .int 0, .ref (b 6), .ref (b 7), .ref (b 8), .ref (b 9), .int 0, .ref (b 11), .int 0, .ref (b 13), .ref (b 14)])), ((b 13), .inl (g.2.1.1, 64, .inl (fun _ => 0))), ((b 14), .inl (g.2.1.2.1, 64, .inl (fun _ => 0)))] := hD
  refine lv_aload_n hx hb dX2_common_5 rfl (lv_at hl 0 rfl) ?_
  refine gj_v (wc := [(mm, .inr (2, [.int 0, .int 0, .int 0, .ref (b 3), .ref (b 4), .int 0, .ref (b 6), .ref (b 7), .ref (b 8), .ref (b 9), .int 0, .ref (b 11), .int 0, .ref (b 13), .ref (b 14)])), ((b 13), .inl (g.2.1.1, 64, .inl (fun _ => 0))), ((b 14), .inl (g.2.1.2.1, 64, .inl (fun _ => 0)))]) (wr := []) (gr_V (n := 0) ⟨hx, hb, hml, hown, hts⟩ (c_X2_findPreferred l g H.size mm b 0 0 (fun _ => 0) (fun _ => 0)) gX2_common_X2_findPreferred rfl rfl rfl (by decide +kernel) ⟨Nat.le_of_ble_eq_true rfl, Nat.le_of_ble_eq_true rfl⟩ (gp_V hK hE hA hP hD hS [0, 1, 2] rfl (by decide) rfl (q0 := 0) rfl rfl) rfl hl.1 rfl (Nat.le_of_ble_eq_true rfl) dX2_common_6 ⟨Nat.le_of_ble_eq_true rfl, Nat.le_of_ble_eq_true rfl⟩) hP hD hS hA [0, 1, 2] [] rfl rfl (by decide) (by decide) (fun u1 H locs hp1 hP hD hS => ?_)
  have hP : va_P g.1 vwCl [(mm, .inr (2, [.int 0, .int 0, .int 0, .ref (b 3), .ref (b 4), .int 0, .ref (b 6), .ref (b 7), .ref (b 8), .ref (b 9), .int 0, .ref (b 11), .int 1, .ref (b 13), .ref (b 14)])), ((b 13), .inl (g.2.1.1, 64, .inl (upd (fun _ => 0) 0 0))), ((b 14), .inl (g.2.1.2.1, 64, .inl (upd (upd (fun _ => 0) 0 0) 0 1)))] H := hP
  have hD : va_D A [(mm, .inr (2, [.int 0, .int 0, .int 0, .ref (b 3), .ref (b 4), .int 0, .ref (b 6), .ref (b 7), .ref (b 8), .ref (b 9), .int 0, .ref (b 11), .int 1, .ref (b 13), .ref (b 14)])), ((b 13), .inl (g.2.1.1, 64, .inl (upd (fun _ => 0) 0 0))), ((b 14), .inl (g.2.1.2.1, 64, .inl (upd (upd (fun _ => 0) 0 0) 0 1)))] := hD
  refine lv_ldc (v := 65535) hx hb hown (hts (.constant RX2 42 (65535)) (by decide +kernel)) dX2_common_9 ?_
  refine lv_istore_n (lv' := [(2, .int 65535), (0, .ref mm), (1, .int x)]) hx hb dX2_common_11 rfl hl (by decide) rfl (fun ls hl => ?_)
  refine lv_iconst (v := 0) hx hb dX2_common_12 (by decide) ?_
  refine lv_istore_n (lv' := [(3, .int 0), (2, .int 65535), (0, .ref mm), (1, .int x)]) hx hb dX2_common_13 rfl hl (by decide) rfl (fun ls hl => ?_)
  refine lv_iload_n hx hb dX2_common_14 rfl (lv_at hl 0 rfl) ?_
  refine lv_aload_n hx hb dX2_common_15 rfl (lv_at hl 2 rfl) ?_
  refine va_get (D := g.1) (ci := 2) (v := .int 1) (C := RX2) (T := TX2) (N := 15) hx hb hts hinX2 hown hK hP 0 rfl rfl 12 (by decide) (hts (.fieldLink RX2 92 "DefaultReasonerModel" "count" "I") (by decide +kernel)) (fun _ h9 => h9) rfl dX2_common_16 ?_
  refine lv_icmp_ge (tgt := 50) hx hb dX2_common_19 (by decide) (fun c9 => absurd c9 (by decide)) (fun _ => ?_)
  refine lv_aload_n hx hb dX2_common_22 rfl (lv_at hl 2 rfl) ?_
  refine va_get (D := g.1) (ci := 2) (v := .ref (b 14)) (C := RX2) (T := TX2) (N := 15) hx hb hts hinX2 hown hK hP 0 rfl rfl 14 (by decide) (hts (.fieldLink RX2 35 "DefaultReasonerModel" "arePreferred" "[Z") (by decide +kernel)) (fun _ h9 => h9) rfl dX2_common_23 ?_
  refine lv_iload_n hx hb dX2_common_26 rfl (lv_at hl 0 rfl) ?_
  refine va_zald hx hb hK hP 2 1 rfl rfl (by unfold vp_in; decide) dX2_common_27 ?_
  refine sy_i (y := 1) (rfl) ?_
  refine lv_if_ne (tgt := 35) hx hb dX2_common_28 (by decide) (fun _ => ?_) (fun c9 => absurd c9 (by decide))
  refine lv_iload_n hx hb dX2_common_35 rfl (lv_at hl 1 rfl) ?_
  refine lv_aload_n hx hb dX2_common_36 rfl (lv_at hl 2 rfl) ?_
  refine va_get (D := g.1) (ci := 2) (v := .ref (b 13)) (C := RX2) (T := TX2) (N := 15) hx hb hts hinX2 hown hK hP 0 rfl rfl 13 (by decide) (hts (.fieldLink RX2 32 "DefaultReasonerModel" "all" "[I") (by decide +kernel)) (fun _ h9 => h9) rfl dX2_common_37 ?_
  refine lv_iload_n hx hb dX2_common_40 rfl (lv_at hl 0 rfl) ?_
  refine va_iald hx hb hK hP 1 0 rfl rfl (by unfold vp_in; decide) dX2_common_41 ?_
  refine sy_i (y := 0) (rfl) ?_
  refine lv_iand hx hb dX2_common_42 ?_
  refine sy_i (y := 0) (by decide) ?_
  refine lv_istore_n (lv' := [(2, .int 0), (3, .int 0), (0, .ref mm), (1, .int x)]) hx hb dX2_common_43 rfl hl (by decide) rfl (fun ls hl => ?_)
  refine lv_iinc (v := 1) (lv' := [(3, .int 1), (2, .int 0), (0, .ref mm), (1, .int x)]) hx hb dX2_common_44 hl (k := 1) rfl (by decide) (by decide) rfl (fun ls hl => ?_)
  refine lv_goto (tgt := 14) hx hb dX2_common_47 (by decide) ?_
  refine lv_iload_n hx hb dX2_common_14 rfl (lv_at hl 0 rfl) ?_
  refine lv_aload_n hx hb dX2_common_15 rfl (lv_at hl 2 rfl) ?_
  refine va_get (D := g.1) (ci := 2) (v := .int 1) (C := RX2) (T := TX2) (N := 15) hx hb hts hinX2 hown hK hP 0 rfl rfl 12 (by decide) (hts (.fieldLink RX2 92 "DefaultReasonerModel" "count" "I") (by decide +kernel)) (fun _ h9 => h9) rfl dX2_common_16 ?_
  refine lv_icmp_ge (tgt := 50) hx hb dX2_common_19 (by decide) (fun _ => ?_) (fun c9 => absurd (by decide) c9)
  refine lv_iload_n hx hb dX2_common_50 rfl (lv_at hl 1 rfl) ?_
  exact g_ir hx hb hr hlocks hP hD hS (0, [.int 0, .int 0, .ref (b 3), .ref (b 4), .int 0, .ref (b 6), .ref (b 7), .ref (b 8), .ref (b 9), .int 0, .ref (b 11), .int 1, .ref (b 13), .ref (b 14)]) [0] rfl (by decide) rfl dX2_common_51 (Nat.le_of_ble_eq_true rfl) (Nat.le_of_ble_eq_true rfl) (rfl)
set_option maxHeartbeats 4000000 in
set_option maxRecDepth 100000 in
theorem c_X2_share (l : Launch) (g : gG) (sz : Nat) (mm : Nat) (b : Nat → Nat) (x : Int32) : gMd l yX2_share wsX2_share ({ frames := 7, cells := 3, slots := 19, locals := 161 } : Room) g [.ref mm, .int x] [(mm, .inr (2, [.int 0, .int 0, .int 0, .ref (b 3), .ref (b 4), .int 0, .ref (b 6), .ref (b 7), .ref (b 8), .ref (b 9), .int 0, .ref (b 11), .int 0, .ref (b 13), .ref (b 14)])), ((b 13), .inl (g.2.1.1, 64, .inl (fun _ => 0))), ((b 14), .inl (g.2.1.2.1, 64, .inl (fun _ => 0)))] sz (fun (r : UInt64) (u : (Int32 × List Value)) => u.1 = 0 ∧ gLit x ∧ r = FP.ddiv (FP.i2d 0) (FP.i2d 1) ∨ u.1 = 1 ∧ ¬ gLit x) (fun (u : (Int32 × List Value)) => [(mm, .inr (2, .int u.1 :: u.2))]) 3 19 := by
  refine g_of (l := l) (y := yX2_share) (wy := wsX2_share) (rm := ({ frames := 7, cells := 3, slots := 19, locals := 161 } : Room)) (g := g) (av := [.ref mm, .int x]) (ws := [(mm, .inr (2, [.int 0, .int 0, .int 0, .ref (b 3), .ref (b 4), .int 0, .ref (b 6), .ref (b 7), .ref (b 8), .ref (b 9), .int 0, .ref (b 11), .int 0, .ref (b 13), .ref (b 14)])), ((b 13), .inl (g.2.1.1, 64, .inl (fun _ => 0))), ((b 14), .inl (g.2.1.2.1, 64, .inl (fun _ => 0)))]) (sz := sz) (mc := 3) (ms := 19) (Qc := fun A => va_Qd (fun (r : UInt64) (u : (Int32 × List Value)) => u.1 = 0 ∧ gLit x ∧ r = FP.ddiv (FP.i2d 0) (FP.i2d 1) ∨ u.1 = 1 ∧ ¬ gLit x) (fun u t9 => gPost g A ((fun (u : (Int32 × List Value)) => [(mm, .inr (2, .int u.1 :: u.2))]) u) t9) A) (cc := cX2_share) (maxL := 5) (ret := some .double) (by decide) rfl (Nat.le_of_ble_eq_true rfl) ?_
  intro p e s m below meth c A ls hx hb hr hml hown hts hlocks hnm hA hK hE hP hD hS hl
  have hl : lv_has ls 5 [(0, .ref mm), (1, .int x)] := hl
  have hown : s.vm.findClass RX2 = some m.cls := hown
  have hP : va_P g.1 vwCl [(mm, .inr (2, [.int 0, .int 0, .int 0, .ref (b 3), .ref (b 4), .int 0, .ref (b 6), .ref (b 7), .ref (b 8), .ref (b 9), .int 0, .ref (b 11), .int 0, .ref (b 13), .ref (b 14)])), ((b 13), .inl (g.2.1.1, 64, .inl (fun _ => 0))), ((b 14), .inl (g.2.1.2.1, 64, .inl (fun _ => 0)))] s.heap := hP
  have hinX2 : ∀ w ∈ u_ws RX2 TX2 15, w ∈ wsX2_share := by decide +kernel
  refine lv_aload_n hx hb dX2_share_0 rfl (lv_at hl 0 rfl) ?_
  refine lv_iload_n hx hb dX2_share_1 rfl (lv_at hl 1 rfl) ?_
  refine gj_i (wc := []) (wr := [(mm, .inr (2, [.int 0, .int 0, .int 0, .ref (b 3), .ref (b 4), .int 0, .ref (b 6), .ref (b 7), .ref (b 8), .ref (b 9), .int 0, .ref (b 11), .int 0, .ref (b 13), .ref (b 14)])), ((b 13), .inl (g.2.1.1, 64, .inl (fun _ => 0))), ((b 14), .inl (g.2.1.2.1, 64, .inl (fun _ => 0)))]) (gr_S (n := 1) ⟨hx, hb, hml, hown, hts⟩ (c_X2_isLiteral l g s.heap.size x) gX2_share_X2_isLiteral rfl rfl rfl (by decide +kernel) ⟨Nat.le_of_ble_eq_true rfl, Nat.le_of_ble_eq_true rfl⟩ (gp_S hK hE hA hP hD hS [] rfl (by decide) rfl) rfl hl.1 rfl (Nat.le_of_ble_eq_true rfl) dX2_share_2 ⟨Nat.le_of_ble_eq_true rfl, Nat.le_of_ble_eq_true rfl⟩) hP hD hS hA [] [0, 1, 2] rfl rfl (by decide) (by decide) (fun r1 u1 H locs hp1 hP hD hS => ?_)
  rcases hp1 with ⟨rfl, hf1⟩ | ⟨rfl, hf1⟩
  · have hP : va_P g.1 vwCl [(mm, .inr (2, [.int 0, .int 0, .int 0, .ref (b 3), .ref (b 4), .int 0, .ref (b 6), .ref (b 7), .ref (b 8), .ref (b 9), .int 0, .ref (b 11), .int 0, .ref (b 13), .ref (b 14)])), ((b 13), .inl (g.2.1.1, 64, .inl (fun _ => 0))), ((b 14), .inl (g.2.1.2.1, 64, .inl (fun _ => 0)))] H := hP
    have hD : va_D A [(mm, .inr (2, [.int 0, .int 0, .int 0, .ref (b 3), .ref (b 4), .int 0, .ref (b 6), .ref (b 7), .ref (b 8), .ref (b 9), .int 0, .ref (b 11), .int 0, .ref (b 13), .ref (b 14)])), ((b 13), .inl (g.2.1.1, 64, .inl (fun _ => 0))), ((b 14), .inl (g.2.1.2.1, 64, .inl (fun _ => 0)))] := hD
    refine lv_if_eq (tgt := 12) hx hb dX2_share_5 (by decide) (fun c9 => absurd c9 (by decide)) (fun _ => ?_)
    refine lv_iconst (v := 0) hx hb dX2_share_8 (by decide) ?_
    refine lv_goto (tgt := 13) hx hb dX2_share_9 (by decide) ?_
    refine va_put (D := g.1) (ci := 2) (v := .int 0) (ty := .int) (C := RX2) (T := TX2) (N := 15) hx hb hts hinX2 tyX2 tyX2_ok nmX2 hown hK hP hD hS 0 rfl rfl 0 (by decide) (hts (.fieldLink RX2 38 "DefaultReasonerModel" "thrown" "I") (by decide +kernel)) (fun _ h9 => h9) rfl (by decide +kernel) rfl rfl (Nat.le_of_ble_eq_true rfl) dX2_share_13 (fun H locs hP hD hS => ?_)
    have hP : va_P g.1 vwCl [(mm, .inr (2, [.int 0, .int 0, .int 0, .ref (b 3), .ref (b 4), .int 0, .ref (b 6), .ref (b 7), .ref (b 8), .ref (b 9), .int 0, .ref (b 11), .int 0, .ref (b 13), .ref (b 14)])), ((b 13), .inl (g.2.1.1, 64, .inl (fun _ => 0))), ((b 14), .inl (g.2.1.2.1, 64, .inl (fun _ => 0)))] H := hP
    have hD : va_D A [(mm, .inr (2, [.int 0, .int 0, .int 0, .ref (b 3), .ref (b 4), .int 0, .ref (b 6), .ref (b 7), .ref (b 8), .ref (b 9), .int 0, .ref (b 11), .int 0, .ref (b 13), .ref (b 14)])), ((b 13), .inl (g.2.1.1, 64, .inl (fun _ => 0))), ((b 14), .inl (g.2.1.2.1, 64, .inl (fun _ => 0)))] := hD
    refine lv_aload_n hx hb dX2_share_16 rfl (lv_at hl 0 rfl) ?_
    refine va_get (D := g.1) (ci := 2) (v := .int 0) (C := RX2) (T := TX2) (N := 15) hx hb hts hinX2 hown hK hP 0 rfl rfl 0 (by decide) (hts (.fieldLink RX2 38 "DefaultReasonerModel" "thrown" "I") (by decide +kernel)) (fun _ h9 => h9) rfl dX2_share_17 ?_
    refine lv_if_eq (tgt := 25) hx hb dX2_share_20 (by decide) (fun _ => ?_) (fun c9 => absurd (by decide) c9)
    refine lv_aload_n hx hb dX2_share_25 rfl (lv_at hl 0 rfl) ?_
    refine gj_i (wc := [(mm, .inr (2, [.int 0, .int 0, .int 0, .ref (b 3), .ref (b 4), .int 0, .ref (b 6), .ref (b 7), .ref (b 8), .ref (b 9), .int 0, .ref (b 11), .int 0, .ref (b 13), .ref (b 14)])), ((b 13), .inl (g.2.1.1, 64, .inl (fun _ => 0))), ((b 14), .inl (g.2.1.2.1, 64, .inl (fun _ => 0)))]) (wr := []) (gr_V (n := 0) ⟨hx, hb, hml, hown, hts⟩ (c_X2_preferred l g H.size mm b 0) gX2_share_X2_preferred rfl rfl rfl (by decide +kernel) ⟨Nat.le_of_ble_eq_true rfl, Nat.le_of_ble_eq_true rfl⟩ (gp_V hK hE hA hP hD hS [0, 1, 2] rfl (by decide) rfl (q0 := 0) rfl rfl) rfl hl.1 rfl (Nat.le_of_ble_eq_true rfl) dX2_share_26 ⟨Nat.le_of_ble_eq_true rfl, Nat.le_of_ble_eq_true rfl⟩) hP hD hS hA [0, 1, 2] [] rfl rfl (by decide) (by decide) (fun r2 u2 H locs hp2 hP hD hS => ?_)
    have hP : va_P g.1 vwCl [(mm, .inr (2, [.int 0, .int 0, .int 0, .ref (b 3), .ref (b 4), .int 0, .ref (b 6), .ref (b 7), .ref (b 8), .ref (b 9), .int 0, .ref (b 11), .int 1, .ref (b 13), .ref (b 14)])), ((b 13), .inl (g.2.1.1, 64, .inl (upd (fun _ => 0) 0 0))), ((b 14), .inl (g.2.1.2.1, 64, .inl (upd (upd (fun _ => 0) 0 0) 0 1)))] H := hP
    have hD : va_D A [(mm, .inr (2, [.int 0, .int 0, .int 0, .ref (b 3), .ref (b 4), .int 0, .ref (b 6), .ref (b 7), .ref (b 8), .ref (b 9), .int 0, .ref (b 11), .int 1, .ref (b 13), .ref (b 14)])), ((b 13), .inl (g.2.1.1, 64, .inl (upd (fun _ => 0) 0 0))), ((b 14), .inl (g.2.1.2.1, 64, .inl (upd (upd (fun _ => 0) 0 0) 0 1)))] := hD
    have hp2 : r2 = 1 := hp2.trans (by decide)
    subst hp2
    refine lv_istore_n (lv' := [(2, .int 1), (0, .ref mm), (1, .int x)]) hx hb dX2_share_29 rfl hl (by decide) rfl (fun ls hl => ?_)
    refine lv_iconst (v := 0) hx hb dX2_share_30 (by decide) ?_
    refine lv_istore_n (lv' := [(3, .int 0), (2, .int 1), (0, .ref mm), (1, .int x)]) hx hb dX2_share_31 rfl hl (by decide) rfl (fun ls hl => ?_)
    refine lv_iconst (v := 0) hx hb dX2_share_32 (by decide) ?_
    refine lv_istore (lv' := [(4, .int 0), (3, .int 0), (2, .int 1), (0, .ref mm), (1, .int x)]) hx hb dX2_share_33 hl (by decide) rfl (fun ls hl => ?_)
    refine lv_iload hx hb dX2_share_35 (lv_at hl 0 rfl) ?_
    refine lv_aload_n hx hb dX2_share_37 rfl (lv_at hl 3 rfl) ?_
    refine va_get (D := g.1) (ci := 2) (v := .int 1) (C := RX2) (T := TX2) (N := 15) hx hb hts hinX2 hown hK hP 0 rfl rfl 12 (by decide) (hts (.fieldLink RX2 92 "DefaultReasonerModel" "count" "I") (by decide +kernel)) (fun _ h9 => h9) rfl dX2_share_38 ?_
    refine lv_icmp_ge (tgt := 78) hx hb dX2_share_41 (by decide) (fun c9 => absurd c9 (by decide)) (fun _ => ?_)
    refine lv_iload_n hx hb dX2_share_44 rfl (lv_at hl 1 rfl) ?_
    refine lv_aload_n hx hb dX2_share_45 rfl (lv_at hl 3 rfl) ?_
    refine va_get (D := g.1) (ci := 2) (v := .ref (b 14)) (C := RX2) (T := TX2) (N := 15) hx hb hts hinX2 hown hK hP 0 rfl rfl 14 (by decide) (hts (.fieldLink RX2 35 "DefaultReasonerModel" "arePreferred" "[Z") (by decide +kernel)) (fun _ h9 => h9) rfl dX2_share_46 ?_
    refine lv_iload hx hb dX2_share_49 (lv_at hl 0 rfl) ?_
    refine va_zald hx hb hK hP 2 1 rfl rfl (by unfold vp_in; decide) dX2_share_51 ?_
    refine sy_i (y := 1) (rfl) ?_
    refine lv_if_eq (tgt := 69) hx hb dX2_share_52 (by decide) (fun c9 => absurd c9 (by decide)) (fun _ => ?_)
    refine lv_aload_n hx hb dX2_share_55 rfl (lv_at hl 3 rfl) ?_
    refine va_get (D := g.1) (ci := 2) (v := .ref (b 13)) (C := RX2) (T := TX2) (N := 15) hx hb hts hinX2 hown hK hP 0 rfl rfl 13 (by decide) (hts (.fieldLink RX2 32 "DefaultReasonerModel" "all" "[I") (by decide +kernel)) (fun _ h9 => h9) rfl dX2_share_56 ?_
    refine lv_iload hx hb dX2_share_59 (lv_at hl 0 rfl) ?_
    refine va_iald hx hb hK hP 1 0 rfl rfl (by unfold vp_in; decide) dX2_share_61 ?_
    refine sy_i (y := 0) (rfl) ?_
    refine lv_iload_n hx hb dX2_share_62 rfl (lv_at hl 4 rfl) ?_
    refine lv_ishr hx hb dX2_share_63 ?_
    refine sy_i (y := 0) (g_shr0 _) ?_
    refine lv_iconst (v := 1) hx hb dX2_share_64 (by decide) ?_
    refine lv_iand hx hb dX2_share_65 ?_
    refine sy_i (y := 0) (by decide) ?_
    refine lv_goto (tgt := 70) hx hb dX2_share_66 (by decide) ?_
    refine lv_iadd hx hb dX2_share_70 ?_
    refine sy_i (y := 0) (by decide) ?_
    refine lv_istore_n (lv' := [(3, .int 0), (4, .int 0), (2, .int 1), (0, .ref mm), (1, .int x)]) hx hb dX2_share_71 rfl hl (by decide) rfl (fun ls hl => ?_)
    refine lv_iinc (v := 1) (lv' := [(4, .int 1), (3, .int 0), (2, .int 1), (0, .ref mm), (1, .int x)]) hx hb dX2_share_72 hl (k := 1) rfl (by decide) (by decide) rfl (fun ls hl => ?_)
    refine lv_goto (tgt := 35) hx hb dX2_share_75 (by decide) ?_
    refine lv_iload hx hb dX2_share_35 (lv_at hl 0 rfl) ?_
    refine lv_aload_n hx hb dX2_share_37 rfl (lv_at hl 3 rfl) ?_
    refine va_get (D := g.1) (ci := 2) (v := .int 1) (C := RX2) (T := TX2) (N := 15) hx hb hts hinX2 hown hK hP 0 rfl rfl 12 (by decide) (hts (.fieldLink RX2 92 "DefaultReasonerModel" "count" "I") (by decide +kernel)) (fun _ h9 => h9) rfl dX2_share_38 ?_
    refine lv_icmp_ge (tgt := 78) hx hb dX2_share_41 (by decide) (fun _ => ?_) (fun c9 => absurd (by decide) c9)
    refine lv_iload_n hx hb dX2_share_78 rfl (lv_at hl 2 rfl) ?_
    refine lv_if_ne (tgt := 86) hx hb dX2_share_79 (by decide) (fun _ => ?_) (fun c9 => absurd c9 (by decide))
    refine lv_iload_n hx hb dX2_share_86 rfl (lv_at hl 1 rfl) ?_
    refine lv_i2d hx hb dX2_share_87 ?_
    refine lv_iload_n hx hb dX2_share_88 rfl (lv_at hl 2 rfl) ?_
    refine lv_i2d hx hb dX2_share_89 ?_
    refine lv_ddiv hx hb dX2_share_90 (by unfold vf_n64; decide +kernel) ?_
    exact g_dr hx hb hr hlocks hP hD hS (0, [.int 0, .int 0, .ref (b 3), .ref (b 4), .int 0, .ref (b 6), .ref (b 7), .ref (b 8), .ref (b 9), .int 0, .ref (b 11), .int 1, .ref (b 13), .ref (b 14)]) [0] rfl (by decide) rfl dX2_share_91 (Nat.le_of_ble_eq_true rfl) (Nat.le_of_ble_eq_true rfl) (Or.inl ⟨rfl, hf1, rfl⟩)
  · have hP : va_P g.1 vwCl [(mm, .inr (2, [.int 0, .int 0, .int 0, .ref (b 3), .ref (b 4), .int 0, .ref (b 6), .ref (b 7), .ref (b 8), .ref (b 9), .int 0, .ref (b 11), .int 0, .ref (b 13), .ref (b 14)])), ((b 13), .inl (g.2.1.1, 64, .inl (fun _ => 0))), ((b 14), .inl (g.2.1.2.1, 64, .inl (fun _ => 0)))] H := hP
    have hD : va_D A [(mm, .inr (2, [.int 0, .int 0, .int 0, .ref (b 3), .ref (b 4), .int 0, .ref (b 6), .ref (b 7), .ref (b 8), .ref (b 9), .int 0, .ref (b 11), .int 0, .ref (b 13), .ref (b 14)])), ((b 13), .inl (g.2.1.1, 64, .inl (fun _ => 0))), ((b 14), .inl (g.2.1.2.1, 64, .inl (fun _ => 0)))] := hD
    refine lv_if_eq (tgt := 12) hx hb dX2_share_5 (by decide) (fun _ => ?_) (fun c9 => absurd (by decide) c9)
    refine lv_iconst (v := 1) hx hb dX2_share_12 (by decide) ?_
    refine va_put (D := g.1) (ci := 2) (v := .int 1) (ty := .int) (C := RX2) (T := TX2) (N := 15) hx hb hts hinX2 tyX2 tyX2_ok nmX2 hown hK hP hD hS 0 rfl rfl 0 (by decide) (hts (.fieldLink RX2 38 "DefaultReasonerModel" "thrown" "I") (by decide +kernel)) (fun _ h9 => h9) rfl (by decide +kernel) rfl rfl (Nat.le_of_ble_eq_true rfl) dX2_share_13 (fun H locs hP hD hS => ?_)
    have hP : va_P g.1 vwCl [(mm, .inr (2, [.int 1, .int 0, .int 0, .ref (b 3), .ref (b 4), .int 0, .ref (b 6), .ref (b 7), .ref (b 8), .ref (b 9), .int 0, .ref (b 11), .int 0, .ref (b 13), .ref (b 14)])), ((b 13), .inl (g.2.1.1, 64, .inl (fun _ => 0))), ((b 14), .inl (g.2.1.2.1, 64, .inl (fun _ => 0)))] H := hP
    have hD : va_D A [(mm, .inr (2, [.int 1, .int 0, .int 0, .ref (b 3), .ref (b 4), .int 0, .ref (b 6), .ref (b 7), .ref (b 8), .ref (b 9), .int 0, .ref (b 11), .int 0, .ref (b 13), .ref (b 14)])), ((b 13), .inl (g.2.1.1, 64, .inl (fun _ => 0))), ((b 14), .inl (g.2.1.2.1, 64, .inl (fun _ => 0)))] := hD
    refine lv_aload_n hx hb dX2_share_16 rfl (lv_at hl 0 rfl) ?_
    refine va_get (D := g.1) (ci := 2) (v := .int 1) (C := RX2) (T := TX2) (N := 15) hx hb hts hinX2 hown hK hP 0 rfl rfl 0 (by decide) (hts (.fieldLink RX2 38 "DefaultReasonerModel" "thrown" "I") (by decide +kernel)) (fun _ h9 => h9) rfl dX2_share_17 ?_
    refine lv_if_eq (tgt := 25) hx hb dX2_share_20 (by decide) (fun c9 => absurd c9 (by decide)) (fun _ => ?_)
    refine lv_dconst0 hx hb dX2_share_23 ?_
    exact g_dr hx hb hr hlocks hP hD hS (1, [.int 0, .int 0, .ref (b 3), .ref (b 4), .int 0, .ref (b 6), .ref (b 7), .ref (b 8), .ref (b 9), .int 0, .ref (b 11), .int 0, .ref (b 13), .ref (b 14)]) [0] rfl (by decide) rfl dX2_share_24 (Nat.le_of_ble_eq_true rfl) (Nat.le_of_ble_eq_true rfl) (Or.inr ⟨rfl, hf1⟩)
set_option maxHeartbeats 4000000 in
set_option maxRecDepth 100000 in
theorem c_X2_walk_ (l : Launch) (g : gG) (sz : Nat) (mm : Nat) (b : Nat → Nat) (x : Int32) : gMi l yX2_walk_ wsX2_walk_ ({ frames := 3, cells := 3, slots := 19, locals := 68 } : Room) g [.ref mm, .int x] [(mm, .inr (2, [.int 0, .int 0, .int 0, .ref (b 3), .ref (b 4), .int 0, .ref (b 6), .ref (b 7), .ref (b 8), .ref (b 9), .int 0, .ref (b 11), .int 0, .ref (b 13), .ref (b 14)])), ((b 11), .inl (g.2.1.1, 6, .inl (fun _ => 0)))] sz (fun (r : Int32) (u : (Int32 × List Value)) => u.1 = 0 ∧ gNil x ∧ r = 0 ∨ u.1 = 1 ∧ ¬ gNil x) (fun (u : (Int32 × List Value)) => [(mm, .inr (2, .int u.1 :: u.2))]) 3 19 := by
  refine g_of (l := l) (y := yX2_walk_) (wy := wsX2_walk_) (rm := ({ frames := 3, cells := 3, slots := 19, locals := 68 } : Room)) (g := g) (av := [.ref mm, .int x]) (ws := [(mm, .inr (2, [.int 0, .int 0, .int 0, .ref (b 3), .ref (b 4), .int 0, .ref (b 6), .ref (b 7), .ref (b 8), .ref (b 9), .int 0, .ref (b 11), .int 0, .ref (b 13), .ref (b 14)])), ((b 11), .inl (g.2.1.1, 6, .inl (fun _ => 0)))]) (sz := sz) (mc := 3) (ms := 19) (Qc := fun A => va_Qi (fun (r : Int32) (u : (Int32 × List Value)) => u.1 = 0 ∧ gNil x ∧ r = 0 ∨ u.1 = 1 ∧ ¬ gNil x) (fun u t9 => gPost g A ((fun (u : (Int32 × List Value)) => [(mm, .inr (2, .int u.1 :: u.2))]) u) t9) A) (cc := cX2_walk_) (maxL := 6) (ret := some .int) (by decide) rfl (Nat.le_of_ble_eq_true rfl) ?_
  intro p e s m below meth c A ls hx hb hr hml hown hts hlocks hnm hA hK hE hP hD hS hl
  have hl : lv_has ls 6 [(0, .ref mm), (1, .int x)] := hl
  have hown : s.vm.findClass RX2 = some m.cls := hown
  have hP : va_P g.1 vwCl [(mm, .inr (2, [.int 0, .int 0, .int 0, .ref (b 3), .ref (b 4), .int 0, .ref (b 6), .ref (b 7), .ref (b 8), .ref (b 9), .int 0, .ref (b 11), .int 0, .ref (b 13), .ref (b 14)])), ((b 11), .inl (g.2.1.1, 6, .inl (fun _ => 0)))] s.heap := hP
  have hinX2 : ∀ w ∈ u_ws RX2 TX2 15, w ∈ wsX2_walk_ := by decide +kernel
  refine lv_aload_n hx hb dX2_walk__0 rfl (lv_at hl 0 rfl) ?_
  refine lv_iload_n hx hb dX2_walk__1 rfl (lv_at hl 1 rfl) ?_
  refine gj_i (wc := [(mm, .inr (2, [.int 0, .int 0, .int 0, .ref (b 3), .ref (b 4), .int 0, .ref (b 6), .ref (b 7), .ref (b 8), .ref (b 9), .int 0, .ref (b 11), .int 0, .ref (b 13), .ref (b 14)]))]) (wr := [((b 11), .inl (g.2.1.1, 6, .inl (fun _ => 0)))]) (gr_V (n := 1) ⟨hx, hb, hml, hown, hts⟩ (c_X2_isOrder l g s.heap.size mm b x) gX2_walk__X2_isOrder rfl rfl rfl (by decide +kernel) ⟨Nat.le_of_ble_eq_true rfl, Nat.le_of_ble_eq_true rfl⟩ (gp_V hK hE hA hP hD hS [0] rfl (by decide) rfl (q0 := 0) rfl rfl) rfl hl.1 rfl (Nat.le_of_ble_eq_true rfl) dX2_walk__2 ⟨Nat.le_of_ble_eq_true rfl, Nat.le_of_ble_eq_true rfl⟩) hP hD hS hA [0] [1] rfl rfl (by decide) (by decide) (fun r1 u1 H locs hp1 hP hD hS => ?_)
  rcases hp1 with ⟨rfl, rfl, hf1⟩ | ⟨rfl, rfl, hf1⟩
  · have hP : va_P g.1 vwCl [((b 11), .inl (g.2.1.1, 6, .inl (fun _ => 0))), (mm, .inr (2, [.int 0, .int 0, .int 0, .ref (b 3), .ref (b 4), .int 0, .ref (b 6), .ref (b 7), .ref (b 8), .ref (b 9), .int 0, .ref (b 11), .int 0, .ref (b 13), .ref (b 14)]))] H := hP
    have hD : va_D A [((b 11), .inl (g.2.1.1, 6, .inl (fun _ => 0))), (mm, .inr (2, [.int 0, .int 0, .int 0, .ref (b 3), .ref (b 4), .int 0, .ref (b 6), .ref (b 7), .ref (b 8), .ref (b 9), .int 0, .ref (b 11), .int 0, .ref (b 13), .ref (b 14)]))] := hD
    refine lv_if_ne (tgt := 10) hx hb dX2_walk__5 (by decide) (fun _ => ?_) (fun c9 => absurd c9 (by decide))
    refine lv_bipush (v := 6) hx hb dX2_walk__10 (by decide) ?_
    refine g_newa (a0 := (6, .inl (fun _ => 0))) (atype := .int) (ty := .int) (N' := 6) hx hb (hts (.arrayClass .int) (by decide +kernel)) rfl hK 0 rfl (fun _ h => h) hP hD hS hA (fun z => by rw [vp_cell_i]; rfl) (by decide) (by decide) (by decide) (Nat.le_of_ble_eq_true rfl) (Nat.le_of_ble_eq_true rfl) dX2_walk__12 (fun qa2 H hP hD hS => ?_)
    have hP : va_P g.1 vwCl [((b 11), .inl (g.2.1.1, 6, .inl (fun _ => 0))), (mm, .inr (2, [.int 0, .int 0, .int 0, .ref (b 3), .ref (b 4), .int 0, .ref (b 6), .ref (b 7), .ref (b 8), .ref (b 9), .int 0, .ref (b 11), .int 0, .ref (b 13), .ref (b 14)])), (qa2, .inl (g.2.1.1, 6, .inl (fun _ => 0)))] H := hP
    have hD : va_D A [((b 11), .inl (g.2.1.1, 6, .inl (fun _ => 0))), (mm, .inr (2, [.int 0, .int 0, .int 0, .ref (b 3), .ref (b 4), .int 0, .ref (b 6), .ref (b 7), .ref (b 8), .ref (b 9), .int 0, .ref (b 11), .int 0, .ref (b 13), .ref (b 14)])), (qa2, .inl (g.2.1.1, 6, .inl (fun _ => 0)))] := hD
    refine lv_astore_n (lv' := [(2, .ref qa2), (0, .ref mm), (1, .int x)]) hx hb dX2_walk__14 rfl hl (by decide) rfl (fun ls hl => ?_)
    refine lv_aload_n hx hb dX2_walk__15 rfl (lv_at hl 1 rfl) ?_
    refine lv_aload_n hx hb dX2_walk__16 rfl (lv_at hl 0 rfl) ?_
    refine lv_iload_n hx hb dX2_walk__17 rfl (lv_at hl 2 rfl) ?_
    refine gj_v (wc := [(mm, .inr (2, [.int 0, .int 0, .int 0, .ref (b 3), .ref (b 4), .int 0, .ref (b 6), .ref (b 7), .ref (b 8), .ref (b 9), .int 0, .ref (b 11), .int 0, .ref (b 13), .ref (b 14)]))]) (wr := [((b 11), .inl (g.2.1.1, 6, .inl (fun _ => 0))), (qa2, .inl (g.2.1.1, 6, .inl (fun _ => 0)))]) (gr_V (n := 2) ⟨hx, hb, hml, hown, hts⟩ (c_X2_setOrder l g H.size mm b 0 0 qa2 x) gX2_walk__X2_setOrder rfl rfl rfl (by decide +kernel) ⟨Nat.le_of_ble_eq_true rfl, Nat.le_of_ble_eq_true rfl⟩ (gp_V hK hE hA hP hD hS [1] rfl (by decide) rfl (q0 := 0) rfl rfl) rfl hl.1 rfl (Nat.le_of_ble_eq_true rfl) dX2_walk__18 ⟨Nat.le_of_ble_eq_true rfl, Nat.le_of_ble_eq_true rfl⟩) hP hD hS hA [1] [0, 2] rfl rfl (by decide) (by decide) (fun u3 H locs hp3 hP hD hS => ?_)
    have hP : va_P g.1 vwCl [((b 11), .inl (g.2.1.1, 6, .inl (fun _ => 0))), (qa2, .inl (g.2.1.1, 6, .inl (fun _ => 0))), (mm, .inr (2, [.int 0, .int 0, .int 0, .ref (b 3), .ref (b 4), .int 0, .ref (b 6), .ref (b 7), .ref (b 8), .ref (b 9), .int 0, .ref (b 11), .int 0, .ref (b 13), .ref (b 14)]))] H := hP
    have hD : va_D A [((b 11), .inl (g.2.1.1, 6, .inl (fun _ => 0))), (qa2, .inl (g.2.1.1, 6, .inl (fun _ => 0))), (mm, .inr (2, [.int 0, .int 0, .int 0, .ref (b 3), .ref (b 4), .int 0, .ref (b 6), .ref (b 7), .ref (b 8), .ref (b 9), .int 0, .ref (b 11), .int 0, .ref (b 13), .ref (b 14)]))] := hD
    refine lv_bipush (v := 7) hx hb dX2_walk__21 (by decide) ?_
    refine g_newa (a0 := (7, .inl (fun _ => 0))) (atype := .int) (ty := .int) (N' := 7) hx hb (hts (.arrayClass .int) (by decide +kernel)) rfl hK 0 rfl (fun _ h => h) hP hD hS hA (fun z => by rw [vp_cell_i]; rfl) (by decide) (by decide) (by decide) (Nat.le_of_ble_eq_true rfl) (Nat.le_of_ble_eq_true rfl) dX2_walk__23 (fun qa4 H hP hD hS => ?_)
    have hP : va_P g.1 vwCl [((b 11), .inl (g.2.1.1, 6, .inl (fun _ => 0))), (qa2, .inl (g.2.1.1, 6, .inl (fun _ => 0))), (mm, .inr (2, [.int 0, .int 0, .int 0, .ref (b 3), .ref (b 4), .int 0, .ref (b 6), .ref (b 7), .ref (b 8), .ref (b 9), .int 0, .ref (b 11), .int 0, .ref (b 13), .ref (b 14)])), (qa4, .inl (g.2.1.1, 7, .inl (fun _ => 0)))] H := hP
    have hD : va_D A [((b 11), .inl (g.2.1.1, 6, .inl (fun _ => 0))), (qa2, .inl (g.2.1.1, 6, .inl (fun _ => 0))), (mm, .inr (2, [.int 0, .int 0, .int 0, .ref (b 3), .ref (b 4), .int 0, .ref (b 6), .ref (b 7), .ref (b 8), .ref (b 9), .int 0, .ref (b 11), .int 0, .ref (b 13), .ref (b 14)])), (qa4, .inl (g.2.1.1, 7, .inl (fun _ => 0)))] := hD
    refine lv_astore_n (lv' := [(3, .ref qa4), (2, .ref qa2), (0, .ref mm), (1, .int x)]) hx hb dX2_walk__25 rfl hl (by decide) rfl (fun ls hl => ?_)
    refine lv_aload_n hx hb dX2_walk__26 rfl (lv_at hl 2 rfl) ?_
    refine lv_aload_n hx hb dX2_walk__27 rfl (lv_at hl 1 rfl) ?_
    refine lv_aload_n hx hb dX2_walk__28 rfl (lv_at hl 0 rfl) ?_
    refine gj_i (wc := [(mm, .inr (2, [.int 0, .int 0, .int 0, .ref (b 3), .ref (b 4), .int 0, .ref (b 6), .ref (b 7), .ref (b 8), .ref (b 9), .int 0, .ref (b 11), .int 0, .ref (b 13), .ref (b 14)]))]) (wr := [((b 11), .inl (g.2.1.1, 6, .inl (fun _ => 0))), (qa2, .inl (g.2.1.1, 6, .inl (fun _ => 0))), (qa4, .inl (g.2.1.1, 7, .inl (fun _ => 0)))]) (gr_V (n := 2) ⟨hx, hb, hml, hown, hts⟩ (c_X2_walk l g H.size mm b 0 0 qa2 qa4) gX2_walk__X2_walk rfl rfl rfl (by decide +kernel) ⟨Nat.le_of_ble_eq_true rfl, Nat.le_of_ble_eq_true rfl⟩ (gp_V hK hE hA hP hD hS [2] rfl (by decide) rfl (q0 := 0) rfl rfl) rfl hl.1 rfl (Nat.le_of_ble_eq_true rfl) dX2_walk__29 ⟨Nat.le_of_ble_eq_true rfl, Nat.le_of_ble_eq_true rfl⟩) hP hD hS hA [2] [0, 1, 3] rfl rfl (by decide) (by decide) (fun r5 u5 H locs hp5 hP hD hS => ?_)
    have hP : va_P g.1 vwCl [((b 11), .inl (g.2.1.1, 6, .inl (fun _ => 0))), (qa2, .inl (g.2.1.1, 6, .inl (fun _ => 0))), (qa4, .inl (g.2.1.1, 7, .inl (fun _ => 0))), (mm, .inr (2, [.int 0, .int 0, .int 0, .ref (b 3), .ref (b 4), .int 0, .ref (b 6), .ref (b 7), .ref (b 8), .ref (b 9), .int 0, .ref (b 11), .int 0, .ref (b 13), .ref (b 14)]))] H := hP
    have hD : va_D A [((b 11), .inl (g.2.1.1, 6, .inl (fun _ => 0))), (qa2, .inl (g.2.1.1, 6, .inl (fun _ => 0))), (qa4, .inl (g.2.1.1, 7, .inl (fun _ => 0))), (mm, .inr (2, [.int 0, .int 0, .int 0, .ref (b 3), .ref (b 4), .int 0, .ref (b 6), .ref (b 7), .ref (b 8), .ref (b 9), .int 0, .ref (b 11), .int 0, .ref (b 13), .ref (b 14)]))] := hD
    have hp5 : r5 = 0 := hp5.trans (by decide)
    subst hp5
    refine lv_istore (lv' := [(4, .int 0), (3, .ref qa4), (2, .ref qa2), (0, .ref mm), (1, .int x)]) hx hb dX2_walk__32 hl (by decide) rfl (fun ls hl => ?_)
    refine lv_aload_n hx hb dX2_walk__34 rfl (lv_at hl 3 rfl) ?_
    refine lv_aload_n hx hb dX2_walk__35 rfl (lv_at hl 1 rfl) ?_
    refine lv_iconst (v := 0) hx hb dX2_walk__36 (by decide) ?_
    refine va_iald hx hb hK hP 2 0 rfl rfl (by unfold vp_in; decide) dX2_walk__37 ?_
    refine sy_i (y := 0) (rfl) ?_
    refine va_put (D := g.1) (ci := 2) (v := .int 0) (ty := .int) (C := RX2) (T := TX2) (N := 15) hx hb hts hinX2 tyX2 tyX2_ok nmX2 hown hK hP hD hS 3 rfl rfl 10 (by decide) (hts (.fieldLink RX2 130 "DefaultReasonerModel" "applied" "I") (by decide +kernel)) (fun _ h9 => h9) rfl (by decide +kernel) rfl rfl (Nat.le_of_ble_eq_true rfl) dX2_walk__38 (fun H locs hP hD hS => ?_)
    have hP : va_P g.1 vwCl [((b 11), .inl (g.2.1.1, 6, .inl (fun _ => 0))), (qa2, .inl (g.2.1.1, 6, .inl (fun _ => 0))), (qa4, .inl (g.2.1.1, 7, .inl (fun _ => 0))), (mm, .inr (2, [.int 0, .int 0, .int 0, .ref (b 3), .ref (b 4), .int 0, .ref (b 6), .ref (b 7), .ref (b 8), .ref (b 9), .int 0, .ref (b 11), .int 0, .ref (b 13), .ref (b 14)]))] H := hP
    have hD : va_D A [((b 11), .inl (g.2.1.1, 6, .inl (fun _ => 0))), (qa2, .inl (g.2.1.1, 6, .inl (fun _ => 0))), (qa4, .inl (g.2.1.1, 7, .inl (fun _ => 0))), (mm, .inr (2, [.int 0, .int 0, .int 0, .ref (b 3), .ref (b 4), .int 0, .ref (b 6), .ref (b 7), .ref (b 8), .ref (b 9), .int 0, .ref (b 11), .int 0, .ref (b 13), .ref (b 14)]))] := hD
    refine lv_iconst (v := 0) hx hb dX2_walk__41 (by decide) ?_
    refine lv_istore (lv' := [(5, .int 0), (4, .int 0), (3, .ref qa4), (2, .ref qa2), (0, .ref mm), (1, .int x)]) hx hb dX2_walk__42 hl (by decide) rfl (fun ls hl => ?_)
    refine lv_iload hx hb dX2_walk__44 (lv_at hl 0 rfl) ?_
    refine lv_aload_n hx hb dX2_walk__46 rfl (lv_at hl 4 rfl) ?_
    refine va_get (D := g.1) (ci := 2) (v := .int 0) (C := RX2) (T := TX2) (N := 15) hx hb hts hinX2 hown hK hP 3 rfl rfl 10 (by decide) (hts (.fieldLink RX2 130 "DefaultReasonerModel" "applied" "I") (by decide +kernel)) (fun _ h9 => h9) rfl dX2_walk__47 ?_
    refine lv_icmp_ge (tgt := 72) hx hb dX2_walk__50 (by decide) (fun _ => ?_) (fun c9 => absurd (by decide) c9)
    refine lv_iload hx hb dX2_walk__72 (lv_at hl 1 rfl) ?_
    exact g_ir hx hb hr hlocks hP hD hS (0, [.int 0, .int 0, .ref (b 3), .ref (b 4), .int 0, .ref (b 6), .ref (b 7), .ref (b 8), .ref (b 9), .int 0, .ref (b 11), .int 0, .ref (b 13), .ref (b 14)]) [3] rfl (by decide) rfl dX2_walk__74 (Nat.le_of_ble_eq_true rfl) (Nat.le_of_ble_eq_true rfl) (Or.inl ⟨rfl, hf1, rfl⟩)
  · have hP : va_P g.1 vwCl [((b 11), .inl (g.2.1.1, 6, .inl (fun _ => 0))), (mm, .inr (2, [.int 1, .int 0, .int 0, .ref (b 3), .ref (b 4), .int 0, .ref (b 6), .ref (b 7), .ref (b 8), .ref (b 9), .int 0, .ref (b 11), .int 0, .ref (b 13), .ref (b 14)]))] H := hP
    have hD : va_D A [((b 11), .inl (g.2.1.1, 6, .inl (fun _ => 0))), (mm, .inr (2, [.int 1, .int 0, .int 0, .ref (b 3), .ref (b 4), .int 0, .ref (b 6), .ref (b 7), .ref (b 8), .ref (b 9), .int 0, .ref (b 11), .int 0, .ref (b 13), .ref (b 14)]))] := hD
    refine lv_if_ne (tgt := 10) hx hb dX2_walk__5 (by decide) (fun c9 => absurd (by decide) c9) (fun _ => ?_)
    refine lv_iconst (v := 0) hx hb dX2_walk__8 (by decide) ?_
    exact g_ir hx hb hr hlocks hP hD hS (1, [.int 0, .int 0, .ref (b 3), .ref (b 4), .int 0, .ref (b 6), .ref (b 7), .ref (b 8), .ref (b 9), .int 0, .ref (b 11), .int 0, .ref (b 13), .ref (b 14)]) [1] rfl (by decide) rfl dX2_walk__9 (Nat.le_of_ble_eq_true rfl) (Nat.le_of_ble_eq_true rfl) (Or.inr ⟨rfl, hf1⟩)
set_option maxHeartbeats 4000000 in
set_option maxRecDepth 100000 in
theorem c_X2_appliedCount (l : Launch) (g : gG) (sz : Nat) (mm : Nat) (b : Nat → Nat) : gMi l yX2_appliedCount wsX2_appliedCount ({ frames := 0, cells := 0, slots := 0, locals := 0 } : Room) g [.ref mm] [(mm, .inr (2, [.int 0, .int 0, .int 0, .ref (b 3), .ref (b 4), .int 0, .ref (b 6), .ref (b 7), .ref (b 8), .ref (b 9), .int 0, .ref (b 11), .int 0, .ref (b 13), .ref (b 14)]))] sz (fun (r : Int32) (u : (Int32 × List Value)) => r = 0) (fun (u : (Int32 × List Value)) => [(mm, .inr (2, .int u.1 :: u.2))]) 0 0 := by
  refine g_of (l := l) (y := yX2_appliedCount) (wy := wsX2_appliedCount) (rm := ({ frames := 0, cells := 0, slots := 0, locals := 0 } : Room)) (g := g) (av := [.ref mm]) (ws := [(mm, .inr (2, [.int 0, .int 0, .int 0, .ref (b 3), .ref (b 4), .int 0, .ref (b 6), .ref (b 7), .ref (b 8), .ref (b 9), .int 0, .ref (b 11), .int 0, .ref (b 13), .ref (b 14)]))]) (sz := sz) (mc := 0) (ms := 0) (Qc := fun A => va_Qi (fun (r : Int32) (u : (Int32 × List Value)) => r = 0) (fun u t9 => gPost g A ((fun (u : (Int32 × List Value)) => [(mm, .inr (2, .int u.1 :: u.2))]) u) t9) A) (cc := cX2_appliedCount) (maxL := 1) (ret := some .int) (by decide) rfl (Nat.le_of_ble_eq_true rfl) ?_
  intro p e s m below meth c A ls hx hb hr hml hown hts hlocks hnm hA hK hE hP hD hS hl
  have hl : lv_has ls 1 [(0, .ref mm)] := hl
  have hown : s.vm.findClass RX2 = some m.cls := hown
  have hP : va_P g.1 vwCl [(mm, .inr (2, [.int 0, .int 0, .int 0, .ref (b 3), .ref (b 4), .int 0, .ref (b 6), .ref (b 7), .ref (b 8), .ref (b 9), .int 0, .ref (b 11), .int 0, .ref (b 13), .ref (b 14)]))] s.heap := hP
  have hinX2 : ∀ w ∈ u_ws RX2 TX2 15, w ∈ wsX2_appliedCount := by decide +kernel
  refine lv_aload_n hx hb dX2_appliedCount_0 rfl (lv_at hl 0 rfl) ?_
  refine lv_iconst (v := 0) hx hb dX2_appliedCount_1 (by decide) ?_
  refine va_put (D := g.1) (ci := 2) (v := .int 0) (ty := .int) (C := RX2) (T := TX2) (N := 15) hx hb hts hinX2 tyX2 tyX2_ok nmX2 hown hK hP hD hS 0 rfl rfl 0 (by decide) (hts (.fieldLink RX2 38 "DefaultReasonerModel" "thrown" "I") (by decide +kernel)) (fun _ h9 => h9) rfl (by decide +kernel) rfl rfl (Nat.le_of_ble_eq_true rfl) dX2_appliedCount_2 (fun H locs hP hD hS => ?_)
  have hP : va_P g.1 vwCl [(mm, .inr (2, [.int 0, .int 0, .int 0, .ref (b 3), .ref (b 4), .int 0, .ref (b 6), .ref (b 7), .ref (b 8), .ref (b 9), .int 0, .ref (b 11), .int 0, .ref (b 13), .ref (b 14)]))] H := hP
  have hD : va_D A [(mm, .inr (2, [.int 0, .int 0, .int 0, .ref (b 3), .ref (b 4), .int 0, .ref (b 6), .ref (b 7), .ref (b 8), .ref (b 9), .int 0, .ref (b 11), .int 0, .ref (b 13), .ref (b 14)]))] := hD
  refine lv_aload_n hx hb dX2_appliedCount_5 rfl (lv_at hl 0 rfl) ?_
  refine va_get (D := g.1) (ci := 2) (v := .int 0) (C := RX2) (T := TX2) (N := 15) hx hb hts hinX2 hown hK hP 0 rfl rfl 10 (by decide) (hts (.fieldLink RX2 130 "DefaultReasonerModel" "applied" "I") (by decide +kernel)) (fun _ h9 => h9) rfl dX2_appliedCount_6 ?_
  exact g_ir hx hb hr hlocks hP hD hS (0, [.int 0, .int 0, .ref (b 3), .ref (b 4), .int 0, .ref (b 6), .ref (b 7), .ref (b 8), .ref (b 9), .int 0, .ref (b 11), .int 0, .ref (b 13), .ref (b 14)]) [0] rfl (by decide) rfl dX2_appliedCount_9 (Nat.le_of_ble_eq_true rfl) (Nat.le_of_ble_eq_true rfl) (rfl)
set_option maxHeartbeats 4000000 in
set_option maxRecDepth 100000 in
theorem c_X2_applied (l : Launch) (g : gG) (sz : Nat) (mm : Nat) (b : Nat → Nat) (x : Int32) : gMi l yX2_applied wsX2_applied ({ frames := 1, cells := 0, slots := 0, locals := 21 } : Room) g [.ref mm, .int x] [(mm, .inr (2, [.int 0, .int 0, .int 0, .ref (b 3), .ref (b 4), .int 0, .ref (b 6), .ref (b 7), .ref (b 8), .ref (b 9), .int 0, .ref (b 11), .int 0, .ref (b 13), .ref (b 14)]))] sz (fun (r : Int32) (u : (Int32 × List Value)) => u.1 = 1) (fun (u : (Int32 × List Value)) => [(mm, .inr (2, .int u.1 :: u.2))]) 0 0 := by
  refine g_of (l := l) (y := yX2_applied) (wy := wsX2_applied) (rm := ({ frames := 1, cells := 0, slots := 0, locals := 21 } : Room)) (g := g) (av := [.ref mm, .int x]) (ws := [(mm, .inr (2, [.int 0, .int 0, .int 0, .ref (b 3), .ref (b 4), .int 0, .ref (b 6), .ref (b 7), .ref (b 8), .ref (b 9), .int 0, .ref (b 11), .int 0, .ref (b 13), .ref (b 14)]))]) (sz := sz) (mc := 0) (ms := 0) (Qc := fun A => va_Qi (fun (r : Int32) (u : (Int32 × List Value)) => u.1 = 1) (fun u t9 => gPost g A ((fun (u : (Int32 × List Value)) => [(mm, .inr (2, .int u.1 :: u.2))]) u) t9) A) (cc := cX2_applied) (maxL := 2) (ret := some .int) (by decide) rfl (Nat.le_of_ble_eq_true rfl) ?_
  intro p e s m below meth c A ls hx hb hr hml hown hts hlocks hnm hA hK hE hP hD hS hl
  have hl : lv_has ls 2 [(0, .ref mm), (1, .int x)] := hl
  have hown : s.vm.findClass RX2 = some m.cls := hown
  have hP : va_P g.1 vwCl [(mm, .inr (2, [.int 0, .int 0, .int 0, .ref (b 3), .ref (b 4), .int 0, .ref (b 6), .ref (b 7), .ref (b 8), .ref (b 9), .int 0, .ref (b 11), .int 0, .ref (b 13), .ref (b 14)]))] s.heap := hP
  have hinX2 : ∀ w ∈ u_ws RX2 TX2 15, w ∈ wsX2_applied := by decide +kernel
  refine lv_aload_n hx hb dX2_applied_0 rfl (lv_at hl 0 rfl) ?_
  refine lv_iconst (v := 0) hx hb dX2_applied_1 (by decide) ?_
  refine va_put (D := g.1) (ci := 2) (v := .int 0) (ty := .int) (C := RX2) (T := TX2) (N := 15) hx hb hts hinX2 tyX2 tyX2_ok nmX2 hown hK hP hD hS 0 rfl rfl 0 (by decide) (hts (.fieldLink RX2 38 "DefaultReasonerModel" "thrown" "I") (by decide +kernel)) (fun _ h9 => h9) rfl (by decide +kernel) rfl rfl (Nat.le_of_ble_eq_true rfl) dX2_applied_2 (fun H locs hP hD hS => ?_)
  have hP : va_P g.1 vwCl [(mm, .inr (2, [.int 0, .int 0, .int 0, .ref (b 3), .ref (b 4), .int 0, .ref (b 6), .ref (b 7), .ref (b 8), .ref (b 9), .int 0, .ref (b 11), .int 0, .ref (b 13), .ref (b 14)]))] H := hP
  have hD : va_D A [(mm, .inr (2, [.int 0, .int 0, .int 0, .ref (b 3), .ref (b 4), .int 0, .ref (b 6), .ref (b 7), .ref (b 8), .ref (b 9), .int 0, .ref (b 11), .int 0, .ref (b 13), .ref (b 14)]))] := hD
  refine lv_iload_n hx hb dX2_applied_5 rfl (lv_at hl 1 rfl) ?_
  refine lv_if_lt (tgt := 26) hx hb dX2_applied_6 (by decide) (fun c6 => ?_) (fun c6 => ?_)
  · refine lv_aload_n hx hb dX2_applied_26 rfl (lv_at hl 0 rfl) ?_
    refine lv_iconst (v := 1) hx hb dX2_applied_27 (by decide) ?_
    refine gj_i (wc := [(mm, .inr (2, [.int 0, .int 0, .int 0, .ref (b 3), .ref (b 4), .int 0, .ref (b 6), .ref (b 7), .ref (b 8), .ref (b 9), .int 0, .ref (b 11), .int 0, .ref (b 13), .ref (b 14)]))]) (wr := []) (gr_V (n := 1) ⟨hx, hb, hml, hown, hts⟩ (c_X2_fail l g H.size mm b 0 0 1) gX2_applied_X2_fail rfl rfl rfl (by decide +kernel) ⟨Nat.le_of_ble_eq_true rfl, Nat.le_of_ble_eq_true rfl⟩ (gp_V hK hE hA hP hD hS [0] rfl (by decide) rfl (q0 := 0) rfl rfl) rfl hl.1 rfl (Nat.le_of_ble_eq_true rfl) dX2_applied_28 ⟨Nat.le_of_ble_eq_true rfl, Nat.le_of_ble_eq_true rfl⟩) hP hD hS hA [0] [] rfl rfl (by decide) (by decide) (fun r1 u1 H locs hp1 hP hD hS => ?_)
    have hP : va_P g.1 vwCl [(mm, .inr (2, [.int 1, .int 0, .int 0, .ref (b 3), .ref (b 4), .int 0, .ref (b 6), .ref (b 7), .ref (b 8), .ref (b 9), .int 0, .ref (b 11), .int 0, .ref (b 13), .ref (b 14)]))] H := hP
    have hD : va_D A [(mm, .inr (2, [.int 1, .int 0, .int 0, .ref (b 3), .ref (b 4), .int 0, .ref (b 6), .ref (b 7), .ref (b 8), .ref (b 9), .int 0, .ref (b 11), .int 0, .ref (b 13), .ref (b 14)]))] := hD
    have hp1 : r1 = 0 := hp1.trans (by decide)
    subst hp1
    exact g_ir hx hb hr hlocks hP hD hS (1, [.int 0, .int 0, .ref (b 3), .ref (b 4), .int 0, .ref (b 6), .ref (b 7), .ref (b 8), .ref (b 9), .int 0, .ref (b 11), .int 0, .ref (b 13), .ref (b 14)]) [0] rfl (by decide) rfl dX2_applied_31 (Nat.le_of_ble_eq_true rfl) (Nat.le_of_ble_eq_true rfl) (rfl)
  · refine lv_iload_n hx hb dX2_applied_9 rfl (lv_at hl 1 rfl) ?_
    refine lv_aload_n hx hb dX2_applied_10 rfl (lv_at hl 0 rfl) ?_
    refine va_get (D := g.1) (ci := 2) (v := .int 0) (C := RX2) (T := TX2) (N := 15) hx hb hts hinX2 hown hK hP 0 rfl rfl 10 (by decide) (hts (.fieldLink RX2 130 "DefaultReasonerModel" "applied" "I") (by decide +kernel)) (fun _ h9 => h9) rfl dX2_applied_11 ?_
    refine lv_icmp_ge (tgt := 26) hx hb dX2_applied_14 (by decide) (fun c14 => ?_) (fun c14 => False.elim (c14 (Int32.not_lt.mp c6)))
    refine lv_aload_n hx hb dX2_applied_26 rfl (lv_at hl 0 rfl) ?_
    refine lv_iconst (v := 1) hx hb dX2_applied_27 (by decide) ?_
    refine gj_i (wc := [(mm, .inr (2, [.int 0, .int 0, .int 0, .ref (b 3), .ref (b 4), .int 0, .ref (b 6), .ref (b 7), .ref (b 8), .ref (b 9), .int 0, .ref (b 11), .int 0, .ref (b 13), .ref (b 14)]))]) (wr := []) (gr_V (n := 1) ⟨hx, hb, hml, hown, hts⟩ (c_X2_fail l g H.size mm b 0 0 1) gX2_applied_X2_fail rfl rfl rfl (by decide +kernel) ⟨Nat.le_of_ble_eq_true rfl, Nat.le_of_ble_eq_true rfl⟩ (gp_V hK hE hA hP hD hS [0] rfl (by decide) rfl (q0 := 0) rfl rfl) rfl hl.1 rfl (Nat.le_of_ble_eq_true rfl) dX2_applied_28 ⟨Nat.le_of_ble_eq_true rfl, Nat.le_of_ble_eq_true rfl⟩) hP hD hS hA [0] [] rfl rfl (by decide) (by decide) (fun r2 u2 H locs hp2 hP hD hS => ?_)
    have hP : va_P g.1 vwCl [(mm, .inr (2, [.int 1, .int 0, .int 0, .ref (b 3), .ref (b 4), .int 0, .ref (b 6), .ref (b 7), .ref (b 8), .ref (b 9), .int 0, .ref (b 11), .int 0, .ref (b 13), .ref (b 14)]))] H := hP
    have hD : va_D A [(mm, .inr (2, [.int 1, .int 0, .int 0, .ref (b 3), .ref (b 4), .int 0, .ref (b 6), .ref (b 7), .ref (b 8), .ref (b 9), .int 0, .ref (b 11), .int 0, .ref (b 13), .ref (b 14)]))] := hD
    have hp2 : r2 = 0 := hp2.trans (by decide)
    subst hp2
    exact g_ir hx hb hr hlocks hP hD hS (1, [.int 0, .int 0, .ref (b 3), .ref (b 4), .int 0, .ref (b 6), .ref (b 7), .ref (b 8), .ref (b 9), .int 0, .ref (b 11), .int 0, .ref (b 13), .ref (b 14)]) [0] rfl (by decide) rfl dX2_applied_31 (Nat.le_of_ble_eq_true rfl) (Nat.le_of_ble_eq_true rfl) (rfl)
set_option maxHeartbeats 4000000 in
set_option maxRecDepth 100000 in
theorem c_X2_respects_ (l : Launch) (g : gG) (sz : Nat) (mm : Nat) (b : Nat → Nat) (x : Int32) : gMi l yX2_respects_ wsX2_respects_ ({ frames := 2, cells := 2, slots := 12, locals := 50 } : Room) g [.ref mm, .int x] [(mm, .inr (2, [.int 0, .int 0, .int 0, .ref (b 3), .ref (b 4), .int 0, .ref (b 6), .ref (b 7), .ref (b 8), .ref (b 9), .int 0, .ref (b 11), .int 0, .ref (b 13), .ref (b 14)]))] sz (fun (r : Int32) (u : (Int32 × List Value)) => u.1 = 0 ∧ gNil x ∧ r = 1 ∨ u.1 = 1 ∧ ¬ gNil x) (fun (u : (Int32 × List Value)) => [(mm, .inr (2, .int u.1 :: u.2))]) 2 12 := by
  refine g_of (l := l) (y := yX2_respects_) (wy := wsX2_respects_) (rm := ({ frames := 2, cells := 2, slots := 12, locals := 50 } : Room)) (g := g) (av := [.ref mm, .int x]) (ws := [(mm, .inr (2, [.int 0, .int 0, .int 0, .ref (b 3), .ref (b 4), .int 0, .ref (b 6), .ref (b 7), .ref (b 8), .ref (b 9), .int 0, .ref (b 11), .int 0, .ref (b 13), .ref (b 14)]))]) (sz := sz) (mc := 2) (ms := 12) (Qc := fun A => va_Qi (fun (r : Int32) (u : (Int32 × List Value)) => u.1 = 0 ∧ gNil x ∧ r = 1 ∨ u.1 = 1 ∧ ¬ gNil x) (fun u t9 => gPost g A ((fun (u : (Int32 × List Value)) => [(mm, .inr (2, .int u.1 :: u.2))]) u) t9) A) (cc := cX2_respects_) (maxL := 3) (ret := some .boolean) (by decide) rfl (Nat.le_of_ble_eq_true rfl) ?_
  intro p e s m below meth c A ls hx hb hr hml hown hts hlocks hnm hA hK hE hP hD hS hl
  have hl : lv_has ls 3 [(0, .ref mm), (1, .int x)] := hl
  have hown : s.vm.findClass RX2 = some m.cls := hown
  have hP : va_P g.1 vwCl [(mm, .inr (2, [.int 0, .int 0, .int 0, .ref (b 3), .ref (b 4), .int 0, .ref (b 6), .ref (b 7), .ref (b 8), .ref (b 9), .int 0, .ref (b 11), .int 0, .ref (b 13), .ref (b 14)]))] s.heap := hP
  refine lv_aload_n hx hb dX2_respects__0 rfl (lv_at hl 0 rfl) ?_
  refine lv_iload_n hx hb dX2_respects__1 rfl (lv_at hl 1 rfl) ?_
  refine gj_i (wc := [(mm, .inr (2, [.int 0, .int 0, .int 0, .ref (b 3), .ref (b 4), .int 0, .ref (b 6), .ref (b 7), .ref (b 8), .ref (b 9), .int 0, .ref (b 11), .int 0, .ref (b 13), .ref (b 14)]))]) (wr := []) (gr_V (n := 1) ⟨hx, hb, hml, hown, hts⟩ (c_X2_isOrder l g s.heap.size mm b x) gX2_respects__X2_isOrder rfl rfl rfl (by decide +kernel) ⟨Nat.le_of_ble_eq_true rfl, Nat.le_of_ble_eq_true rfl⟩ (gp_V hK hE hA hP hD hS [0] rfl (by decide) rfl (q0 := 0) rfl rfl) rfl hl.1 rfl (Nat.le_of_ble_eq_true rfl) dX2_respects__2 ⟨Nat.le_of_ble_eq_true rfl, Nat.le_of_ble_eq_true rfl⟩) hP hD hS hA [0] [] rfl rfl (by decide) (by decide) (fun r1 u1 H locs hp1 hP hD hS => ?_)
  rcases hp1 with ⟨rfl, rfl, hf1⟩ | ⟨rfl, rfl, hf1⟩
  · have hP : va_P g.1 vwCl [(mm, .inr (2, [.int 0, .int 0, .int 0, .ref (b 3), .ref (b 4), .int 0, .ref (b 6), .ref (b 7), .ref (b 8), .ref (b 9), .int 0, .ref (b 11), .int 0, .ref (b 13), .ref (b 14)]))] H := hP
    have hD : va_D A [(mm, .inr (2, [.int 0, .int 0, .int 0, .ref (b 3), .ref (b 4), .int 0, .ref (b 6), .ref (b 7), .ref (b 8), .ref (b 9), .int 0, .ref (b 11), .int 0, .ref (b 13), .ref (b 14)]))] := hD
    refine lv_if_ne (tgt := 10) hx hb dX2_respects__5 (by decide) (fun _ => ?_) (fun c9 => absurd c9 (by decide))
    refine lv_bipush (v := 6) hx hb dX2_respects__10 (by decide) ?_
    refine g_newa (a0 := (6, .inl (fun _ => 0))) (atype := .int) (ty := .int) (N' := 6) hx hb (hts (.arrayClass .int) (by decide +kernel)) rfl hK 0 rfl (fun _ h => h) hP hD hS hA (fun z => by rw [vp_cell_i]; rfl) (by decide) (by decide) (by decide) (Nat.le_of_ble_eq_true rfl) (Nat.le_of_ble_eq_true rfl) dX2_respects__12 (fun qa2 H hP hD hS => ?_)
    have hP : va_P g.1 vwCl [(mm, .inr (2, [.int 0, .int 0, .int 0, .ref (b 3), .ref (b 4), .int 0, .ref (b 6), .ref (b 7), .ref (b 8), .ref (b 9), .int 0, .ref (b 11), .int 0, .ref (b 13), .ref (b 14)])), (qa2, .inl (g.2.1.1, 6, .inl (fun _ => 0)))] H := hP
    have hD : va_D A [(mm, .inr (2, [.int 0, .int 0, .int 0, .ref (b 3), .ref (b 4), .int 0, .ref (b 6), .ref (b 7), .ref (b 8), .ref (b 9), .int 0, .ref (b 11), .int 0, .ref (b 13), .ref (b 14)])), (qa2, .inl (g.2.1.1, 6, .inl (fun _ => 0)))] := hD
    refine lv_astore_n (lv' := [(2, .ref qa2), (0, .ref mm), (1, .int x)]) hx hb dX2_respects__14 rfl hl (by decide) rfl (fun ls hl => ?_)
    refine lv_aload_n hx hb dX2_respects__15 rfl (lv_at hl 1 rfl) ?_
    refine lv_aload_n hx hb dX2_respects__16 rfl (lv_at hl 0 rfl) ?_
    refine lv_iload_n hx hb dX2_respects__17 rfl (lv_at hl 2 rfl) ?_
    refine gj_v (wc := [(mm, .inr (2, [.int 0, .int 0, .int 0, .ref (b 3), .ref (b 4), .int 0, .ref (b 6), .ref (b 7), .ref (b 8), .ref (b 9), .int 0, .ref (b 11), .int 0, .ref (b 13), .ref (b 14)]))]) (wr := [(qa2, .inl (g.2.1.1, 6, .inl (fun _ => 0)))]) (gr_V (n := 2) ⟨hx, hb, hml, hown, hts⟩ (c_X2_setOrder l g H.size mm b 0 0 qa2 x) gX2_respects__X2_setOrder rfl rfl rfl (by decide +kernel) ⟨Nat.le_of_ble_eq_true rfl, Nat.le_of_ble_eq_true rfl⟩ (gp_V hK hE hA hP hD hS [0] rfl (by decide) rfl (q0 := 0) rfl rfl) rfl hl.1 rfl (Nat.le_of_ble_eq_true rfl) dX2_respects__18 ⟨Nat.le_of_ble_eq_true rfl, Nat.le_of_ble_eq_true rfl⟩) hP hD hS hA [0] [1] rfl rfl (by decide) (by decide) (fun u3 H locs hp3 hP hD hS => ?_)
    have hP : va_P g.1 vwCl [(qa2, .inl (g.2.1.1, 6, .inl (fun _ => 0))), (mm, .inr (2, [.int 0, .int 0, .int 0, .ref (b 3), .ref (b 4), .int 0, .ref (b 6), .ref (b 7), .ref (b 8), .ref (b 9), .int 0, .ref (b 11), .int 0, .ref (b 13), .ref (b 14)]))] H := hP
    have hD : va_D A [(qa2, .inl (g.2.1.1, 6, .inl (fun _ => 0))), (mm, .inr (2, [.int 0, .int 0, .int 0, .ref (b 3), .ref (b 4), .int 0, .ref (b 6), .ref (b 7), .ref (b 8), .ref (b 9), .int 0, .ref (b 11), .int 0, .ref (b 13), .ref (b 14)]))] := hD
    refine lv_aload_n hx hb dX2_respects__21 rfl (lv_at hl 1 rfl) ?_
    refine lv_aload_n hx hb dX2_respects__22 rfl (lv_at hl 0 rfl) ?_
    refine gj_i (wc := [(mm, .inr (2, [.int 0, .int 0, .int 0, .ref (b 3), .ref (b 4), .int 0, .ref (b 6), .ref (b 7), .ref (b 8), .ref (b 9), .int 0, .ref (b 11), .int 0, .ref (b 13), .ref (b 14)]))]) (wr := [(qa2, .inl (g.2.1.1, 6, .inl (fun _ => 0)))]) (gr_V (n := 1) ⟨hx, hb, hml, hown, hts⟩ (c_X2_respects l g H.size mm b 0 0 qa2) gX2_respects__X2_respects rfl rfl rfl (by decide +kernel) ⟨Nat.le_of_ble_eq_true rfl, Nat.le_of_ble_eq_true rfl⟩ (gp_V hK hE hA hP hD hS [1] rfl (by decide) rfl (q0 := 0) rfl rfl) rfl hl.1 rfl (Nat.le_of_ble_eq_true rfl) dX2_respects__23 ⟨Nat.le_of_ble_eq_true rfl, Nat.le_of_ble_eq_true rfl⟩) hP hD hS hA [1] [0] rfl rfl (by decide) (by decide) (fun r4 u4 H locs hp4 hP hD hS => ?_)
    have hP : va_P g.1 vwCl [(qa2, .inl (g.2.1.1, 6, .inl (fun _ => 0))), (mm, .inr (2, [.int 0, .int 0, .int 0, .ref (b 3), .ref (b 4), .int 0, .ref (b 6), .ref (b 7), .ref (b 8), .ref (b 9), .int 0, .ref (b 11), .int 0, .ref (b 13), .ref (b 14)]))] H := hP
    have hD : va_D A [(qa2, .inl (g.2.1.1, 6, .inl (fun _ => 0))), (mm, .inr (2, [.int 0, .int 0, .int 0, .ref (b 3), .ref (b 4), .int 0, .ref (b 6), .ref (b 7), .ref (b 8), .ref (b 9), .int 0, .ref (b 11), .int 0, .ref (b 13), .ref (b 14)]))] := hD
    have hp4 : r4 = 1 := hp4.trans (by decide)
    subst hp4
    exact g_zr hx hb hr hlocks hP hD hS (0, [.int 0, .int 0, .ref (b 3), .ref (b 4), .int 0, .ref (b 6), .ref (b 7), .ref (b 8), .ref (b 9), .int 0, .ref (b 11), .int 0, .ref (b 13), .ref (b 14)]) [1] rfl (by decide) rfl dX2_respects__26 (Nat.le_of_ble_eq_true rfl) (Nat.le_of_ble_eq_true rfl) (Or.inr rfl) (Or.inl ⟨rfl, hf1, rfl⟩)
  · have hP : va_P g.1 vwCl [(mm, .inr (2, [.int 1, .int 0, .int 0, .ref (b 3), .ref (b 4), .int 0, .ref (b 6), .ref (b 7), .ref (b 8), .ref (b 9), .int 0, .ref (b 11), .int 0, .ref (b 13), .ref (b 14)]))] H := hP
    have hD : va_D A [(mm, .inr (2, [.int 1, .int 0, .int 0, .ref (b 3), .ref (b 4), .int 0, .ref (b 6), .ref (b 7), .ref (b 8), .ref (b 9), .int 0, .ref (b 11), .int 0, .ref (b 13), .ref (b 14)]))] := hD
    refine lv_if_ne (tgt := 10) hx hb dX2_respects__5 (by decide) (fun c9 => absurd (by decide) c9) (fun _ => ?_)
    refine lv_iconst (v := 0) hx hb dX2_respects__8 (by decide) ?_
    exact g_zr hx hb hr hlocks hP hD hS (1, [.int 0, .int 0, .ref (b 3), .ref (b 4), .int 0, .ref (b 6), .ref (b 7), .ref (b 8), .ref (b 9), .int 0, .ref (b 11), .int 0, .ref (b 13), .ref (b 14)]) [0] rfl (by decide) rfl dX2_respects__9 (Nat.le_of_ble_eq_true rfl) (Nat.le_of_ble_eq_true rfl) (Or.inl rfl) (Or.inr ⟨rfl, hf1⟩)
set_option maxHeartbeats 4000000 in
set_option maxRecDepth 100000 in
theorem c_X2_digest (l : Launch) (g : gG) (sz : Nat) (mm : Nat) (b : Nat → Nat) : gMl l yX2_digest wsX2_digest ({ frames := 0, cells := 0, slots := 0, locals := 0 } : Room) g [.ref mm] [(mm, .inr (2, [.int 0, .int 0, .int 0, .ref (b 3), .ref (b 4), .int 0, .ref (b 6), .ref (b 7), .ref (b 8), .ref (b 9), .int 0, .ref (b 11), .int 0, .ref (b 13), .ref (b 14)]))] sz (fun (r : Int64) (u : (Int32 × List Value)) => r = 104357873) (fun (u : (Int32 × List Value)) => [(mm, .inr (2, .int u.1 :: u.2))]) 0 0 := by
  refine g_of (l := l) (y := yX2_digest) (wy := wsX2_digest) (rm := ({ frames := 0, cells := 0, slots := 0, locals := 0 } : Room)) (g := g) (av := [.ref mm]) (ws := [(mm, .inr (2, [.int 0, .int 0, .int 0, .ref (b 3), .ref (b 4), .int 0, .ref (b 6), .ref (b 7), .ref (b 8), .ref (b 9), .int 0, .ref (b 11), .int 0, .ref (b 13), .ref (b 14)]))]) (sz := sz) (mc := 0) (ms := 0) (Qc := fun A => va_Ql (fun (r : Int64) (u : (Int32 × List Value)) => r = 104357873) (fun u t9 => gPost g A ((fun (u : (Int32 × List Value)) => [(mm, .inr (2, .int u.1 :: u.2))]) u) t9) A) (cc := cX2_digest) (maxL := 5) (ret := some .long) (by decide) rfl (Nat.le_of_ble_eq_true rfl) ?_
  intro p e s m below meth c A ls hx hb hr hml hown hts hlocks hnm hA hK hE hP hD hS hl
  have hl : lv_has ls 5 [(0, .ref mm)] := hl
  have hown : s.vm.findClass RX2 = some m.cls := hown
  have hP : va_P g.1 vwCl [(mm, .inr (2, [.int 0, .int 0, .int 0, .ref (b 3), .ref (b 4), .int 0, .ref (b 6), .ref (b 7), .ref (b 8), .ref (b 9), .int 0, .ref (b 11), .int 0, .ref (b 13), .ref (b 14)]))] s.heap := hP
  have hinX2 : ∀ w ∈ u_ws RX2 TX2 15, w ∈ wsX2_digest := by decide +kernel
  refine lv_aload_n hx hb dX2_digest_0 rfl (lv_at hl 0 rfl) ?_
  refine lv_iconst (v := 0) hx hb dX2_digest_1 (by decide) ?_
  refine va_put (D := g.1) (ci := 2) (v := .int 0) (ty := .int) (C := RX2) (T := TX2) (N := 15) hx hb hts hinX2 tyX2 tyX2_ok nmX2 hown hK hP hD hS 0 rfl rfl 0 (by decide) (hts (.fieldLink RX2 38 "DefaultReasonerModel" "thrown" "I") (by decide +kernel)) (fun _ h9 => h9) rfl (by decide +kernel) rfl rfl (Nat.le_of_ble_eq_true rfl) dX2_digest_2 (fun H locs hP hD hS => ?_)
  have hP : va_P g.1 vwCl [(mm, .inr (2, [.int 0, .int 0, .int 0, .ref (b 3), .ref (b 4), .int 0, .ref (b 6), .ref (b 7), .ref (b 8), .ref (b 9), .int 0, .ref (b 11), .int 0, .ref (b 13), .ref (b 14)]))] H := hP
  have hD : va_D A [(mm, .inr (2, [.int 0, .int 0, .int 0, .ref (b 3), .ref (b 4), .int 0, .ref (b 6), .ref (b 7), .ref (b 8), .ref (b 9), .int 0, .ref (b 11), .int 0, .ref (b 13), .ref (b 14)]))] := hD
  refine lv_ldc2 (v := 3503) hx hb hown (hts (.constantLong RX2 133 (3503)) (by decide +kernel)) dX2_digest_5 ?_
  refine lv_aload_n hx hb dX2_digest_8 rfl (lv_at hl 0 rfl) ?_
  refine va_get (D := g.1) (ci := 2) (v := .int 0) (C := RX2) (T := TX2) (N := 15) hx hb hts hinX2 hown hK hP 0 rfl rfl 1 (by decide) (hts (.fieldLink RX2 50 "DefaultReasonerModel" "facts" "I") (by decide +kernel)) (fun _ h9 => h9) rfl dX2_digest_9 ?_
  refine lv_i2l (v := 0) hx hb dX2_digest_12 (by decide) ?_
  refine lv_ladd hx hb dX2_digest_13 ?_
  refine sy_l (y := 3503) (by decide) ?_
  refine lv_ldc2 (v := 31) hx hb hown (hts (.constantLong RX2 135 (31)) (by decide +kernel)) dX2_digest_14 ?_
  refine lv_lmul hx hb dX2_digest_17 ?_
  refine sy_l (y := 108593) (by decide) ?_
  refine lv_aload_n hx hb dX2_digest_18 rfl (lv_at hl 0 rfl) ?_
  refine va_get (D := g.1) (ci := 2) (v := .int 0) (C := RX2) (T := TX2) (N := 15) hx hb hts hinX2 hown hK hP 0 rfl rfl 2 (by decide) (hts (.fieldLink RX2 60 "DefaultReasonerModel" "rules" "I") (by decide +kernel)) (fun _ h9 => h9) rfl dX2_digest_19 ?_
  refine lv_i2l (v := 0) hx hb dX2_digest_22 (by decide) ?_
  refine lv_ladd hx hb dX2_digest_23 ?_
  refine sy_l (y := 108593) (by decide) ?_
  refine lv_lstore_n (lv' := [(1, .long 108593), (0, .ref mm)]) hx hb dX2_digest_24 rfl hl (by decide) rfl (fun ls hl => ?_)
  refine lv_iconst (v := 0) hx hb dX2_digest_25 (by decide) ?_
  refine lv_istore_n (lv' := [(3, .int 0), (1, .long 108593), (0, .ref mm)]) hx hb dX2_digest_26 rfl hl (by decide) rfl (fun ls hl => ?_)
  refine lv_iload_n hx hb dX2_digest_27 rfl (lv_at hl 0 rfl) ?_
  refine lv_aload_n hx hb dX2_digest_28 rfl (lv_at hl 2 rfl) ?_
  refine va_get (D := g.1) (ci := 2) (v := .int 0) (C := RX2) (T := TX2) (N := 15) hx hb hts hinX2 hown hK hP 0 rfl rfl 2 (by decide) (hts (.fieldLink RX2 60 "DefaultReasonerModel" "rules" "I") (by decide +kernel)) (fun _ h9 => h9) rfl dX2_digest_29 ?_
  refine lv_icmp_ge (tgt := 67) hx hb dX2_digest_32 (by decide) (fun _ => ?_) (fun c9 => absurd (by decide) c9)
  refine lv_lload_n hx hb dX2_digest_67 rfl (lv_at hl 1 rfl) ?_
  refine lv_ldc2 (v := 31) hx hb hown (hts (.constantLong RX2 135 (31)) (by decide +kernel)) dX2_digest_68 ?_
  refine lv_lmul hx hb dX2_digest_71 ?_
  refine sy_l (y := 3366383) (by decide) ?_
  refine lv_aload_n hx hb dX2_digest_72 rfl (lv_at hl 2 rfl) ?_
  refine va_get (D := g.1) (ci := 2) (v := .int 0) (C := RX2) (T := TX2) (N := 15) hx hb hts hinX2 hown hK hP 0 rfl rfl 5 (by decide) (hts (.fieldLink RX2 43 "DefaultReasonerModel" "defaults" "I") (by decide +kernel)) (fun _ h9 => h9) rfl dX2_digest_73 ?_
  refine lv_i2l (v := 0) hx hb dX2_digest_76 (by decide) ?_
  refine lv_ladd hx hb dX2_digest_77 ?_
  refine sy_l (y := 3366383) (by decide) ?_
  refine lv_lstore_n (lv' := [(1, .long 3366383), (3, .int 0), (0, .ref mm)]) hx hb dX2_digest_78 rfl hl (by decide) rfl (fun ls hl => ?_)
  refine lv_iconst (v := 0) hx hb dX2_digest_79 (by decide) ?_
  refine lv_istore_n (lv' := [(3, .int 0), (1, .long 3366383), (0, .ref mm)]) hx hb dX2_digest_80 rfl hl (by decide) rfl (fun ls hl => ?_)
  refine lv_iload_n hx hb dX2_digest_81 rfl (lv_at hl 0 rfl) ?_
  refine lv_aload_n hx hb dX2_digest_82 rfl (lv_at hl 2 rfl) ?_
  refine va_get (D := g.1) (ci := 2) (v := .int 0) (C := RX2) (T := TX2) (N := 15) hx hb hts hinX2 hown hK hP 0 rfl rfl 5 (by decide) (hts (.fieldLink RX2 43 "DefaultReasonerModel" "defaults" "I") (by decide +kernel)) (fun _ h9 => h9) rfl dX2_digest_83 ?_
  refine lv_icmp_ge (tgt := 133) hx hb dX2_digest_86 (by decide) (fun _ => ?_) (fun c9 => absurd (by decide) c9)
  refine lv_iconst (v := 0) hx hb dX2_digest_133 (by decide) ?_
  refine lv_istore_n (lv' := [(3, .int 0), (1, .long 3366383), (0, .ref mm)]) hx hb dX2_digest_134 rfl hl (by decide) rfl (fun ls hl => ?_)
  refine lv_iload_n hx hb dX2_digest_135 rfl (lv_at hl 0 rfl) ?_
  refine lv_aload_n hx hb dX2_digest_136 rfl (lv_at hl 2 rfl) ?_
  refine va_get (D := g.1) (ci := 2) (v := .int 0) (C := RX2) (T := TX2) (N := 15) hx hb hts hinX2 hown hK hP 0 rfl rfl 5 (by decide) (hts (.fieldLink RX2 43 "DefaultReasonerModel" "defaults" "I") (by decide +kernel)) (fun _ h9 => h9) rfl dX2_digest_137 ?_
  refine lv_icmp_ge (tgt := 189) hx hb dX2_digest_140 (by decide) (fun _ => ?_) (fun c9 => absurd (by decide) c9)
  refine lv_lload_n hx hb dX2_digest_189 rfl (lv_at hl 1 rfl) ?_
  refine lv_ldc2 (v := 31) hx hb hown (hts (.constantLong RX2 135 (31)) (by decide +kernel)) dX2_digest_190 ?_
  refine lv_lmul hx hb dX2_digest_193 ?_
  refine sy_l (y := 104357873) (by decide) ?_
  refine lv_aload_n hx hb dX2_digest_194 rfl (lv_at hl 2 rfl) ?_
  refine va_get (D := g.1) (ci := 2) (v := .int 0) (C := RX2) (T := TX2) (N := 15) hx hb hts hinX2 hown hK hP 0 rfl rfl 10 (by decide) (hts (.fieldLink RX2 130 "DefaultReasonerModel" "applied" "I") (by decide +kernel)) (fun _ h9 => h9) rfl dX2_digest_195 ?_
  refine lv_i2l (v := 0) hx hb dX2_digest_198 (by decide) ?_
  refine lv_ladd hx hb dX2_digest_199 ?_
  refine sy_l (y := 104357873) (by decide) ?_
  refine lv_lstore_n (lv' := [(1, .long 104357873), (3, .int 0), (0, .ref mm)]) hx hb dX2_digest_200 rfl hl (by decide) rfl (fun ls hl => ?_)
  refine lv_iconst (v := 0) hx hb dX2_digest_201 (by decide) ?_
  refine lv_istore_n (lv' := [(3, .int 0), (1, .long 104357873), (0, .ref mm)]) hx hb dX2_digest_202 rfl hl (by decide) rfl (fun ls hl => ?_)
  refine lv_iload_n hx hb dX2_digest_203 rfl (lv_at hl 0 rfl) ?_
  refine lv_aload_n hx hb dX2_digest_204 rfl (lv_at hl 2 rfl) ?_
  refine va_get (D := g.1) (ci := 2) (v := .int 0) (C := RX2) (T := TX2) (N := 15) hx hb hts hinX2 hown hK hP 0 rfl rfl 10 (by decide) (hts (.fieldLink RX2 130 "DefaultReasonerModel" "applied" "I") (by decide +kernel)) (fun _ h9 => h9) rfl dX2_digest_205 ?_
  refine lv_icmp_ge (tgt := 231) hx hb dX2_digest_208 (by decide) (fun _ => ?_) (fun c9 => absurd (by decide) c9)
  refine lv_lload_n hx hb dX2_digest_231 rfl (lv_at hl 1 rfl) ?_
  exact g_lr hx hb hr hlocks hP hD hS (0, [.int 0, .int 0, .ref (b 3), .ref (b 4), .int 0, .ref (b 6), .ref (b 7), .ref (b 8), .ref (b 9), .int 0, .ref (b 11), .int 0, .ref (b 13), .ref (b 14)]) [0] rfl (by decide) rfl dX2_digest_232 (Nat.le_of_ble_eq_true rfl) (Nat.le_of_ble_eq_true rfl) (rfl)
