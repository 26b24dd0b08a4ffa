set_option maxHeartbeats 4000000 in
set_option maxRecDepth 100000 in
theorem c_L_setFact (l : Launch) (hst : l.stackTraces = false) (g : gG) (sz : Nat) (xx : Nat) (a : Nat → Nat) (o : Nat) (x y : Int32) : gMi l yL_setFact wsL_setFact ({ frames := 8, cells := 1, slots := 6, locals := 125 } : Room) g [.ref xx, .int x, .int y, .ref o] [(xx, .inr (1, [.int 0, .int 0, .ref (a 2), .ref (a 3), .int 0, .ref (a 5), .ref (a 6), .ref (a 7), .ref (a 8), .ref (a 9), .int 0, .ref (a 11), .ref (a 12), .ref (a 13), .ref (a 14), .int 0, .int 0, .ref (a 17), .int 0, .int 0])), (o, .inl (g.2.1.2.2.1, 1, .inr (.inl (fun _ => 0))))] sz (fun (r : Int32) (u : (Nat → Int64)) => r = 0 ∧ gLit x ∧ u 0 = 0 ∨ r = 1 ∧ ¬ gLit x) (fun (u : (Nat → Int64)) => [(o, .inl (g.2.1.2.2.1, 1, .inr (.inl u)))]) 1 6 := by
  refine gh_of (l := l) (y := yL_setFact) (wy := wsL_setFact) (rm := ({ frames := 8, cells := 1, slots := 6, locals := 125 } : Room)) (g := g) (av := [.ref xx, .int x, .int y, .ref o]) (ws := [(xx, .inr (1, [.int 0, .int 0, .ref (a 2), .ref (a 3), .int 0, .ref (a 5), .ref (a 6), .ref (a 7), .ref (a 8), .ref (a 9), .int 0, .ref (a 11), .ref (a 12), .ref (a 13), .ref (a 14), .int 0, .int 0, .ref (a 17), .int 0, .int 0])), (o, .inl (g.2.1.2.2.1, 1, .inr (.inl (fun _ => 0))))]) (sz := sz) (mc := 1) (ms := 6) (Qc := fun A => va_Qi (fun (r : Int32) (u : (Nat → Int64)) => r = 0 ∧ gLit x ∧ u 0 = 0 ∨ r = 1 ∧ ¬ gLit x) (fun u t9 => gPost g A ((fun (u : (Nat → Int64)) => [(o, .inl (g.2.1.2.2.1, 1, .inr (.inl u)))]) u) t9) A) (cc := cL_setFact) (maxL := 5) (ret := some .int) (by decide) rfl (Nat.le_of_ble_eq_true rfl) ?_
  intro p e s m below meth c A ls hx hb hr hml hown hts hlocks htab hA hK hE hP hD hS hl
  have hl : lv_has ls 5 [(0, .ref xx), (1, .int x), (2, .int y), (3, .ref o)] := hl
  have hown : s.vm.findClass RL = some m.cls := hown
  have hP : va_P g.1 vwCl [(xx, .inr (1, [.int 0, .int 0, .ref (a 2), .ref (a 3), .int 0, .ref (a 5), .ref (a 6), .ref (a 7), .ref (a 8), .ref (a 9), .int 0, .ref (a 11), .ref (a 12), .ref (a 13), .ref (a 14), .int 0, .int 0, .ref (a 17), .int 0, .int 0])), (o, .inl (g.2.1.2.2.1, 1, .inr (.inl (fun _ => 0))))] s.heap := hP
  refine lv_aload_n hx hb dL_setFact_0 rfl (lv_at hl 3 rfl) ?_
  refine lv_iconst (v := 0) hx hb dL_setFact_1 (by decide) ?_
  refine lv_aload_n hx hb dL_setFact_2 rfl (lv_at hl 0 rfl) ?_
  refine lv_iload_n hx hb dL_setFact_3 rfl (lv_at hl 1 rfl) ?_
  refine lv_iload_n hx hb dL_setFact_4 rfl (lv_at hl 2 rfl) ?_
  refine gxj_i (wc := [(xx, .inr (1, [.int 0, .int 0, .ref (a 2), .ref (a 3), .int 0, .ref (a 5), .ref (a 6), .ref (a 7), .ref (a 8), .ref (a 9), .int 0, .ref (a 11), .ref (a 12), .ref (a 13), .ref (a 14), .int 0, .int 0, .ref (a 17), .int 0, .int 0]))]) (wr := [(o, .inl (g.2.1.2.2.1, 1, .inr (.inl (fun _ => 0))))]) (gxr_V (n := 2) ⟨hx, hb, hml, hown, hts⟩ (c_X1_setFact l hst g s.heap.size xx a x y) gL_setFact_X1_setFact rfl rfl rfl (by decide +kernel) ⟨Nat.le_of_ble_eq_true rfl, Nat.le_of_ble_eq_true rfl⟩ (gp_V hK hE hA hP hD hS [0] rfl (by decide) rfl (q0 := 0) rfl rfl) rfl hl.1 rfl (Nat.le_of_ble_eq_true rfl) dL_setFact_5 ⟨Nat.le_of_ble_eq_true rfl, Nat.le_of_ble_eq_true rfl⟩) hP hD hS hA [0] [1] rfl rfl (by decide) (by decide) (fun E ce q9 H locs hpx hP hD hS h7 h8 h9 => ?_) (fun r1 u1 H locs hp1 hP hD hS => ?_)
  · have hP : va_P g.1 vwCl [(o, .inl (g.2.1.2.2.1, 1, .inr (.inl (fun _ => 0))))] H := hP
    have hD : va_D A [(o, .inl (g.2.1.2.2.1, 1, .inr (.inl (fun _ => 0))))] := hD
    rcases hpx with ⟨rfl, hz⟩
    refine vx_catch (own := RL) (name := gIO) hown [] ⟨0, 17, 20, 13⟩ [] htab (fun z hz => absurd hz List.not_mem_nil) (by decide) (by decide) (hts (.classLink RL 13 gIO) (by decide +kernel)) (gCa.use hE.1.2.1.1) h7 h8 h9 ?_
    refine W.eq (g2 := F0 m 20 ls [.ref q9]) rfl ?_
    refine lv_astore (lv' := [(4, .ref q9), (0, .ref xx), (1, .int x), (2, .int y), (3, .ref o)]) hx hb dL_setFact_20 hl (by decide) rfl (fun ls hl => ?_)
    refine lv_iconst (v := 1) hx hb dL_setFact_22 (by decide) ?_
    exact g_ir hx hb hr hlocks hP hD hS (fun _ => 0) [0] rfl (by decide) rfl dL_setFact_23 (Nat.le_of_ble_eq_true rfl) (Nat.le_of_ble_eq_true rfl) ((Or.inr (⟨rfl, hz⟩)))
  rcases hp1 with ⟨hq, rfl⟩
  have hP : va_P g.1 vwCl [(o, .inl (g.2.1.2.2.1, 1, .inr (.inl (fun _ => 0))))] H := hP
  have hD : va_D A [(o, .inl (g.2.1.2.2.1, 1, .inr (.inl (fun _ => 0))))] := hD
  refine lv_if_eq (tgt := 15) hx hb dL_setFact_8 (by decide) (fun _ => ?_) (fun c9 => absurd (by decide) c9)
  refine lv_lconst (v := 0) hx hb dL_setFact_15 (by decide) ?_
  refine va_last hx hb hK hP hD hS 0 2 rfl rfl (by unfold vp_in; decide) dL_setFact_16 (fun H locs hP hD hS => ?_)
  have hP : va_P g.1 vwCl [(o, .inl (g.2.1.2.2.1, 1, .inr (.inl (vp_updL (fun _ => 0) 0 0))))] H := hP
  have hD : va_D A [(o, .inl (g.2.1.2.2.1, 1, .inr (.inl (vp_updL (fun _ => 0) 0 0))))] := hD
  refine lv_goto (tgt := 24) hx hb dL_setFact_17 (by decide) ?_
  refine lv_iconst (v := 0) hx hb dL_setFact_24 (by decide) ?_
  exact g_ir hx hb hr hlocks hP hD hS (vp_updL (fun _ => 0) 0 0) [0] rfl (by decide) rfl dL_setFact_25 (Nat.le_of_ble_eq_true rfl) (Nat.le_of_ble_eq_true rfl) ((Or.inl (⟨rfl, hq, rfl⟩)))
set_option maxHeartbeats 4000000 in
set_option maxRecDepth 100000 in
theorem c_L_addRule (l : Launch) (hst : l.stackTraces = false) (g : gG) (sz : Nat) (xx : Nat) (a : Nat → Nat) (o : Nat) (x y : Int32) : gMi l yL_addRule wsL_addRule ({ frames := 8, cells := 2, slots := 12, locals := 125 } : Room) g [.ref xx, .int x, .int y, .ref o] [(xx, .inr (1, [.int 0, .int 0, .ref (a 2), .ref (a 3), .int 0, .ref (a 5), .ref (a 6), .ref (a 7), .ref (a 8), .ref (a 9), .int 0, .ref (a 11), .ref (a 12), .ref (a 13), .ref (a 14), .int 0, .int 0, .ref (a 17), .int 0, .int 0])), ((a 2), .inl (g.2.1.1, 16, .inl (fun _ => 0))), ((a 3), .inl (g.2.1.1, 16, .inl (fun _ => 0))), (o, .inl (g.2.1.2.2.1, 1, .inr (.inl (fun _ => 0))))] sz (fun (r : Int32) (u : (Nat → Int64)) => r = 0 ∧ gLit y ∧ gSet x ∧ u 0 = 0 ∨ r = 1 ∧ ¬ gLit y ∨ r = 2 ∧ gLit y ∧ ¬ gSet x) (fun (u : (Nat → Int64)) => [(o, .inl (g.2.1.2.2.1, 1, .inr (.inl u)))]) 2 12 := by
  refine gh_of (l := l) (y := yL_addRule) (wy := wsL_addRule) (rm := ({ frames := 8, cells := 2, slots := 12, locals := 125 } : Room)) (g := g) (av := [.ref xx, .int x, .int y, .ref o]) (ws := [(xx, .inr (1, [.int 0, .int 0, .ref (a 2), .ref (a 3), .int 0, .ref (a 5), .ref (a 6), .ref (a 7), .ref (a 8), .ref (a 9), .int 0, .ref (a 11), .ref (a 12), .ref (a 13), .ref (a 14), .int 0, .int 0, .ref (a 17), .int 0, .int 0])), ((a 2), .inl (g.2.1.1, 16, .inl (fun _ => 0))), ((a 3), .inl (g.2.1.1, 16, .inl (fun _ => 0))), (o, .inl (g.2.1.2.2.1, 1, .inr (.inl (fun _ => 0))))]) (sz := sz) (mc := 2) (ms := 12) (Qc := fun A => va_Qi (fun (r : Int32) (u : (Nat → Int64)) => r = 0 ∧ gLit y ∧ gSet x ∧ u 0 = 0 ∨ r = 1 ∧ ¬ gLit y ∨ r = 2 ∧ gLit y ∧ ¬ gSet x) (fun u t9 => gPost g A ((fun (u : (Nat → Int64)) => [(o, .inl (g.2.1.2.2.1, 1, .inr (.inl u)))]) u) t9) A) (cc := cL_addRule) (maxL := 5) (ret := some .int) (by decide) rfl (Nat.le_of_ble_eq_true rfl) ?_
  intro p e s m below meth c A ls hx hb hr hml hown hts hlocks htab hA hK hE hP hD hS hl
  have hl : lv_has ls 5 [(0, .ref xx), (1, .int x), (2, .int y), (3, .ref o)] := hl
  have hown : s.vm.findClass RL = some m.cls := hown
  have hP : va_P g.1 vwCl [(xx, .inr (1, [.int 0, .int 0, .ref (a 2), .ref (a 3), .int 0, .ref (a 5), .ref (a 6), .ref (a 7), .ref (a 8), .ref (a 9), .int 0, .ref (a 11), .ref (a 12), .ref (a 13), .ref (a 14), .int 0, .int 0, .ref (a 17), .int 0, .int 0])), ((a 2), .inl (g.2.1.1, 16, .inl (fun _ => 0))), ((a 3), .inl (g.2.1.1, 16, .inl (fun _ => 0))), (o, .inl (g.2.1.2.2.1, 1, .inr (.inl (fun _ => 0))))] s.heap := hP
  refine lv_aload_n hx hb dL_addRule_0 rfl (lv_at hl 3 rfl) ?_
  refine lv_iconst (v := 0) hx hb dL_addRule_1 (by decide) ?_
  refine lv_aload_n hx hb dL_addRule_2 rfl (lv_at hl 0 rfl) ?_
  refine lv_iload_n hx hb dL_addRule_3 rfl (lv_at hl 1 rfl) ?_
  refine lv_iload_n hx hb dL_addRule_4 rfl (lv_at hl 2 rfl) ?_
  refine gxj_i (wc := [(xx, .inr (1, [.int 0, .int 0, .ref (a 2), .ref (a 3), .int 0, .ref (a 5), .ref (a 6), .ref (a 7), .ref (a 8), .ref (a 9), .int 0, .ref (a 11), .ref (a 12), .ref (a 13), .ref (a 14), .int 0, .int 0, .ref (a 17), .int 0, .int 0])), ((a 2), .inl (g.2.1.1, 16, .inl (fun _ => 0))), ((a 3), .inl (g.2.1.1, 16, .inl (fun _ => 0)))]) (wr := [(o, .inl (g.2.1.2.2.1, 1, .inr (.inl (fun _ => 0))))]) (gxr_V (n := 2) ⟨hx, hb, hml, hown, hts⟩ (c_X1_addRule l hst g s.heap.size xx a x y) gL_addRule_X1_addRule rfl rfl rfl (by decide +kernel) ⟨Nat.le_of_ble_eq_true rfl, Nat.le_of_ble_eq_true rfl⟩ (gp_V hK hE hA hP hD hS [0, 1, 2] rfl (by decide) rfl (q0 := 0) rfl rfl) rfl hl.1 rfl (Nat.le_of_ble_eq_true rfl) dL_addRule_5 ⟨Nat.le_of_ble_eq_true rfl, Nat.le_of_ble_eq_true rfl⟩) hP hD hS hA [0, 1, 2] [3] rfl rfl (by decide) (by decide) (fun E ce q9 H locs hpx hP hD hS h7 h8 h9 => ?_) (fun r1 u1 H locs hp1 hP hD hS => ?_)
  · have hP : va_P g.1 vwCl [(o, .inl (g.2.1.2.2.1, 1, .inr (.inl (fun _ => 0))))] H := hP
    have hD : va_D A [(o, .inl (g.2.1.2.2.1, 1, .inr (.inl (fun _ => 0))))] := hD
    rcases hpx with ⟨rfl, hz⟩ | ⟨rfl, hz⟩
    · refine vx_catch (own := RL) (name := gIO) hown [] ⟨0, 10, 13, 13⟩ [⟨0, 10, 17, 19⟩, ⟨0, 10, 21, 21⟩] htab (fun z hz => absurd hz List.not_mem_nil) (by decide) (by decide) (hts (.classLink RL 13 gIO) (by decide +kernel)) (gCa.use hE.1.2.1.1) h7 h8 h9 ?_
      refine W.eq (g2 := F0 m 13 ls [.ref q9]) rfl ?_
      refine lv_astore (lv' := [(4, .ref q9), (0, .ref xx), (1, .int x), (2, .int y), (3, .ref o)]) hx hb dL_addRule_13 hl (by decide) rfl (fun ls hl => ?_)
      refine lv_iconst (v := 1) hx hb dL_addRule_15 (by decide) ?_
      exact g_ir hx hb hr hlocks hP hD hS (fun _ => 0) [0] rfl (by decide) rfl dL_addRule_16 (Nat.le_of_ble_eq_true rfl) (Nat.le_of_ble_eq_true rfl) ((Or.inr (Or.inl (⟨rfl, hz⟩))))
    · refine vx_catch (own := RL) (name := gIA) hown [⟨0, 10, 13, 13⟩] ⟨0, 10, 17, 19⟩ [⟨0, 10, 21, 21⟩] htab (fun z hz => by rw [List.mem_singleton.mp hz]; exact Or.inr ⟨by decide, gIO, hts (.classLink RL 13 gIO) (by decide +kernel), hE.1.2.2.1.1⟩) (by decide) (by decide) (hts (.classLink RL 19 gIA) (by decide +kernel)) (gCa.use hE.1.2.1.2.1) h7 h8 h9 ?_
      refine W.eq (g2 := F0 m 17 ls [.ref q9]) rfl ?_
      refine lv_astore (lv' := [(4, .ref q9), (0, .ref xx), (1, .int x), (2, .int y), (3, .ref o)]) hx hb dL_addRule_17 hl (by decide) rfl (fun ls hl => ?_)
      refine lv_iconst (v := 2) hx hb dL_addRule_19 (by decide) ?_
      exact g_ir hx hb hr hlocks hP hD hS (fun _ => 0) [0] rfl (by decide) rfl dL_addRule_20 (Nat.le_of_ble_eq_true rfl) (Nat.le_of_ble_eq_true rfl) ((Or.inr (Or.inr (⟨rfl, hz⟩))))
  rcases hp1 with ⟨hq, hq2, rfl⟩
  have hP : va_P g.1 vwCl [(o, .inl (g.2.1.2.2.1, 1, .inr (.inl (fun _ => 0))))] H := hP
  have hD : va_D A [(o, .inl (g.2.1.2.2.1, 1, .inr (.inl (fun _ => 0))))] := hD
  refine lv_i2l (v := 0) hx hb dL_addRule_8 (by decide) ?_
  refine va_last hx hb hK hP hD hS 0 2 rfl rfl (by unfold vp_in; decide) dL_addRule_9 (fun H locs hP hD hS => ?_)
  have hP : va_P g.1 vwCl [(o, .inl (g.2.1.2.2.1, 1, .inr (.inl (vp_updL (fun _ => 0) 0 0))))] H := hP
  have hD : va_D A [(o, .inl (g.2.1.2.2.1, 1, .inr (.inl (vp_updL (fun _ => 0) 0 0))))] := hD
  refine lv_goto (tgt := 25) hx hb dL_addRule_10 (by decide) ?_
  refine lv_iconst (v := 0) hx hb dL_addRule_25 (by decide) ?_
  exact g_ir hx hb hr hlocks hP hD hS (vp_updL (fun _ => 0) 0 0) [0] rfl (by decide) rfl dL_addRule_26 (Nat.le_of_ble_eq_true rfl) (Nat.le_of_ble_eq_true rfl) ((Or.inl (⟨rfl, hq, hq2, rfl⟩)))
set_option maxHeartbeats 4000000 in
set_option maxRecDepth 100000 in
theorem c_L_addDefault (l : Launch) (hst : l.stackTraces = false) (g : gG) (sz : Nat) (xx : Nat) (a : Nat → Nat) (o : Nat) (x y z : Int32) : gMi l yL_addDefault wsL_addDefault ({ frames := 8, cells := 3, slots := 18, locals := 126 } : Room) g [.ref xx, .int x, .int y, .int z, .ref o] [(xx, .inr (1, [.int 0, .int 0, .ref (a 2), .ref (a 3), .int 0, .ref (a 5), .ref (a 6), .ref (a 7), .ref (a 8), .ref (a 9), .int 0, .ref (a 11), .ref (a 12), .ref (a 13), .ref (a 14), .int 0, .int 0, .ref (a 17), .int 0, .int 0])), ((a 5), .inl (g.2.1.1, 6, .inl (fun _ => 0))), ((a 6), .inl (g.2.1.1, 6, .inl (fun _ => 0))), ((a 7), .inl (g.2.1.1, 6, .inl (fun _ => 0))), (o, .inl (g.2.1.2.2.1, 1, .inr (.inl (fun _ => 0))))] sz (fun (r : Int32) (u : (Nat → Int64)) => r = 0 ∧ gLit z ∧ gSet x ∧ gSet y ∧ u 0 = 0 ∨ r = 1 ∧ ¬ gLit z ∨ r = 2 ∧ gLit z ∧ ¬ (gSet x ∧ gSet y)) (fun (u : (Nat → Int64)) => [(o, .inl (g.2.1.2.2.1, 1, .inr (.inl u)))]) 3 18 := by
  refine gh_of (l := l) (y := yL_addDefault) (wy := wsL_addDefault) (rm := ({ frames := 8, cells := 3, slots := 18, locals := 126 } : Room)) (g := g) (av := [.ref xx, .int x, .int y, .int z, .ref o]) (ws := [(xx, .inr (1, [.int 0, .int 0, .ref (a 2), .ref (a 3), .int 0, .ref (a 5), .ref (a 6), .ref (a 7), .ref (a 8), .ref (a 9), .int 0, .ref (a 11), .ref (a 12), .ref (a 13), .ref (a 14), .int 0, .int 0, .ref (a 17), .int 0, .int 0])), ((a 5), .inl (g.2.1.1, 6, .inl (fun _ => 0))), ((a 6), .inl (g.2.1.1, 6, .inl (fun _ => 0))), ((a 7), .inl (g.2.1.1, 6, .inl (fun _ => 0))), (o, .inl (g.2.1.2.2.1, 1, .inr (.inl (fun _ => 0))))]) (sz := sz) (mc := 3) (ms := 18) (Qc := fun A => va_Qi (fun (r : Int32) (u : (Nat → Int64)) => r = 0 ∧ gLit z ∧ gSet x ∧ gSet y ∧ u 0 = 0 ∨ r = 1 ∧ ¬ gLit z ∨ r = 2 ∧ gLit z ∧ ¬ (gSet x ∧ gSet y)) (fun u t9 => gPost g A ((fun (u : (Nat → Int64)) => [(o, .inl (g.2.1.2.2.1, 1, .inr (.inl u)))]) u) t9) A) (cc := cL_addDefault) (maxL := 6) (ret := some .int) (by decide) rfl (Nat.le_of_ble_eq_true rfl) ?_
  intro p e s m below meth c A ls hx hb hr hml hown hts hlocks htab hA hK hE hP hD hS hl
  have hl : lv_has ls 6 [(0, .ref xx), (1, .int x), (2, .int y), (3, .int z), (4, .ref o)] := hl
  have hown : s.vm.findClass RL = some m.cls := hown
  have hP : va_P g.1 vwCl [(xx, .inr (1, [.int 0, .int 0, .ref (a 2), .ref (a 3), .int 0, .ref (a 5), .ref (a 6), .ref (a 7), .ref (a 8), .ref (a 9), .int 0, .ref (a 11), .ref (a 12), .ref (a 13), .ref (a 14), .int 0, .int 0, .ref (a 17), .int 0, .int 0])), ((a 5), .inl (g.2.1.1, 6, .inl (fun _ => 0))), ((a 6), .inl (g.2.1.1, 6, .inl (fun _ => 0))), ((a 7), .inl (g.2.1.1, 6, .inl (fun _ => 0))), (o, .inl (g.2.1.2.2.1, 1, .inr (.inl (fun _ => 0))))] s.heap := hP
  refine lv_aload hx hb dL_addDefault_0 (lv_at hl 4 rfl) ?_
  refine lv_iconst (v := 0) hx hb dL_addDefault_2 (by decide) ?_
  refine lv_aload_n hx hb dL_addDefault_3 rfl (lv_at hl 0 rfl) ?_
  refine lv_iload_n hx hb dL_addDefault_4 rfl (lv_at hl 1 rfl) ?_
  refine lv_iload_n hx hb dL_addDefault_5 rfl (lv_at hl 2 rfl) ?_
  refine lv_iload_n hx hb dL_addDefault_6 rfl (lv_at hl 3 rfl) ?_
  refine gxj_i (wc := [(xx, .inr (1, [.int 0, .int 0, .ref (a 2), .ref (a 3), .int 0, .ref (a 5), .ref (a 6), .ref (a 7), .ref (a 8), .ref (a 9), .int 0, .ref (a 11), .ref (a 12), .ref (a 13), .ref (a 14), .int 0, .int 0, .ref (a 17), .int 0, .int 0])), ((a 5), .inl (g.2.1.1, 6, .inl (fun _ => 0))), ((a 6), .inl (g.2.1.1, 6, .inl (fun _ => 0))), ((a 7), .inl (g.2.1.1, 6, .inl (fun _ => 0)))]) (wr := [(o, .inl (g.2.1.2.2.1, 1, .inr (.inl (fun _ => 0))))]) (gxr_V (n := 3) ⟨hx, hb, hml, hown, hts⟩ (c_X1_addDefault l hst g s.heap.size xx a x y z) gL_addDefault_X1_addDefault rfl rfl rfl (by decide +kernel) ⟨Nat.le_of_ble_eq_true rfl, Nat.le_of_ble_eq_true rfl⟩ (gp_V hK hE hA hP hD hS [0, 1, 2, 3] rfl (by decide) rfl (q0 := 0) rfl rfl) rfl hl.1 rfl (Nat.le_of_ble_eq_true rfl) dL_addDefault_7 ⟨Nat.le_of_ble_eq_true rfl, Nat.le_of_ble_eq_true rfl⟩) hP hD hS hA [0, 1, 2, 3] [4] rfl rfl (by decide) (by decide) (fun E ce q9 H locs hpx hP hD hS h7 h8 h9 => ?_) (fun r1 u1 H locs hp1 hP hD hS => ?_)
  · have hP : va_P g.1 vwCl [(o, .inl (g.2.1.2.2.1, 1, .inr (.inl (fun _ => 0))))] H := hP
    have hD : va_D A [(o, .inl (g.2.1.2.2.1, 1, .inr (.inl (fun _ => 0))))] := hD
    rcases hpx with ⟨rfl, hz⟩ | ⟨rfl, hz⟩
    · refine vx_catch (own := RL) (name := gIO) hown [] ⟨0, 12, 15, 13⟩ [⟨0, 12, 19, 19⟩, ⟨0, 12, 23, 21⟩] htab (fun z hz => absurd hz List.not_mem_nil) (by decide) (by decide) (hts (.classLink RL 13 gIO) (by decide +kernel)) (gCa.use hE.1.2.1.1) h7 h8 h9 ?_
      refine W.eq (g2 := F0 m 15 ls [.ref q9]) rfl ?_
      refine lv_astore (lv' := [(5, .ref q9), (0, .ref xx), (1, .int x), (2, .int y), (3, .int z), (4, .ref o)]) hx hb dL_addDefault_15 hl (by decide) rfl (fun ls hl => ?_)
      refine lv_iconst (v := 1) hx hb dL_addDefault_17 (by decide) ?_
      exact g_ir hx hb hr hlocks hP hD hS (fun _ => 0) [0] rfl (by decide) rfl dL_addDefault_18 (Nat.le_of_ble_eq_true rfl) (Nat.le_of_ble_eq_true rfl) ((Or.inr (Or.inl (⟨rfl, hz⟩))))
    · refine vx_catch (own := RL) (name := gIA) hown [⟨0, 12, 15, 13⟩] ⟨0, 12, 19, 19⟩ [⟨0, 12, 23, 21⟩] htab (fun z hz => by rw [List.mem_singleton.mp hz]; exact Or.inr ⟨by decide, gIO, hts (.classLink RL 13 gIO) (by decide +kernel), hE.1.2.2.1.1⟩) (by decide) (by decide) (hts (.classLink RL 19 gIA) (by decide +kernel)) (gCa.use hE.1.2.1.2.1) h7 h8 h9 ?_
      refine W.eq (g2 := F0 m 19 ls [.ref q9]) rfl ?_
      refine lv_astore (lv' := [(5, .ref q9), (0, .ref xx), (1, .int x), (2, .int y), (3, .int z), (4, .ref o)]) hx hb dL_addDefault_19 hl (by decide) rfl (fun ls hl => ?_)
      refine lv_iconst (v := 2) hx hb dL_addDefault_21 (by decide) ?_
      exact g_ir hx hb hr hlocks hP hD hS (fun _ => 0) [0] rfl (by decide) rfl dL_addDefault_22 (Nat.le_of_ble_eq_true rfl) (Nat.le_of_ble_eq_true rfl) ((Or.inr (Or.inr (⟨rfl, hz⟩))))
  rcases hp1 with ⟨hq, hq2, hq3, rfl⟩
  have hP : va_P g.1 vwCl [(o, .inl (g.2.1.2.2.1, 1, .inr (.inl (fun _ => 0))))] H := hP
  have hD : va_D A [(o, .inl (g.2.1.2.2.1, 1, .inr (.inl (fun _ => 0))))] := hD
  refine lv_i2l (v := 0) hx hb dL_addDefault_10 (by decide) ?_
  refine va_last hx hb hK hP hD hS 0 2 rfl rfl (by unfold vp_in; decide) dL_addDefault_11 (fun H locs hP hD hS => ?_)
  have hP : va_P g.1 vwCl [(o, .inl (g.2.1.2.2.1, 1, .inr (.inl (vp_updL (fun _ => 0) 0 0))))] H := hP
  have hD : va_D A [(o, .inl (g.2.1.2.2.1, 1, .inr (.inl (vp_updL (fun _ => 0) 0 0))))] := hD
  refine lv_goto (tgt := 27) hx hb dL_addDefault_12 (by decide) ?_
  refine lv_iconst (v := 0) hx hb dL_addDefault_27 (by decide) ?_
  exact g_ir hx hb hr hlocks hP hD hS (vp_updL (fun _ => 0) 0 0) [0] rfl (by decide) rfl dL_addDefault_28 (Nat.le_of_ble_eq_true rfl) (Nat.le_of_ble_eq_true rfl) ((Or.inl (⟨rfl, hq, hq2, hq3, rfl⟩)))
set_option maxHeartbeats 4000000 in
set_option maxRecDepth 100000 in
theorem c_L_dropRule (l : Launch) (hst : l.stackTraces = false) (g : gG) (sz : Nat) (xx : Nat) (a : Nat → Nat) (o : Nat) : gMi l yL_dropRule wsL_dropRule ({ frames := 7, cells := 1, slots := 6, locals := 102 } : Room) g [.ref xx, .ref o] [(xx, .inr (1, [.int 0, .int 0, .ref (a 2), .ref (a 3), .int 0, .ref (a 5), .ref (a 6), .ref (a 7), .ref (a 8), .ref (a 9), .int 0, .ref (a 11), .ref (a 12), .ref (a 13), .ref (a 14), .int 0, .int 0, .ref (a 17), .int 0, .int 0])), (o, .inl (g.2.1.2.2.1, 1, .inr (.inl (fun _ => 0))))] sz (fun (r : Int32) (u : (Nat → Int64)) => r = 1) (fun (u : (Nat → Int64)) => [(o, .inl (g.2.1.2.2.1, 1, .inr (.inl u)))]) 1 6 := by
  refine gh_of (l := l) (y := yL_dropRule) (wy := wsL_dropRule) (rm := ({ frames := 7, cells := 1, slots := 6, locals := 102 } : Room)) (g := g) (av := [.ref xx, .ref o]) (ws := [(xx, .inr (1, [.int 0, .int 0, .ref (a 2), .ref (a 3), .int 0, .ref (a 5), .ref (a 6), .ref (a 7), .ref (a 8), .ref (a 9), .int 0, .ref (a 11), .ref (a 12), .ref (a 13), .ref (a 14), .int 0, .int 0, .ref (a 17), .int 0, .int 0])), (o, .inl (g.2.1.2.2.1, 1, .inr (.inl (fun _ => 0))))]) (sz := sz) (mc := 1) (ms := 6) (Qc := fun A => va_Qi (fun (r : Int32) (u : (Nat → Int64)) => r = 1) (fun u t9 => gPost g A ((fun (u : (Nat → Int64)) => [(o, .inl (g.2.1.2.2.1, 1, .inr (.inl u)))]) u) t9) A) (cc := cL_dropRule) (maxL := 3) (ret := some .int) (by decide) rfl (Nat.le_of_ble_eq_true rfl) ?_
  intro p e s m below meth c A ls hx hb hr hml hown hts hlocks htab hA hK hE hP hD hS hl
  have hl : lv_has ls 3 [(0, .ref xx), (1, .ref o)] := hl
  have hown : s.vm.findClass RL = some m.cls := hown
  have hP : va_P g.1 vwCl [(xx, .inr (1, [.int 0, .int 0, .ref (a 2), .ref (a 3), .int 0, .ref (a 5), .ref (a 6), .ref (a 7), .ref (a 8), .ref (a 9), .int 0, .ref (a 11), .ref (a 12), .ref (a 13), .ref (a 14), .int 0, .int 0, .ref (a 17), .int 0, .int 0])), (o, .inl (g.2.1.2.2.1, 1, .inr (.inl (fun _ => 0))))] s.heap := hP
  refine lv_aload_n hx hb dL_dropRule_0 rfl (lv_at hl 1 rfl) ?_
  refine lv_iconst (v := 0) hx hb dL_dropRule_1 (by decide) ?_
  refine lv_aload_n hx hb dL_dropRule_2 rfl (lv_at hl 0 rfl) ?_
  refine gxj_i (wc := [(xx, .inr (1, [.int 0, .int 0, .ref (a 2), .ref (a 3), .int 0, .ref (a 5), .ref (a 6), .ref (a 7), .ref (a 8), .ref (a 9), .int 0, .ref (a 11), .ref (a 12), .ref (a 13), .ref (a 14), .int 0, .int 0, .ref (a 17), .int 0, .int 0]))]) (wr := [(o, .inl (g.2.1.2.2.1, 1, .inr (.inl (fun _ => 0))))]) (gxr_V (n := 0) ⟨hx, hb, hml, hown, hts⟩ (c_X1_dropRule l hst g s.heap.size xx a) gL_dropRule_X1_dropRule rfl rfl rfl (by decide +kernel) ⟨Nat.le_of_ble_eq_true rfl, Nat.le_of_ble_eq_true rfl⟩ (gp_V hK hE hA hP hD hS [0] rfl (by decide) rfl (q0 := 0) rfl rfl) rfl hl.1 rfl (Nat.le_of_ble_eq_true rfl) dL_dropRule_3 ⟨Nat.le_of_ble_eq_true rfl, Nat.le_of_ble_eq_true rfl⟩) hP hD hS hA [0] [1] rfl rfl (by decide) (by decide) (fun E ce q9 H locs hpx hP hD hS h7 h8 h9 => ?_) (fun r1 u1 H locs hp1 hP hD hS => ?_)
  · have hP : va_P g.1 vwCl [(o, .inl (g.2.1.2.2.1, 1, .inr (.inl (fun _ => 0))))] H := hP
    have hD : va_D A [(o, .inl (g.2.1.2.2.1, 1, .inr (.inl (fun _ => 0))))] := hD
    rcases hpx with rfl
    refine vx_catch (own := RL) (name := gIS) hown [] ⟨0, 8, 11, 21⟩ [] htab (fun z hz => absurd hz List.not_mem_nil) (by decide) (by decide) (hts (.classLink RL 21 gIS) (by decide +kernel)) (gCa.use hE.1.2.1.2.2) h7 h8 h9 ?_
    refine W.eq (g2 := F0 m 11 ls [.ref q9]) rfl ?_
    refine lv_astore_n (lv' := [(2, .ref q9), (0, .ref xx), (1, .ref o)]) hx hb dL_dropRule_11 rfl hl (by decide) rfl (fun ls hl => ?_)
    refine lv_iconst (v := 1) hx hb dL_dropRule_12 (by decide) ?_
    exact g_ir hx hb hr hlocks hP hD hS (fun _ => 0) [0] rfl (by decide) rfl dL_dropRule_13 (Nat.le_of_ble_eq_true rfl) (Nat.le_of_ble_eq_true rfl) (rfl)
  exact False.elim (hp1)
set_option maxHeartbeats 4000000 in
set_option maxRecDepth 100000 in
theorem c_L_dropDefault (l : Launch) (hst : l.stackTraces = false) (g : gG) (sz : Nat) (xx : Nat) (a : Nat → Nat) (o : Nat) : gMi l yL_dropDefault wsL_dropDefault ({ frames := 7, cells := 1, slots := 6, locals := 102 } : Room) g [.ref xx, .ref o] [(xx, .inr (1, [.int 0, .int 0, .ref (a 2), .ref (a 3), .int 0, .ref (a 5), .ref (a 6), .ref (a 7), .ref (a 8), .ref (a 9), .int 0, .ref (a 11), .ref (a 12), .ref (a 13), .ref (a 14), .int 0, .int 0, .ref (a 17), .int 0, .int 0])), (o, .inl (g.2.1.2.2.1, 1, .inr (.inl (fun _ => 0))))] sz (fun (r : Int32) (u : (Nat → Int64)) => r = 1) (fun (u : (Nat → Int64)) => [(o, .inl (g.2.1.2.2.1, 1, .inr (.inl u)))]) 1 6 := by
  refine gh_of (l := l) (y := yL_dropDefault) (wy := wsL_dropDefault) (rm := ({ frames := 7, cells := 1, slots := 6, locals := 102 } : Room)) (g := g) (av := [.ref xx, .ref o]) (ws := [(xx, .inr (1, [.int 0, .int 0, .ref (a 2), .ref (a 3), .int 0, .ref (a 5), .ref (a 6), .ref (a 7), .ref (a 8), .ref (a 9), .int 0, .ref (a 11), .ref (a 12), .ref (a 13), .ref (a 14), .int 0, .int 0, .ref (a 17), .int 0, .int 0])), (o, .inl (g.2.1.2.2.1, 1, .inr (.inl (fun _ => 0))))]) (sz := sz) (mc := 1) (ms := 6) (Qc := fun A => va_Qi (fun (r : Int32) (u : (Nat → Int64)) => r = 1) (fun u t9 => gPost g A ((fun (u : (Nat → Int64)) => [(o, .inl (g.2.1.2.2.1, 1, .inr (.inl u)))]) u) t9) A) (cc := cL_dropDefault) (maxL := 3) (ret := some .int) (by decide) rfl (Nat.le_of_ble_eq_true rfl) ?_
  intro p e s m below meth c A ls hx hb hr hml hown hts hlocks htab hA hK hE hP hD hS hl
  have hl : lv_has ls 3 [(0, .ref xx), (1, .ref o)] := hl
  have hown : s.vm.findClass RL = some m.cls := hown
  have hP : va_P g.1 vwCl [(xx, .inr (1, [.int 0, .int 0, .ref (a 2), .ref (a 3), .int 0, .ref (a 5), .ref (a 6), .ref (a 7), .ref (a 8), .ref (a 9), .int 0, .ref (a 11), .ref (a 12), .ref (a 13), .ref (a 14), .int 0, .int 0, .ref (a 17), .int 0, .int 0])), (o, .inl (g.2.1.2.2.1, 1, .inr (.inl (fun _ => 0))))] s.heap := hP
  refine lv_aload_n hx hb dL_dropDefault_0 rfl (lv_at hl 1 rfl) ?_
  refine lv_iconst (v := 0) hx hb dL_dropDefault_1 (by decide) ?_
  refine lv_aload_n hx hb dL_dropDefault_2 rfl (lv_at hl 0 rfl) ?_
  refine gxj_i (wc := [(xx, .inr (1, [.int 0, .int 0, .ref (a 2), .ref (a 3), .int 0, .ref (a 5), .ref (a 6), .ref (a 7), .ref (a 8), .ref (a 9), .int 0, .ref (a 11), .ref (a 12), .ref (a 13), .ref (a 14), .int 0, .int 0, .ref (a 17), .int 0, .int 0]))]) (wr := [(o, .inl (g.2.1.2.2.1, 1, .inr (.inl (fun _ => 0))))]) (gxr_V (n := 0) ⟨hx, hb, hml, hown, hts⟩ (c_X1_dropDefault l hst g s.heap.size xx a) gL_dropDefault_X1_dropDefault rfl rfl rfl (by decide +kernel) ⟨Nat.le_of_ble_eq_true rfl, Nat.le_of_ble_eq_true rfl⟩ (gp_V hK hE hA hP hD hS [0] rfl (by decide) rfl (q0 := 0) rfl rfl) rfl hl.1 rfl (Nat.le_of_ble_eq_true rfl) dL_dropDefault_3 ⟨Nat.le_of_ble_eq_true rfl, Nat.le_of_ble_eq_true rfl⟩) hP hD hS hA [0] [1] rfl rfl (by decide) (by decide) (fun E ce q9 H locs hpx hP hD hS h7 h8 h9 => ?_) (fun r1 u1 H locs hp1 hP hD hS => ?_)
  · have hP : va_P g.1 vwCl [(o, .inl (g.2.1.2.2.1, 1, .inr (.inl (fun _ => 0))))] H := hP
    have hD : va_D A [(o, .inl (g.2.1.2.2.1, 1, .inr (.inl (fun _ => 0))))] := hD
    rcases hpx with rfl
    refine vx_catch (own := RL) (name := gIS) hown [] ⟨0, 8, 11, 21⟩ [] htab (fun z hz => absurd hz List.not_mem_nil) (by decide) (by decide) (hts (.classLink RL 21 gIS) (by decide +kernel)) (gCa.use hE.1.2.1.2.2) h7 h8 h9 ?_
    refine W.eq (g2 := F0 m 11 ls [.ref q9]) rfl ?_
    refine lv_astore_n (lv' := [(2, .ref q9), (0, .ref xx), (1, .ref o)]) hx hb dL_dropDefault_11 rfl hl (by decide) rfl (fun ls hl => ?_)
    refine lv_iconst (v := 1) hx hb dL_dropDefault_12 (by decide) ?_
    exact g_ir hx hb hr hlocks hP hD hS (fun _ => 0) [0] rfl (by decide) rfl dL_dropDefault_13 (Nat.le_of_ble_eq_true rfl) (Nat.le_of_ble_eq_true rfl) (rfl)
  exact False.elim (hp1)
set_option maxHeartbeats 4000000 in
set_option maxRecDepth 100000 in
theorem c_L_prefer (l : Launch) (hst : l.stackTraces = false) (g : gG) (sz : Nat) (xx : Nat) (a : Nat → Nat) (o : Nat) (x y : Int32) : gMi l yL_prefer wsL_prefer ({ frames := 8, cells := 1, slots := 6, locals := 126 } : Room) g [.ref xx, .int x, .int y, .ref o] [(xx, .inr (1, [.int 0, .int 0, .ref (a 2), .ref (a 3), .int 0, .ref (a 5), .ref (a 6), .ref (a 7), .ref (a 8), .ref (a 9), .int 0, .ref (a 11), .ref (a 12), .ref (a 13), .ref (a 14), .int 0, .int 0, .ref (a 17), .int 0, .int 0])), (o, .inl (g.2.1.2.2.1, 1, .inr (.inl (fun _ => 0))))] sz (fun (r : Int32) (u : (Nat → Int64)) => r = 1) (fun (u : (Nat → Int64)) => [(o, .inl (g.2.1.2.2.1, 1, .inr (.inl u)))]) 1 6 := by
  refine gh_of (l := l) (y := yL_prefer) (wy := wsL_prefer) (rm := ({ frames := 8, cells := 1, slots := 6, locals := 126 } : Room)) (g := g) (av := [.ref xx, .int x, .int y, .ref o]) (ws := [(xx, .inr (1, [.int 0, .int 0, .ref (a 2), .ref (a 3), .int 0, .ref (a 5), .ref (a 6), .ref (a 7), .ref (a 8), .ref (a 9), .int 0, .ref (a 11), .ref (a 12), .ref (a 13), .ref (a 14), .int 0, .int 0, .ref (a 17), .int 0, .int 0])), (o, .inl (g.2.1.2.2.1, 1, .inr (.inl (fun _ => 0))))]) (sz := sz) (mc := 1) (ms := 6) (Qc := fun A => va_Qi (fun (r : Int32) (u : (Nat → Int64)) => r = 1) (fun u t9 => gPost g A ((fun (u : (Nat → Int64)) => [(o, .inl (g.2.1.2.2.1, 1, .inr (.inl u)))]) u) t9) A) (cc := cL_prefer) (maxL := 5) (ret := some .int) (by decide) rfl (Nat.le_of_ble_eq_true rfl) ?_
  intro p e s m below meth c A ls hx hb hr hml hown hts hlocks htab hA hK hE hP hD hS hl
  have hl : lv_has ls 5 [(0, .ref xx), (1, .int x), (2, .int y), (3, .ref o)] := hl
  have hown : s.vm.findClass RL = some m.cls := hown
  have hP : va_P g.1 vwCl [(xx, .inr (1, [.int 0, .int 0, .ref (a 2), .ref (a 3), .int 0, .ref (a 5), .ref (a 6), .ref (a 7), .ref (a 8), .ref (a 9), .int 0, .ref (a 11), .ref (a 12), .ref (a 13), .ref (a 14), .int 0, .int 0, .ref (a 17), .int 0, .int 0])), (o, .inl (g.2.1.2.2.1, 1, .inr (.inl (fun _ => 0))))] s.heap := hP
  refine lv_aload_n hx hb dL_prefer_0 rfl (lv_at hl 3 rfl) ?_
  refine lv_iconst (v := 0) hx hb dL_prefer_1 (by decide) ?_
  refine lv_aload_n hx hb dL_prefer_2 rfl (lv_at hl 0 rfl) ?_
  refine lv_iload_n hx hb dL_prefer_3 rfl (lv_at hl 1 rfl) ?_
  refine lv_iload_n hx hb dL_prefer_4 rfl (lv_at hl 2 rfl) ?_
  refine gxj_i (wc := [(xx, .inr (1, [.int 0, .int 0, .ref (a 2), .ref (a 3), .int 0, .ref (a 5), .ref (a 6), .ref (a 7), .ref (a 8), .ref (a 9), .int 0, .ref (a 11), .ref (a 12), .ref (a 13), .ref (a 14), .int 0, .int 0, .ref (a 17), .int 0, .int 0]))]) (wr := [(o, .inl (g.2.1.2.2.1, 1, .inr (.inl (fun _ => 0))))]) (gxr_V (n := 2) ⟨hx, hb, hml, hown, hts⟩ (c_X1_prefer l hst g s.heap.size xx a x y) gL_prefer_X1_prefer rfl rfl rfl (by decide +kernel) ⟨Nat.le_of_ble_eq_true rfl, Nat.le_of_ble_eq_true rfl⟩ (gp_V hK hE hA hP hD hS [0] rfl (by decide) rfl (q0 := 0) rfl rfl) rfl hl.1 rfl (Nat.le_of_ble_eq_true rfl) dL_prefer_5 ⟨Nat.le_of_ble_eq_true rfl, Nat.le_of_ble_eq_true rfl⟩) hP hD hS hA [0] [1] rfl rfl (by decide) (by decide) (fun E ce q9 H locs hpx hP hD hS h7 h8 h9 => ?_) (fun r1 u1 H locs hp1 hP hD hS => ?_)
  · have hP : va_P g.1 vwCl [(o, .inl (g.2.1.2.2.1, 1, .inr (.inl (fun _ => 0))))] H := hP
    have hD : va_D A [(o, .inl (g.2.1.2.2.1, 1, .inr (.inl (fun _ => 0))))] := hD
    rcases hpx with rfl
    refine vx_catch (own := RL) (name := gIO) hown [] ⟨0, 17, 20, 13⟩ [⟨0, 17, 24, 19⟩] htab (fun z hz => absurd hz List.not_mem_nil) (by decide) (by decide) (hts (.classLink RL 13 gIO) (by decide +kernel)) (gCa.use hE.1.2.1.1) h7 h8 h9 ?_
    refine W.eq (g2 := F0 m 20 ls [.ref q9]) rfl ?_
    refine lv_astore (lv' := [(4, .ref q9), (0, .ref xx), (1, .int x), (2, .int y), (3, .ref o)]) hx hb dL_prefer_20 hl (by decide) rfl (fun ls hl => ?_)
    refine lv_iconst (v := 1) hx hb dL_prefer_22 (by decide) ?_
    exact g_ir hx hb hr hlocks hP hD hS (fun _ => 0) [0] rfl (by decide) rfl dL_prefer_23 (Nat.le_of_ble_eq_true rfl) (Nat.le_of_ble_eq_true rfl) (rfl)
  exact False.elim (hp1)
set_option maxHeartbeats 4000000 in
set_option maxRecDepth 100000 in
theorem c_L_isBefore (l : Launch) (hst : l.stackTraces = false) (g : gG) (sz : Nat) (xx : Nat) (a : Nat → Nat) (o : Nat) (x y : Int32) : gMi l yL_isBefore wsL_isBefore ({ frames := 8, cells := 1, slots := 6, locals := 125 } : Room) g [.ref xx, .int x, .int y, .ref o] [(xx, .inr (1, [.int 0, .int 0, .ref (a 2), .ref (a 3), .int 0, .ref (a 5), .ref (a 6), .ref (a 7), .ref (a 8), .ref (a 9), .int 0, .ref (a 11), .ref (a 12), .ref (a 13), .ref (a 14), .int 0, .int 0, .ref (a 17), .int 0, .int 0])), (o, .inl (g.2.1.2.2.1, 1, .inr (.inl (fun _ => 0))))] sz (fun (r : Int32) (u : (Nat → Int64)) => r = 1) (fun (u : (Nat → Int64)) => [(o, .inl (g.2.1.2.2.1, 1, .inr (.inl u)))]) 1 6 := by
  refine gh_of (l := l) (y := yL_isBefore) (wy := wsL_isBefore) (rm := ({ frames := 8, cells := 1, slots := 6, locals := 125 } : Room)) (g := g) (av := [.ref xx, .int x, .int y, .ref o]) (ws := [(xx, .inr (1, [.int 0, .int 0, .ref (a 2), .ref (a 3), .int 0, .ref (a 5), .ref (a 6), .ref (a 7), .ref (a 8), .ref (a 9), .int 0, .ref (a 11), .ref (a 12), .ref (a 13), .ref (a 14), .int 0, .int 0, .ref (a 17), .int 0, .int 0])), (o, .inl (g.2.1.2.2.1, 1, .inr (.inl (fun _ => 0))))]) (sz := sz) (mc := 1) (ms := 6) (Qc := fun A => va_Qi (fun (r : Int32) (u : (Nat → Int64)) => r = 1) (fun u t9 => gPost g A ((fun (u : (Nat → Int64)) => [(o, .inl (g.2.1.2.2.1, 1, .inr (.inl u)))]) u) t9) A) (cc := cL_isBefore) (maxL := 5) (ret := some .int) (by decide) rfl (Nat.le_of_ble_eq_true rfl) ?_
  intro p e s m below meth c A ls hx hb hr hml hown hts hlocks htab hA hK hE hP hD hS hl
  have hl : lv_has ls 5 [(0, .ref xx), (1, .int x), (2, .int y), (3, .ref o)] := hl
  have hown : s.vm.findClass RL = some m.cls := hown
  have hP : va_P g.1 vwCl [(xx, .inr (1, [.int 0, .int 0, .ref (a 2), .ref (a 3), .int 0, .ref (a 5), .ref (a 6), .ref (a 7), .ref (a 8), .ref (a 9), .int 0, .ref (a 11), .ref (a 12), .ref (a 13), .ref (a 14), .int 0, .int 0, .ref (a 17), .int 0, .int 0])), (o, .inl (g.2.1.2.2.1, 1, .inr (.inl (fun _ => 0))))] s.heap := hP
  refine lv_aload_n hx hb dL_isBefore_0 rfl (lv_at hl 3 rfl) ?_
  refine lv_iconst (v := 0) hx hb dL_isBefore_1 (by decide) ?_
  refine lv_aload_n hx hb dL_isBefore_2 rfl (lv_at hl 0 rfl) ?_
  refine lv_iload_n hx hb dL_isBefore_3 rfl (lv_at hl 1 rfl) ?_
  refine lv_iload_n hx hb dL_isBefore_4 rfl (lv_at hl 2 rfl) ?_
  refine gxj_i (wc := [(xx, .inr (1, [.int 0, .int 0, .ref (a 2), .ref (a 3), .int 0, .ref (a 5), .ref (a 6), .ref (a 7), .ref (a 8), .ref (a 9), .int 0, .ref (a 11), .ref (a 12), .ref (a 13), .ref (a 14), .int 0, .int 0, .ref (a 17), .int 0, .int 0]))]) (wr := [(o, .inl (g.2.1.2.2.1, 1, .inr (.inl (fun _ => 0))))]) (gxr_V (n := 2) ⟨hx, hb, hml, hown, hts⟩ (c_X1_isBefore l hst g s.heap.size xx a x y) gL_isBefore_X1_isBefore rfl rfl rfl (by decide +kernel) ⟨Nat.le_of_ble_eq_true rfl, Nat.le_of_ble_eq_true rfl⟩ (gp_V hK hE hA hP hD hS [0] rfl (by decide) rfl (q0 := 0) rfl rfl) rfl hl.1 rfl (Nat.le_of_ble_eq_true rfl) dL_isBefore_5 ⟨Nat.le_of_ble_eq_true rfl, Nat.le_of_ble_eq_true rfl⟩) hP hD hS hA [0] [1] rfl rfl (by decide) (by decide) (fun E ce q9 H locs hpx hP hD hS h7 h8 h9 => ?_) (fun r1 u1 H locs hp1 hP hD hS => ?_)
  · have hP : va_P g.1 vwCl [(o, .inl (g.2.1.2.2.1, 1, .inr (.inl (fun _ => 0))))] H := hP
    have hD : va_D A [(o, .inl (g.2.1.2.2.1, 1, .inr (.inl (fun _ => 0))))] := hD
    rcases hpx with rfl
    refine vx_catch (own := RL) (name := gIO) hown [] ⟨0, 17, 20, 13⟩ [] htab (fun z hz => absurd hz List.not_mem_nil) (by decide) (by decide) (hts (.classLink RL 13 gIO) (by decide +kernel)) (gCa.use hE.1.2.1.1) h7 h8 h9 ?_
    refine W.eq (g2 := F0 m 20 ls [.ref q9]) rfl ?_
    refine lv_astore (lv' := [(4, .ref q9), (0, .ref xx), (1, .int x), (2, .int y), (3, .ref o)]) hx hb dL_isBefore_20 hl (by decide) rfl (fun ls hl => ?_)
    refine lv_iconst (v := 1) hx hb dL_isBefore_22 (by decide) ?_
    exact g_ir hx hb hr hlocks hP hD hS (fun _ => 0) [0] rfl (by decide) rfl dL_isBefore_23 (Nat.le_of_ble_eq_true rfl) (Nat.le_of_ble_eq_true rfl) (rfl)
  exact False.elim (hp1)
set_option maxHeartbeats 4000000 in
set_option maxRecDepth 100000 in
theorem c_L_closure (l : Launch) (hst : l.stackTraces = false) (g : gG) (sz : Nat) (xx : Nat) (a : Nat → Nat) (o : Nat) (x : Int32) : gMi l yL_closure wsL_closure ({ frames := 8, cells := 1, slots := 6, locals := 123 } : Room) g [.ref xx, .int x, .ref o] [(xx, .inr (1, [.int 0, .int 0, .ref (a 2), .ref (a 3), .int 0, .ref (a 5), .ref (a 6), .ref (a 7), .ref (a 8), .ref (a 9), .int 0, .ref (a 11), .ref (a 12), .ref (a 13), .ref (a 14), .int 0, .int 0, .ref (a 17), .int 0, .int 0])), (o, .inl (g.2.1.2.2.1, 1, .inr (.inl (fun _ => 0))))] sz (fun (r : Int32) (u : (Nat → Int64)) => r = 0 ∧ gSet x ∧ u 0 = (gClo x).toInt64 ∨ r = 1 ∧ ¬ gSet x) (fun (u : (Nat → Int64)) => [(o, .inl (g.2.1.2.2.1, 1, .inr (.inl u)))]) 1 6 := by
  refine gh_of (l := l) (y := yL_closure) (wy := wsL_closure) (rm := ({ frames := 8, cells := 1, slots := 6, locals := 123 } : Room)) (g := g) (av := [.ref xx, .int x, .ref o]) (ws := [(xx, .inr (1, [.int 0, .int 0, .ref (a 2), .ref (a 3), .int 0, .ref (a 5), .ref (a 6), .ref (a 7), .ref (a 8), .ref (a 9), .int 0, .ref (a 11), .ref (a 12), .ref (a 13), .ref (a 14), .int 0, .int 0, .ref (a 17), .int 0, .int 0])), (o, .inl (g.2.1.2.2.1, 1, .inr (.inl (fun _ => 0))))]) (sz := sz) (mc := 1) (ms := 6) (Qc := fun A => va_Qi (fun (r : Int32) (u : (Nat → Int64)) => r = 0 ∧ gSet x ∧ u 0 = (gClo x).toInt64 ∨ r = 1 ∧ ¬ gSet x) (fun u t9 => gPost g A ((fun (u : (Nat → Int64)) => [(o, .inl (g.2.1.2.2.1, 1, .inr (.inl u)))]) u) t9) A) (cc := cL_closure) (maxL := 4) (ret := some .int) (by decide) rfl (Nat.le_of_ble_eq_true rfl) ?_
  intro p e s m below meth c A ls hx hb hr hml hown hts hlocks htab hA hK hE hP hD hS hl
  have hl : lv_has ls 4 [(0, .ref xx), (1, .int x), (2, .ref o)] := hl
  have hown : s.vm.findClass RL = some m.cls := hown
  have hP : va_P g.1 vwCl [(xx, .inr (1, [.int 0, .int 0, .ref (a 2), .ref (a 3), .int 0, .ref (a 5), .ref (a 6), .ref (a 7), .ref (a 8), .ref (a 9), .int 0, .ref (a 11), .ref (a 12), .ref (a 13), .ref (a 14), .int 0, .int 0, .ref (a 17), .int 0, .int 0])), (o, .inl (g.2.1.2.2.1, 1, .inr (.inl (fun _ => 0))))] s.heap := hP
  refine lv_aload_n hx hb dL_closure_0 rfl (lv_at hl 2 rfl) ?_
  refine lv_iconst (v := 0) hx hb dL_closure_1 (by decide) ?_
  refine lv_aload_n hx hb dL_closure_2 rfl (lv_at hl 0 rfl) ?_
  refine lv_iload_n hx hb dL_closure_3 rfl (lv_at hl 1 rfl) ?_
  refine gxj_i (wc := [(xx, .inr (1, [.int 0, .int 0, .ref (a 2), .ref (a 3), .int 0, .ref (a 5), .ref (a 6), .ref (a 7), .ref (a 8), .ref (a 9), .int 0, .ref (a 11), .ref (a 12), .ref (a 13), .ref (a 14), .int 0, .int 0, .ref (a 17), .int 0, .int 0]))]) (wr := [(o, .inl (g.2.1.2.2.1, 1, .inr (.inl (fun _ => 0))))]) (gxr_V (n := 1) ⟨hx, hb, hml, hown, hts⟩ (c_X1_closure l hst g s.heap.size xx a x) gL_closure_X1_closure rfl rfl rfl (by decide +kernel) ⟨Nat.le_of_ble_eq_true rfl, Nat.le_of_ble_eq_true rfl⟩ (gp_V hK hE hA hP hD hS [0] rfl (by decide) rfl (q0 := 0) rfl rfl) rfl hl.1 rfl (Nat.le_of_ble_eq_true rfl) dL_closure_4 ⟨Nat.le_of_ble_eq_true rfl, Nat.le_of_ble_eq_true rfl⟩) hP hD hS hA [0] [1] rfl rfl (by decide) (by decide) (fun E ce q9 H locs hpx hP hD hS h7 h8 h9 => ?_) (fun r1 u1 H locs hp1 hP hD hS => ?_)
  · have hP : va_P g.1 vwCl [(o, .inl (g.2.1.2.2.1, 1, .inr (.inl (fun _ => 0))))] H := hP
    have hD : va_D A [(o, .inl (g.2.1.2.2.1, 1, .inr (.inl (fun _ => 0))))] := hD
    rcases hpx with ⟨rfl, hz⟩
    refine vx_catch (own := RL) (name := gIA) hown [] ⟨0, 9, 12, 19⟩ [] htab (fun z hz => absurd hz List.not_mem_nil) (by decide) (by decide) (hts (.classLink RL 19 gIA) (by decide +kernel)) (gCa.use hE.1.2.1.2.1) h7 h8 h9 ?_
    refine W.eq (g2 := F0 m 12 ls [.ref q9]) rfl ?_
    refine lv_astore_n (lv' := [(3, .ref q9), (0, .ref xx), (1, .int x), (2, .ref o)]) hx hb dL_closure_12 rfl hl (by decide) rfl (fun ls hl => ?_)
    refine lv_iconst (v := 1) hx hb dL_closure_13 (by decide) ?_
    exact g_ir hx hb hr hlocks hP hD hS (fun _ => 0) [0] rfl (by decide) rfl dL_closure_14 (Nat.le_of_ble_eq_true rfl) (Nat.le_of_ble_eq_true rfl) ((Or.inr (⟨rfl, hz⟩)))
  rcases hp1 with ⟨hq, rfl⟩
  have hP : va_P g.1 vwCl [(o, .inl (g.2.1.2.2.1, 1, .inr (.inl (fun _ => 0))))] H := hP
  have hD : va_D A [(o, .inl (g.2.1.2.2.1, 1, .inr (.inl (fun _ => 0))))] := hD
  refine lv_i2l (v := (gClo x).toInt64) hx hb dL_closure_7 rfl ?_
  refine va_last hx hb hK hP hD hS 0 2 rfl rfl (by unfold vp_in; decide) dL_closure_8 (fun H locs hP hD hS => ?_)
  have hP : va_P g.1 vwCl [(o, .inl (g.2.1.2.2.1, 1, .inr (.inl (vp_updL (fun _ => 0) 0 ((gClo x).toInt64)))))] H := hP
  have hD : va_D A [(o, .inl (g.2.1.2.2.1, 1, .inr (.inl (vp_updL (fun _ => 0) 0 ((gClo x).toInt64)))))] := hD
  refine lv_goto (tgt := 15) hx hb dL_closure_9 (by decide) ?_
  refine lv_iconst (v := 0) hx hb dL_closure_15 (by decide) ?_
  exact g_ir hx hb hr hlocks hP hD hS (vp_updL (fun _ => 0) 0 ((gClo x).toInt64)) [0] rfl (by decide) rfl dL_closure_16 (Nat.le_of_ble_eq_true rfl) (Nat.le_of_ble_eq_true rfl) ((Or.inl (⟨rfl, hq, rfl⟩)))
set_option maxHeartbeats 4000000 in
set_option maxRecDepth 100000 in
theorem c_L_isOpen (l : Launch) (hst : l.stackTraces = false) (g : gG) (sz : Nat) (xx : Nat) (a : Nat → Nat) (o : Nat) (x y : Int32) : gMi l yL_isOpen wsL_isOpen ({ frames := 8, cells := 1, slots := 6, locals := 125 } : Room) g [.ref xx, .int x, .int y, .ref o] [(xx, .inr (1, [.int 0, .int 0, .ref (a 2), .ref (a 3), .int 0, .ref (a 5), .ref (a 6), .ref (a 7), .ref (a 8), .ref (a 9), .int 0, .ref (a 11), .ref (a 12), .ref (a 13), .ref (a 14), .int 0, .int 0, .ref (a 17), .int 0, .int 0])), (o, .inl (g.2.1.2.2.1, 1, .inr (.inl (fun _ => 0))))] sz (fun (r : Int32) (u : (Nat → Int64)) => r = 1) (fun (u : (Nat → Int64)) => [(o, .inl (g.2.1.2.2.1, 1, .inr (.inl u)))]) 1 6 := by
  refine gh_of (l := l) (y := yL_isOpen) (wy := wsL_isOpen) (rm := ({ frames := 8, cells := 1, slots := 6, locals := 125 } : Room)) (g := g) (av := [.ref xx, .int x, .int y, .ref o]) (ws := [(xx, .inr (1, [.int 0, .int 0, .ref (a 2), .ref (a 3), .int 0, .ref (a 5), .ref (a 6), .ref (a 7), .ref (a 8), .ref (a 9), .int 0, .ref (a 11), .ref (a 12), .ref (a 13), .ref (a 14), .int 0, .int 0, .ref (a 17), .int 0, .int 0])), (o, .inl (g.2.1.2.2.1, 1, .inr (.inl (fun _ => 0))))]) (sz := sz) (mc := 1) (ms := 6) (Qc := fun A => va_Qi (fun (r : Int32) (u : (Nat → Int64)) => r = 1) (fun u t9 => gPost g A ((fun (u : (Nat → Int64)) => [(o, .inl (g.2.1.2.2.1, 1, .inr (.inl u)))]) u) t9) A) (cc := cL_isOpen) (maxL := 5) (ret := some .int) (by decide) rfl (Nat.le_of_ble_eq_true rfl) ?_
  intro p e s m below meth c A ls hx hb hr hml hown hts hlocks htab hA hK hE hP hD hS hl
  have hl : lv_has ls 5 [(0, .ref xx), (1, .int x), (2, .int y), (3, .ref o)] := hl
  have hown : s.vm.findClass RL = some m.cls := hown
  have hP : va_P g.1 vwCl [(xx, .inr (1, [.int 0, .int 0, .ref (a 2), .ref (a 3), .int 0, .ref (a 5), .ref (a 6), .ref (a 7), .ref (a 8), .ref (a 9), .int 0, .ref (a 11), .ref (a 12), .ref (a 13), .ref (a 14), .int 0, .int 0, .ref (a 17), .int 0, .int 0])), (o, .inl (g.2.1.2.2.1, 1, .inr (.inl (fun _ => 0))))] s.heap := hP
  refine lv_aload_n hx hb dL_isOpen_0 rfl (lv_at hl 3 rfl) ?_
  refine lv_iconst (v := 0) hx hb dL_isOpen_1 (by decide) ?_
  refine lv_aload_n hx hb dL_isOpen_2 rfl (lv_at hl 0 rfl) ?_
  refine lv_iload_n hx hb dL_isOpen_3 rfl (lv_at hl 1 rfl) ?_
  refine lv_iload_n hx hb dL_isOpen_4 rfl (lv_at hl 2 rfl) ?_
  refine gxj_i (wc := [(xx, .inr (1, [.int 0, .int 0, .ref (a 2), .ref (a 3), .int 0, .ref (a 5), .ref (a 6), .ref (a 7), .ref (a 8), .ref (a 9), .int 0, .ref (a 11), .ref (a 12), .ref (a 13), .ref (a 14), .int 0, .int 0, .ref (a 17), .int 0, .int 0]))]) (wr := [(o, .inl (g.2.1.2.2.1, 1, .inr (.inl (fun _ => 0))))]) (gxr_V (n := 2) ⟨hx, hb, hml, hown, hts⟩ (c_X1_isOpen l hst g s.heap.size xx a x y) gL_isOpen_X1_isOpen rfl rfl rfl (by decide +kernel) ⟨Nat.le_of_ble_eq_true rfl, Nat.le_of_ble_eq_true rfl⟩ (gp_V hK hE hA hP hD hS [0] rfl (by decide) rfl (q0 := 0) rfl rfl) rfl hl.1 rfl (Nat.le_of_ble_eq_true rfl) dL_isOpen_5 ⟨Nat.le_of_ble_eq_true rfl, Nat.le_of_ble_eq_true rfl⟩) hP hD hS hA [0] [1] rfl rfl (by decide) (by decide) (fun E ce q9 H locs hpx hP hD hS h7 h8 h9 => ?_) (fun r1 u1 H locs hp1 hP hD hS => ?_)
  · have hP : va_P g.1 vwCl [(o, .inl (g.2.1.2.2.1, 1, .inr (.inl (fun _ => 0))))] H := hP
    have hD : va_D A [(o, .inl (g.2.1.2.2.1, 1, .inr (.inl (fun _ => 0))))] := hD
    rcases hpx with rfl
    refine vx_catch (own := RL) (name := gIO) hown [] ⟨0, 17, 20, 13⟩ [⟨0, 17, 24, 19⟩] htab (fun z hz => absurd hz List.not_mem_nil) (by decide) (by decide) (hts (.classLink RL 13 gIO) (by decide +kernel)) (gCa.use hE.1.2.1.1) h7 h8 h9 ?_
    refine W.eq (g2 := F0 m 20 ls [.ref q9]) rfl ?_
    refine lv_astore (lv' := [(4, .ref q9), (0, .ref xx), (1, .int x), (2, .int y), (3, .ref o)]) hx hb dL_isOpen_20 hl (by decide) rfl (fun ls hl => ?_)
    refine lv_iconst (v := 1) hx hb dL_isOpen_22 (by decide) ?_
    exact g_ir hx hb hr hlocks hP hD hS (fun _ => 0) [0] rfl (by decide) rfl dL_isOpen_23 (Nat.le_of_ble_eq_true rfl) (Nat.le_of_ble_eq_true rfl) (rfl)
  exact False.elim (hp1)
set_option maxHeartbeats 4000000 in
set_option maxRecDepth 100000 in
theorem c_L_generatorsOf (l : Launch) (hst : l.stackTraces = false) (g : gG) (sz : Nat) (xx : Nat) (a : Nat → Nat) (o : Nat) (x : Int32) : gMi l yL_generatorsOf wsL_generatorsOf ({ frames := 8, cells := 1, slots := 6, locals := 123 } : Room) g [.ref xx, .int x, .ref o] [(xx, .inr (1, [.int 0, .int 0, .ref (a 2), .ref (a 3), .int 0, .ref (a 5), .ref (a 6), .ref (a 7), .ref (a 8), .ref (a 9), .int 0, .ref (a 11), .ref (a 12), .ref (a 13), .ref (a 14), .int 0, .int 0, .ref (a 17), .int 0, .int 0])), ((a 12), .inl (g.2.1.1, 64, .inl (fun _ => 0))), ((a 13), .inl (g.2.1.1, 64, .inl (fun _ => 0))), ((a 14), .inl (g.2.1.1, 64, .inl (fun _ => 0))), (o, .inl (g.2.1.2.2.1, 1, .inr (.inl (fun _ => 0))))] sz (fun (r : Int32) (u : (Nat → Int64)) => r = 0 ∧ gSet x ∧ u 0 = 0 ∨ r = 1 ∧ ¬ gSet x) (fun (u : (Nat → Int64)) => [(o, .inl (g.2.1.2.2.1, 1, .inr (.inl u)))]) 1 6 := by
  refine gh_of (l := l) (y := yL_generatorsOf) (wy := wsL_generatorsOf) (rm := ({ frames := 8, cells := 1, slots := 6, locals := 123 } : Room)) (g := g) (av := [.ref xx, .int x, .ref o]) (ws := [(xx, .inr (1, [.int 0, .int 0, .ref (a 2), .ref (a 3), .int 0, .ref (a 5), .ref (a 6), .ref (a 7), .ref (a 8), .ref (a 9), .int 0, .ref (a 11), .ref (a 12), .ref (a 13), .ref (a 14), .int 0, .int 0, .ref (a 17), .int 0, .int 0])), ((a 12), .inl (g.2.1.1, 64, .inl (fun _ => 0))), ((a 13), .inl (g.2.1.1, 64, .inl (fun _ => 0))), ((a 14), .inl (g.2.1.1, 64, .inl (fun _ => 0))), (o, .inl (g.2.1.2.2.1, 1, .inr (.inl (fun _ => 0))))]) (sz := sz) (mc := 1) (ms := 6) (Qc := fun A => va_Qi (fun (r : Int32) (u : (Nat → Int64)) => r = 0 ∧ gSet x ∧ u 0 = 0 ∨ r = 1 ∧ ¬ gSet x) (fun u t9 => gPost g A ((fun (u : (Nat → Int64)) => [(o, .inl (g.2.1.2.2.1, 1, .inr (.inl u)))]) u) t9) A) (cc := cL_generatorsOf) (maxL := 4) (ret := some .int) (by decide) rfl (Nat.le_of_ble_eq_true rfl) ?_
  intro p e s m below meth c A ls hx hb hr hml hown hts hlocks htab hA hK hE hP hD hS hl
  have hl : lv_has ls 4 [(0, .ref xx), (1, .int x), (2, .ref o)] := hl
  have hown : s.vm.findClass RL = some m.cls := hown
  have hP : va_P g.1 vwCl [(xx, .inr (1, [.int 0, .int 0, .ref (a 2), .ref (a 3), .int 0, .ref (a 5), .ref (a 6), .ref (a 7), .ref (a 8), .ref (a 9), .int 0, .ref (a 11), .ref (a 12), .ref (a 13), .ref (a 14), .int 0, .int 0, .ref (a 17), .int 0, .int 0])), ((a 12), .inl (g.2.1.1, 64, .inl (fun _ => 0))), ((a 13), .inl (g.2.1.1, 64, .inl (fun _ => 0))), ((a 14), .inl (g.2.1.1, 64, .inl (fun _ => 0))), (o, .inl (g.2.1.2.2.1, 1, .inr (.inl (fun _ => 0))))] s.heap := hP
  refine lv_aload_n hx hb dL_generatorsOf_0 rfl (lv_at hl 2 rfl) ?_
  refine lv_iconst (v := 0) hx hb dL_generatorsOf_1 (by decide) ?_
  refine lv_aload_n hx hb dL_generatorsOf_2 rfl (lv_at hl 0 rfl) ?_
  refine lv_iload_n hx hb dL_generatorsOf_3 rfl (lv_at hl 1 rfl) ?_
  refine gxj_i (wc := [(xx, .inr (1, [.int 0, .int 0, .ref (a 2), .ref (a 3), .int 0, .ref (a 5), .ref (a 6), .ref (a 7), .ref (a 8), .ref (a 9), .int 0, .ref (a 11), .ref (a 12), .ref (a 13), .ref (a 14), .int 0, .int 0, .ref (a 17), .int 0, .int 0])), ((a 12), .inl (g.2.1.1, 64, .inl (fun _ => 0))), ((a 13), .inl (g.2.1.1, 64, .inl (fun _ => 0))), ((a 14), .inl (g.2.1.1, 64, .inl (fun _ => 0)))]) (wr := [(o, .inl (g.2.1.2.2.1, 1, .inr (.inl (fun _ => 0))))]) (gxr_V (n := 1) ⟨hx, hb, hml, hown, hts⟩ (c_X1_generatorsOf l hst g s.heap.size xx a x) gL_generatorsOf_X1_generatorsOf rfl rfl rfl (by decide +kernel) ⟨Nat.le_of_ble_eq_true rfl, Nat.le_of_ble_eq_true rfl⟩ (gp_V hK hE hA hP hD hS [0, 1, 2, 3] rfl (by decide) rfl (q0 := 0) rfl rfl) rfl hl.1 rfl (Nat.le_of_ble_eq_true rfl) dL_generatorsOf_4 ⟨Nat.le_of_ble_eq_true rfl, Nat.le_of_ble_eq_true rfl⟩) hP hD hS hA [0, 1, 2, 3] [4] rfl rfl (by decide) (by decide) (fun E ce q9 H locs hpx hP hD hS h7 h8 h9 => ?_) (fun r1 u1 H locs hp1 hP hD hS => ?_)
  · have hP : va_P g.1 vwCl [(o, .inl (g.2.1.2.2.1, 1, .inr (.inl (fun _ => 0))))] H := hP
    have hD : va_D A [(o, .inl (g.2.1.2.2.1, 1, .inr (.inl (fun _ => 0))))] := hD
    rcases hpx with ⟨rfl, hz⟩
    refine vx_catch (own := RL) (name := gIA) hown [] ⟨0, 9, 12, 19⟩ [] htab (fun z hz => absurd hz List.not_mem_nil) (by decide) (by decide) (hts (.classLink RL 19 gIA) (by decide +kernel)) (gCa.use hE.1.2.1.2.1) h7 h8 h9 ?_
    refine W.eq (g2 := F0 m 12 ls [.ref q9]) rfl ?_
    refine lv_astore_n (lv' := [(3, .ref q9), (0, .ref xx), (1, .int x), (2, .ref o)]) hx hb dL_generatorsOf_12 rfl hl (by decide) rfl (fun ls hl => ?_)
    refine lv_iconst (v := 1) hx hb dL_generatorsOf_13 (by decide) ?_
    exact g_ir hx hb hr hlocks hP hD hS (fun _ => 0) [0] rfl (by decide) rfl dL_generatorsOf_14 (Nat.le_of_ble_eq_true rfl) (Nat.le_of_ble_eq_true rfl) ((Or.inr (⟨rfl, hz⟩)))
  rcases hp1 with ⟨hq, rfl⟩
  have hP : va_P g.1 vwCl [(o, .inl (g.2.1.2.2.1, 1, .inr (.inl (fun _ => 0))))] H := hP
  have hD : va_D A [(o, .inl (g.2.1.2.2.1, 1, .inr (.inl (fun _ => 0))))] := hD
  refine lv_i2l (v := 0) hx hb dL_generatorsOf_7 (by decide) ?_
  refine va_last hx hb hK hP hD hS 0 2 rfl rfl (by unfold vp_in; decide) dL_generatorsOf_8 (fun H locs hP hD hS => ?_)
  have hP : va_P g.1 vwCl [(o, .inl (g.2.1.2.2.1, 1, .inr (.inl (vp_updL (fun _ => 0) 0 0))))] H := hP
  have hD : va_D A [(o, .inl (g.2.1.2.2.1, 1, .inr (.inl (vp_updL (fun _ => 0) 0 0))))] := hD
  refine lv_goto (tgt := 15) hx hb dL_generatorsOf_9 (by decide) ?_
  refine lv_iconst (v := 0) hx hb dL_generatorsOf_15 (by decide) ?_
  exact g_ir hx hb hr hlocks hP hD hS (vp_updL (fun _ => 0) 0 0) [0] rfl (by decide) rfl dL_generatorsOf_16 (Nat.le_of_ble_eq_true rfl) (Nat.le_of_ble_eq_true rfl) ((Or.inl (⟨rfl, hq, rfl⟩)))
set_option maxHeartbeats 4000000 in
set_option maxRecDepth 100000 in
theorem c_L_isExtension (l : Launch) (hst : l.stackTraces = false) (g : gG) (sz : Nat) (xx : Nat) (a : Nat → Nat) (o : Nat) (x : Int32) : gMi l yL_isExtension wsL_isExtension ({ frames := 8, cells := 1, slots := 6, locals := 123 } : Room) g [.ref xx, .int x, .ref o] [(xx, .inr (1, [.int 0, .int 0, .ref (a 2), .ref (a 3), .int 0, .ref (a 5), .ref (a 6), .ref (a 7), .ref (a 8), .ref (a 9), .int 0, .ref (a 11), .ref (a 12), .ref (a 13), .ref (a 14), .int 0, .int 0, .ref (a 17), .int 0, .int 0])), ((a 12), .inl (g.2.1.1, 64, .inl (fun _ => 0))), ((a 13), .inl (g.2.1.1, 64, .inl (fun _ => 0))), ((a 14), .inl (g.2.1.1, 64, .inl (fun _ => 0))), (o, .inl (g.2.1.2.2.1, 1, .inr (.inl (fun _ => 0))))] sz (fun (r : Int32) (u : (Nat → Int64)) => r = 0 ∧ gSet x ∧ (u 0 = 1 ∧ 0 = x ∨ u 0 = 0 ∧ ¬ (0 : Int32) = x) ∨ r = 1 ∧ ¬ gSet x) (fun (u : (Nat → Int64)) => [(o, .inl (g.2.1.2.2.1, 1, .inr (.inl u)))]) 1 6 := by
  refine gh_of (l := l) (y := yL_isExtension) (wy := wsL_isExtension) (rm := ({ frames := 8, cells := 1, slots := 6, locals := 123 } : Room)) (g := g) (av := [.ref xx, .int x, .ref o]) (ws := [(xx, .inr (1, [.int 0, .int 0, .ref (a 2), .ref (a 3), .int 0, .ref (a 5), .ref (a 6), .ref (a 7), .ref (a 8), .ref (a 9), .int 0, .ref (a 11), .ref (a 12), .ref (a 13), .ref (a 14), .int 0, .int 0, .ref (a 17), .int 0, .int 0])), ((a 12), .inl (g.2.1.1, 64, .inl (fun _ => 0))), ((a 13), .inl (g.2.1.1, 64, .inl (fun _ => 0))), ((a 14), .inl (g.2.1.1, 64, .inl (fun _ => 0))), (o, .inl (g.2.1.2.2.1, 1, .inr (.inl (fun _ => 0))))]) (sz := sz) (mc := 1) (ms := 6) (Qc := fun A => va_Qi (fun (r : Int32) (u : (Nat → Int64)) => r = 0 ∧ gSet x ∧ (u 0 = 1 ∧ 0 = x ∨ u 0 = 0 ∧ ¬ (0 : Int32) = x) ∨ r = 1 ∧ ¬ gSet x) (fun u t9 => gPost g A ((fun (u : (Nat → Int64)) => [(o, .inl (g.2.1.2.2.1, 1, .inr (.inl u)))]) u) t9) A) (cc := cL_isExtension) (maxL := 4) (ret := some .int) (by decide) rfl (Nat.le_of_ble_eq_true rfl) ?_
  intro p e s m below meth c A ls hx hb hr hml hown hts hlocks htab hA hK hE hP hD hS hl
  have hl : lv_has ls 4 [(0, .ref xx), (1, .int x), (2, .ref o)] := hl
  have hown : s.vm.findClass RL = some m.cls := hown
  have hP : va_P g.1 vwCl [(xx, .inr (1, [.int 0, .int 0, .ref (a 2), .ref (a 3), .int 0, .ref (a 5), .ref (a 6), .ref (a 7), .ref (a 8), .ref (a 9), .int 0, .ref (a 11), .ref (a 12), .ref (a 13), .ref (a 14), .int 0, .int 0, .ref (a 17), .int 0, .int 0])), ((a 12), .inl (g.2.1.1, 64, .inl (fun _ => 0))), ((a 13), .inl (g.2.1.1, 64, .inl (fun _ => 0))), ((a 14), .inl (g.2.1.1, 64, .inl (fun _ => 0))), (o, .inl (g.2.1.2.2.1, 1, .inr (.inl (fun _ => 0))))] s.heap := hP
  refine lv_aload_n hx hb dL_isExtension_0 rfl (lv_at hl 2 rfl) ?_
  refine lv_iconst (v := 0) hx hb dL_isExtension_1 (by decide) ?_
  refine lv_aload_n hx hb dL_isExtension_2 rfl (lv_at hl 0 rfl) ?_
  refine lv_iload_n hx hb dL_isExtension_3 rfl (lv_at hl 1 rfl) ?_
  refine gxj_i (wc := [(xx, .inr (1, [.int 0, .int 0, .ref (a 2), .ref (a 3), .int 0, .ref (a 5), .ref (a 6), .ref (a 7), .ref (a 8), .ref (a 9), .int 0, .ref (a 11), .ref (a 12), .ref (a 13), .ref (a 14), .int 0, .int 0, .ref (a 17), .int 0, .int 0])), ((a 12), .inl (g.2.1.1, 64, .inl (fun _ => 0))), ((a 13), .inl (g.2.1.1, 64, .inl (fun _ => 0))), ((a 14), .inl (g.2.1.1, 64, .inl (fun _ => 0)))]) (wr := [(o, .inl (g.2.1.2.2.1, 1, .inr (.inl (fun _ => 0))))]) (gxr_V (n := 1) ⟨hx, hb, hml, hown, hts⟩ (c_X1_isExtension l hst g s.heap.size xx a x) gL_isExtension_X1_isExtension rfl rfl rfl (by decide +kernel) ⟨Nat.le_of_ble_eq_true rfl, Nat.le_of_ble_eq_true rfl⟩ (gp_V hK hE hA hP hD hS [0, 1, 2, 3] rfl (by decide) rfl (q0 := 0) rfl rfl) rfl hl.1 rfl (Nat.le_of_ble_eq_true rfl) dL_isExtension_4 ⟨Nat.le_of_ble_eq_true rfl, Nat.le_of_ble_eq_true rfl⟩) hP hD hS hA [0, 1, 2, 3] [4] rfl rfl (by decide) (by decide) (fun E ce q9 H locs hpx hP hD hS h7 h8 h9 => ?_) (fun r1 u1 H locs hp1 hP hD hS => ?_)
  · have hP : va_P g.1 vwCl [(o, .inl (g.2.1.2.2.1, 1, .inr (.inl (fun _ => 0))))] H := hP
    have hD : va_D A [(o, .inl (g.2.1.2.2.1, 1, .inr (.inl (fun _ => 0))))] := hD
    rcases hpx with ⟨rfl, hz⟩
    refine vx_catch (own := RL) (name := gIA) hown [] ⟨0, 16, 19, 19⟩ [] htab (fun z hz => absurd hz List.not_mem_nil) (by decide) (by decide) (hts (.classLink RL 19 gIA) (by decide +kernel)) (gCa.use hE.1.2.1.2.1) h7 h8 h9 ?_
    refine W.eq (g2 := F0 m 19 ls [.ref q9]) rfl ?_
    refine lv_astore_n (lv' := [(3, .ref q9), (0, .ref xx), (1, .int x), (2, .ref o)]) hx hb dL_isExtension_19 rfl hl (by decide) rfl (fun ls hl => ?_)
    refine lv_iconst (v := 1) hx hb dL_isExtension_20 (by decide) ?_
    exact g_ir hx hb hr hlocks hP hD hS (fun _ => 0) [0] rfl (by decide) rfl dL_isExtension_21 (Nat.le_of_ble_eq_true rfl) (Nat.le_of_ble_eq_true rfl) ((Or.inr (⟨rfl, hz⟩)))
  rcases hp1 with ⟨hq, ⟨rfl, hz⟩ | ⟨rfl, hz⟩⟩
  · have hP : va_P g.1 vwCl [(o, .inl (g.2.1.2.2.1, 1, .inr (.inl (fun _ => 0))))] H := hP
    have hD : va_D A [(o, .inl (g.2.1.2.2.1, 1, .inr (.inl (fun _ => 0))))] := hD
    refine lv_if_eq (tgt := 14) hx hb dL_isExtension_7 (by decide) (fun c9 => absurd c9 (by decide)) (fun _ => ?_)
    refine lv_lconst (v := 1) hx hb dL_isExtension_10 (by decide) ?_
    refine lv_goto (tgt := 15) hx hb dL_isExtension_11 (by decide) ?_
    refine va_last hx hb hK hP hD hS 0 2 rfl rfl (by unfold vp_in; decide) dL_isExtension_15 (fun H locs hP hD hS => ?_)
    have hP : va_P g.1 vwCl [(o, .inl (g.2.1.2.2.1, 1, .inr (.inl (vp_updL (fun _ => 0) 0 1))))] H := hP
    have hD : va_D A [(o, .inl (g.2.1.2.2.1, 1, .inr (.inl (vp_updL (fun _ => 0) 0 1))))] := hD
    refine lv_goto (tgt := 22) hx hb dL_isExtension_16 (by decide) ?_
    refine lv_iconst (v := 0) hx hb dL_isExtension_22 (by decide) ?_
    exact g_ir hx hb hr hlocks hP hD hS (vp_updL (fun _ => 0) 0 1) [0] rfl (by decide) rfl dL_isExtension_23 (Nat.le_of_ble_eq_true rfl) (Nat.le_of_ble_eq_true rfl) ((Or.inl (⟨rfl, hq, Or.inl ⟨rfl, hz⟩⟩)))
  · have hP : va_P g.1 vwCl [(o, .inl (g.2.1.2.2.1, 1, .inr (.inl (fun _ => 0))))] H := hP
    have hD : va_D A [(o, .inl (g.2.1.2.2.1, 1, .inr (.inl (fun _ => 0))))] := hD
    refine lv_if_eq (tgt := 14) hx hb dL_isExtension_7 (by decide) (fun _ => ?_) (fun c9 => absurd (by decide) c9)
    refine lv_lconst (v := 0) hx hb dL_isExtension_14 (by decide) ?_
    refine va_last hx hb hK hP hD hS 0 2 rfl rfl (by unfold vp_in; decide) dL_isExtension_15 (fun H locs hP hD hS => ?_)
    have hP : va_P g.1 vwCl [(o, .inl (g.2.1.2.2.1, 1, .inr (.inl (vp_updL (fun _ => 0) 0 0))))] H := hP
    have hD : va_D A [(o, .inl (g.2.1.2.2.1, 1, .inr (.inl (vp_updL (fun _ => 0) 0 0))))] := hD
    refine lv_goto (tgt := 22) hx hb dL_isExtension_16 (by decide) ?_
    refine lv_iconst (v := 0) hx hb dL_isExtension_22 (by decide) ?_
    exact g_ir hx hb hr hlocks hP hD hS (vp_updL (fun _ => 0) 0 0) [0] rfl (by decide) rfl dL_isExtension_23 (Nat.le_of_ble_eq_true rfl) (Nat.le_of_ble_eq_true rfl) ((Or.inl (⟨rfl, hq, Or.inr ⟨rfl, hz⟩⟩)))
set_option maxHeartbeats 4000000 in
set_option maxRecDepth 100000 in
theorem c_L_extension (l : Launch) (hst : l.stackTraces = false) (g : gG) (sz : Nat) (xx : Nat) (a : Nat → Nat) (o : Nat) (x : Int32) : gMi l yL_extension wsL_extension ({ frames := 8, cells := 1, slots := 6, locals := 124 } : Room) g [.ref xx, .int x, .ref o] [(xx, .inr (1, [.int 0, .int 0, .ref (a 2), .ref (a 3), .int 0, .ref (a 5), .ref (a 6), .ref (a 7), .ref (a 8), .ref (a 9), .int 0, .ref (a 11), .ref (a 12), .ref (a 13), .ref (a 14), .int 0, .int 0, .ref (a 17), .int 0, .int 0])), ((a 12), .inl (g.2.1.1, 64, .inl (fun _ => 0))), ((a 13), .inl (g.2.1.1, 64, .inl (fun _ => 0))), ((a 14), .inl (g.2.1.1, 64, .inl (fun _ => 0))), (o, .inl (g.2.1.2.2.1, 1, .inr (.inl (fun _ => 0))))] sz (fun (r : Int32) (u : (Nat → Int64)) => r = 0 ∧ gNil x ∧ u 0 = 0 ∨ r = 1 ∧ ¬ gNil x) (fun (u : (Nat → Int64)) => [(o, .inl (g.2.1.2.2.1, 1, .inr (.inl u)))]) 1 6 := by
  refine gh_of (l := l) (y := yL_extension) (wy := wsL_extension) (rm := ({ frames := 8, cells := 1, slots := 6, locals := 124 } : Room)) (g := g) (av := [.ref xx, .int x, .ref o]) (ws := [(xx, .inr (1, [.int 0, .int 0, .ref (a 2), .ref (a 3), .int 0, .ref (a 5), .ref (a 6), .ref (a 7), .ref (a 8), .ref (a 9), .int 0, .ref (a 11), .ref (a 12), .ref (a 13), .ref (a 14), .int 0, .int 0, .ref (a 17), .int 0, .int 0])), ((a 12), .inl (g.2.1.1, 64, .inl (fun _ => 0))), ((a 13), .inl (g.2.1.1, 64, .inl (fun _ => 0))), ((a 14), .inl (g.2.1.1, 64, .inl (fun _ => 0))), (o, .inl (g.2.1.2.2.1, 1, .inr (.inl (fun _ => 0))))]) (sz := sz) (mc := 1) (ms := 6) (Qc := fun A => va_Qi (fun (r : Int32) (u : (Nat → Int64)) => r = 0 ∧ gNil x ∧ u 0 = 0 ∨ r = 1 ∧ ¬ gNil x) (fun u t9 => gPost g A ((fun (u : (Nat → Int64)) => [(o, .inl (g.2.1.2.2.1, 1, .inr (.inl u)))]) u) t9) A) (cc := cL_extension) (maxL := 4) (ret := some .int) (by decide) rfl (Nat.le_of_ble_eq_true rfl) ?_
  intro p e s m below meth c A ls hx hb hr hml hown hts hlocks htab hA hK hE hP hD hS hl
  have hl : lv_has ls 4 [(0, .ref xx), (1, .int x), (2, .ref o)] := hl
  have hown : s.vm.findClass RL = some m.cls := hown
  have hP : va_P g.1 vwCl [(xx, .inr (1, [.int 0, .int 0, .ref (a 2), .ref (a 3), .int 0, .ref (a 5), .ref (a 6), .ref (a 7), .ref (a 8), .ref (a 9), .int 0, .ref (a 11), .ref (a 12), .ref (a 13), .ref (a 14), .int 0, .int 0, .ref (a 17), .int 0, .int 0])), ((a 12), .inl (g.2.1.1, 64, .inl (fun _ => 0))), ((a 13), .inl (g.2.1.1, 64, .inl (fun _ => 0))), ((a 14), .inl (g.2.1.1, 64, .inl (fun _ => 0))), (o, .inl (g.2.1.2.2.1, 1, .inr (.inl (fun _ => 0))))] s.heap := hP
  refine lv_aload_n hx hb dL_extension_0 rfl (lv_at hl 2 rfl) ?_
  refine lv_iconst (v := 0) hx hb dL_extension_1 (by decide) ?_
  refine lv_aload_n hx hb dL_extension_2 rfl (lv_at hl 0 rfl) ?_
  refine lv_iload_n hx hb dL_extension_3 rfl (lv_at hl 1 rfl) ?_
  refine gxj_i (wc := [(xx, .inr (1, [.int 0, .int 0, .ref (a 2), .ref (a 3), .int 0, .ref (a 5), .ref (a 6), .ref (a 7), .ref (a 8), .ref (a 9), .int 0, .ref (a 11), .ref (a 12), .ref (a 13), .ref (a 14), .int 0, .int 0, .ref (a 17), .int 0, .int 0])), ((a 12), .inl (g.2.1.1, 64, .inl (fun _ => 0))), ((a 13), .inl (g.2.1.1, 64, .inl (fun _ => 0))), ((a 14), .inl (g.2.1.1, 64, .inl (fun _ => 0)))]) (wr := [(o, .inl (g.2.1.2.2.1, 1, .inr (.inl (fun _ => 0))))]) (gxr_V (n := 1) ⟨hx, hb, hml, hown, hts⟩ (c_X1_extension l hst g s.heap.size xx a x) gL_extension_X1_extension rfl rfl rfl (by decide +kernel) ⟨Nat.le_of_ble_eq_true rfl, Nat.le_of_ble_eq_true rfl⟩ (gp_V hK hE hA hP hD hS [0, 1, 2, 3] rfl (by decide) rfl (q0 := 0) rfl rfl) rfl hl.1 rfl (Nat.le_of_ble_eq_true rfl) dL_extension_4 ⟨Nat.le_of_ble_eq_true rfl, Nat.le_of_ble_eq_true rfl⟩) hP hD hS hA [0, 1, 2, 3] [4] rfl rfl (by decide) (by decide) (fun E ce q9 H locs hpx hP hD hS h7 h8 h9 => ?_) (fun r1 u1 H locs hp1 hP hD hS => ?_)
  · have hP : va_P g.1 vwCl [(o, .inl (g.2.1.2.2.1, 1, .inr (.inl (fun _ => 0))))] H := hP
    have hD : va_D A [(o, .inl (g.2.1.2.2.1, 1, .inr (.inl (fun _ => 0))))] := hD
    rcases hpx with ⟨rfl, hz⟩
    refine vx_catch (own := RL) (name := gIO) hown [] ⟨0, 9, 12, 13⟩ [] htab (fun z hz => absurd hz List.not_mem_nil) (by decide) (by decide) (hts (.classLink RL 13 gIO) (by decide +kernel)) (gCa.use hE.1.2.1.1) h7 h8 h9 ?_
    refine W.eq (g2 := F0 m 12 ls [.ref q9]) rfl ?_
    refine lv_astore_n (lv' := [(3, .ref q9), (0, .ref xx), (1, .int x), (2, .ref o)]) hx hb dL_extension_12 rfl hl (by decide) rfl (fun ls hl => ?_)
    refine lv_iconst (v := 1) hx hb dL_extension_13 (by decide) ?_
    exact g_ir hx hb hr hlocks hP hD hS (fun _ => 0) [0] rfl (by decide) rfl dL_extension_14 (Nat.le_of_ble_eq_true rfl) (Nat.le_of_ble_eq_true rfl) ((Or.inr (⟨rfl, hz⟩)))
  rcases hp1 with ⟨hq, rfl⟩
  have hP : va_P g.1 vwCl [(o, .inl (g.2.1.2.2.1, 1, .inr (.inl (fun _ => 0))))] H := hP
  have hD : va_D A [(o, .inl (g.2.1.2.2.1, 1, .inr (.inl (fun _ => 0))))] := hD
  refine lv_i2l (v := 0) hx hb dL_extension_7 (by decide) ?_
  refine va_last hx hb hK hP hD hS 0 2 rfl rfl (by unfold vp_in; decide) dL_extension_8 (fun H locs hP hD hS => ?_)
  have hP : va_P g.1 vwCl [(o, .inl (g.2.1.2.2.1, 1, .inr (.inl (vp_updL (fun _ => 0) 0 0))))] H := hP
  have hD : va_D A [(o, .inl (g.2.1.2.2.1, 1, .inr (.inl (vp_updL (fun _ => 0) 0 0))))] := hD
  refine lv_goto (tgt := 15) hx hb dL_extension_9 (by decide) ?_
  refine lv_iconst (v := 0) hx hb dL_extension_15 (by decide) ?_
  exact g_ir hx hb hr hlocks hP hD hS (vp_updL (fun _ => 0) 0 0) [0] rfl (by decide) rfl dL_extension_16 (Nat.le_of_ble_eq_true rfl) (Nat.le_of_ble_eq_true rfl) ((Or.inl (⟨rfl, hq, rfl⟩)))
set_option maxHeartbeats 4000000 in
set_option maxRecDepth 100000 in
theorem c_L_isPreferred (l : Launch) (hst : l.stackTraces = false) (g : gG) (sz : Nat) (xx : Nat) (a : Nat → Nat) (o : Nat) (x : Int32) : gMi l yL_isPreferred wsL_isPreferred ({ frames := 8, cells := 1, slots := 6, locals := 124 } : Room) g [.ref xx, .int x, .ref o] [(xx, .inr (1, [.int 0, .int 0, .ref (a 2), .ref (a 3), .int 0, .ref (a 5), .ref (a 6), .ref (a 7), .ref (a 8), .ref (a 9), .int 0, .ref (a 11), .ref (a 12), .ref (a 13), .ref (a 14), .int 0, .int 0, .ref (a 17), .int 0, .int 0])), ((a 12), .inl (g.2.1.1, 64, .inl (fun _ => 0))), ((a 13), .inl (g.2.1.1, 64, .inl (fun _ => 0))), ((a 14), .inl (g.2.1.1, 64, .inl (fun _ => 0))), ((a 17), .inl (g.2.1.2.1, 64, .inl (fun _ => 0))), (o, .inl (g.2.1.2.2.1, 1, .inr (.inl (fun _ => 0))))] sz (fun (r : Int32) (u : (Nat → Int64)) => r = 0 ∧ gNil x ∧ u 0 = 1 ∨ r = 1 ∧ ¬ gNil x) (fun (u : (Nat → Int64)) => [(o, .inl (g.2.1.2.2.1, 1, .inr (.inl u)))]) 1 6 := by
  refine gh_of (l := l) (y := yL_isPreferred) (wy := wsL_isPreferred) (rm := ({ frames := 8, cells := 1, slots := 6, locals := 124 } : Room)) (g := g) (av := [.ref xx, .int x, .ref o]) (ws := [(xx, .inr (1, [.int 0, .int 0, .ref (a 2), .ref (a 3), .int 0, .ref (a 5), .ref (a 6), .ref (a 7), .ref (a 8), .ref (a 9), .int 0, .ref (a 11), .ref (a 12), .ref (a 13), .ref (a 14), .int 0, .int 0, .ref (a 17), .int 0, .int 0])), ((a 12), .inl (g.2.1.1, 64, .inl (fun _ => 0))), ((a 13), .inl (g.2.1.1, 64, .inl (fun _ => 0))), ((a 14), .inl (g.2.1.1, 64, .inl (fun _ => 0))), ((a 17), .inl (g.2.1.2.1, 64, .inl (fun _ => 0))), (o, .inl (g.2.1.2.2.1, 1, .inr (.inl (fun _ => 0))))]) (sz := sz) (mc := 1) (ms := 6) (Qc := fun A => va_Qi (fun (r : Int32) (u : (Nat → Int64)) => r = 0 ∧ gNil x ∧ u 0 = 1 ∨ r = 1 ∧ ¬ gNil x) (fun u t9 => gPost g A ((fun (u : (Nat → Int64)) => [(o, .inl (g.2.1.2.2.1, 1, .inr (.inl u)))]) u) t9) A) (cc := cL_isPreferred) (maxL := 4) (ret := some .int) (by decide) rfl (Nat.le_of_ble_eq_true rfl) ?_
  intro p e s m below meth c A ls hx hb hr hml hown hts hlocks htab hA hK hE hP hD hS hl
  have hl : lv_has ls 4 [(0, .ref xx), (1, .int x), (2, .ref o)] := hl
  have hown : s.vm.findClass RL = some m.cls := hown
  have hP : va_P g.1 vwCl [(xx, .inr (1, [.int 0, .int 0, .ref (a 2), .ref (a 3), .int 0, .ref (a 5), .ref (a 6), .ref (a 7), .ref (a 8), .ref (a 9), .int 0, .ref (a 11), .ref (a 12), .ref (a 13), .ref (a 14), .int 0, .int 0, .ref (a 17), .int 0, .int 0])), ((a 12), .inl (g.2.1.1, 64, .inl (fun _ => 0))), ((a 13), .inl (g.2.1.1, 64, .inl (fun _ => 0))), ((a 14), .inl (g.2.1.1, 64, .inl (fun _ => 0))), ((a 17), .inl (g.2.1.2.1, 64, .inl (fun _ => 0))), (o, .inl (g.2.1.2.2.1, 1, .inr (.inl (fun _ => 0))))] s.heap := hP
  refine lv_aload_n hx hb dL_isPreferred_0 rfl (lv_at hl 2 rfl) ?_
  refine lv_iconst (v := 0) hx hb dL_isPreferred_1 (by decide) ?_
  refine lv_aload_n hx hb dL_isPreferred_2 rfl (lv_at hl 0 rfl) ?_
  refine lv_iload_n hx hb dL_isPreferred_3 rfl (lv_at hl 1 rfl) ?_
  refine gxj_i (wc := [(xx, .inr (1, [.int 0, .int 0, .ref (a 2), .ref (a 3), .int 0, .ref (a 5), .ref (a 6), .ref (a 7), .ref (a 8), .ref (a 9), .int 0, .ref (a 11), .ref (a 12), .ref (a 13), .ref (a 14), .int 0, .int 0, .ref (a 17), .int 0, .int 0])), ((a 12), .inl (g.2.1.1, 64, .inl (fun _ => 0))), ((a 13), .inl (g.2.1.1, 64, .inl (fun _ => 0))), ((a 14), .inl (g.2.1.1, 64, .inl (fun _ => 0))), ((a 17), .inl (g.2.1.2.1, 64, .inl (fun _ => 0)))]) (wr := [(o, .inl (g.2.1.2.2.1, 1, .inr (.inl (fun _ => 0))))]) (gxr_V (n := 1) ⟨hx, hb, hml, hown, hts⟩ (c_X1_isPreferred l hst g s.heap.size xx a x) gL_isPreferred_X1_isPreferred rfl rfl rfl (by decide +kernel) ⟨Nat.le_of_ble_eq_true rfl, Nat.le_of_ble_eq_true rfl⟩ (gp_V hK hE hA hP hD hS [0, 1, 2, 3, 4] rfl (by decide) rfl (q0 := 0) rfl rfl) rfl hl.1 rfl (Nat.le_of_ble_eq_true rfl) dL_isPreferred_4 ⟨Nat.le_of_ble_eq_true rfl, Nat.le_of_ble_eq_true rfl⟩) hP hD hS hA [0, 1, 2, 3, 4] [5] rfl rfl (by decide) (by decide) (fun E ce q9 H locs hpx hP hD hS h7 h8 h9 => ?_) (fun r1 u1 H locs hp1 hP hD hS => ?_)
  · have hP : va_P g.1 vwCl [(o, .inl (g.2.1.2.2.1, 1, .inr (.inl (fun _ => 0))))] H := hP
    have hD : va_D A [(o, .inl (g.2.1.2.2.1, 1, .inr (.inl (fun _ => 0))))] := hD
    rcases hpx with ⟨rfl, hz⟩
    refine vx_catch (own := RL) (name := gIO) hown [] ⟨0, 16, 19, 13⟩ [] htab (fun z hz => absurd hz List.not_mem_nil) (by decide) (by decide) (hts (.classLink RL 13 gIO) (by decide +kernel)) (gCa.use hE.1.2.1.1) h7 h8 h9 ?_
    refine W.eq (g2 := F0 m 19 ls [.ref q9]) rfl ?_
    refine lv_astore_n (lv' := [(3, .ref q9), (0, .ref xx), (1, .int x), (2, .ref o)]) hx hb dL_isPreferred_19 rfl hl (by decide) rfl (fun ls hl => ?_)
    refine lv_iconst (v := 1) hx hb dL_isPreferred_20 (by decide) ?_
    exact g_ir hx hb hr hlocks hP hD hS (fun _ => 0) [0] rfl (by decide) rfl dL_isPreferred_21 (Nat.le_of_ble_eq_true rfl) (Nat.le_of_ble_eq_true rfl) ((Or.inr (⟨rfl, hz⟩)))
  rcases hp1 with ⟨hq, rfl⟩
  have hP : va_P g.1 vwCl [(o, .inl (g.2.1.2.2.1, 1, .inr (.inl (fun _ => 0))))] H := hP
  have hD : va_D A [(o, .inl (g.2.1.2.2.1, 1, .inr (.inl (fun _ => 0))))] := hD
  refine lv_if_eq (tgt := 14) hx hb dL_isPreferred_7 (by decide) (fun c9 => absurd c9 (by decide)) (fun _ => ?_)
  refine lv_lconst (v := 1) hx hb dL_isPreferred_10 (by decide) ?_
  refine lv_goto (tgt := 15) hx hb dL_isPreferred_11 (by decide) ?_
  refine va_last hx hb hK hP hD hS 0 2 rfl rfl (by unfold vp_in; decide) dL_isPreferred_15 (fun H locs hP hD hS => ?_)
  have hP : va_P g.1 vwCl [(o, .inl (g.2.1.2.2.1, 1, .inr (.inl (vp_updL (fun _ => 0) 0 1))))] H := hP
  have hD : va_D A [(o, .inl (g.2.1.2.2.1, 1, .inr (.inl (vp_updL (fun _ => 0) 0 1))))] := hD
  refine lv_goto (tgt := 22) hx hb dL_isPreferred_16 (by decide) ?_
  refine lv_iconst (v := 0) hx hb dL_isPreferred_22 (by decide) ?_
  exact g_ir hx hb hr hlocks hP hD hS (vp_updL (fun _ => 0) 0 1) [0] rfl (by decide) rfl dL_isPreferred_23 (Nat.le_of_ble_eq_true rfl) (Nat.le_of_ble_eq_true rfl) ((Or.inl (⟨rfl, hq, rfl⟩)))
set_option maxHeartbeats 4000000 in
set_option maxRecDepth 100000 in
theorem c_L_supports (l : Launch) (hst : l.stackTraces = false) (g : gG) (sz : Nat) (xx : Nat) (a : Nat → Nat) (o : Nat) (x : Int32) : gMi l yL_supports wsL_supports ({ frames := 8, cells := 1, slots := 6, locals := 125 } : Room) g [.ref xx, .int x, .ref o] [(xx, .inr (1, [.int 0, .int 0, .ref (a 2), .ref (a 3), .int 0, .ref (a 5), .ref (a 6), .ref (a 7), .ref (a 8), .ref (a 9), .int 0, .ref (a 11), .ref (a 12), .ref (a 13), .ref (a 14), .int 0, .int 0, .ref (a 17), .int 0, .int 0])), ((a 12), .inl (g.2.1.1, 64, .inl (fun _ => 0))), ((a 13), .inl (g.2.1.1, 64, .inl (fun _ => 0))), ((a 14), .inl (g.2.1.1, 64, .inl (fun _ => 0))), (o, .inl (g.2.1.2.2.1, 1, .inr (.inl (fun _ => 0))))] sz (fun (r : Int32) (u : (Nat → Int64)) => r = 0 ∧ gLit x ∧ u 0 = 0 ∨ r = 1 ∧ ¬ gLit x) (fun (u : (Nat → Int64)) => [(o, .inl (g.2.1.2.2.1, 1, .inr (.inl u)))]) 1 6 := by
  refine gh_of (l := l) (y := yL_supports) (wy := wsL_supports) (rm := ({ frames := 8, cells := 1, slots := 6, locals := 125 } : Room)) (g := g) (av := [.ref xx, .int x, .ref o]) (ws := [(xx, .inr (1, [.int 0, .int 0, .ref (a 2), .ref (a 3), .int 0, .ref (a 5), .ref (a 6), .ref (a 7), .ref (a 8), .ref (a 9), .int 0, .ref (a 11), .ref (a 12), .ref (a 13), .ref (a 14), .int 0, .int 0, .ref (a 17), .int 0, .int 0])), ((a 12), .inl (g.2.1.1, 64, .inl (fun _ => 0))), ((a 13), .inl (g.2.1.1, 64, .inl (fun _ => 0))), ((a 14), .inl (g.2.1.1, 64, .inl (fun _ => 0))), (o, .inl (g.2.1.2.2.1, 1, .inr (.inl (fun _ => 0))))]) (sz := sz) (mc := 1) (ms := 6) (Qc := fun A => va_Qi (fun (r : Int32) (u : (Nat → Int64)) => r = 0 ∧ gLit x ∧ u 0 = 0 ∨ r = 1 ∧ ¬ gLit x) (fun u t9 => gPost g A ((fun (u : (Nat → Int64)) => [(o, .inl (g.2.1.2.2.1, 1, .inr (.inl u)))]) u) t9) A) (cc := cL_supports) (maxL := 4) (ret := some .int) (by decide) rfl (Nat.le_of_ble_eq_true rfl) ?_
  intro p e s m below meth c A ls hx hb hr hml hown hts hlocks htab hA hK hE hP hD hS hl
  have hl : lv_has ls 4 [(0, .ref xx), (1, .int x), (2, .ref o)] := hl
  have hown : s.vm.findClass RL = some m.cls := hown
  have hP : va_P g.1 vwCl [(xx, .inr (1, [.int 0, .int 0, .ref (a 2), .ref (a 3), .int 0, .ref (a 5), .ref (a 6), .ref (a 7), .ref (a 8), .ref (a 9), .int 0, .ref (a 11), .ref (a 12), .ref (a 13), .ref (a 14), .int 0, .int 0, .ref (a 17), .int 0, .int 0])), ((a 12), .inl (g.2.1.1, 64, .inl (fun _ => 0))), ((a 13), .inl (g.2.1.1, 64, .inl (fun _ => 0))), ((a 14), .inl (g.2.1.1, 64, .inl (fun _ => 0))), (o, .inl (g.2.1.2.2.1, 1, .inr (.inl (fun _ => 0))))] s.heap := hP
  refine lv_aload_n hx hb dL_supports_0 rfl (lv_at hl 2 rfl) ?_
  refine lv_iconst (v := 0) hx hb dL_supports_1 (by decide) ?_
  refine lv_aload_n hx hb dL_supports_2 rfl (lv_at hl 0 rfl) ?_
  refine lv_iload_n hx hb dL_supports_3 rfl (lv_at hl 1 rfl) ?_
  refine gxj_i (wc := [(xx, .inr (1, [.int 0, .int 0, .ref (a 2), .ref (a 3), .int 0, .ref (a 5), .ref (a 6), .ref (a 7), .ref (a 8), .ref (a 9), .int 0, .ref (a 11), .ref (a 12), .ref (a 13), .ref (a 14), .int 0, .int 0, .ref (a 17), .int 0, .int 0])), ((a 12), .inl (g.2.1.1, 64, .inl (fun _ => 0))), ((a 13), .inl (g.2.1.1, 64, .inl (fun _ => 0))), ((a 14), .inl (g.2.1.1, 64, .inl (fun _ => 0)))]) (wr := [(o, .inl (g.2.1.2.2.1, 1, .inr (.inl (fun _ => 0))))]) (gxr_V (n := 1) ⟨hx, hb, hml, hown, hts⟩ (c_X1_supports l hst g s.heap.size xx a x) gL_supports_X1_supports rfl rfl rfl (by decide +kernel) ⟨Nat.le_of_ble_eq_true rfl, Nat.le_of_ble_eq_true rfl⟩ (gp_V hK hE hA hP hD hS [0, 1, 2, 3] rfl (by decide) rfl (q0 := 0) rfl rfl) rfl hl.1 rfl (Nat.le_of_ble_eq_true rfl) dL_supports_4 ⟨Nat.le_of_ble_eq_true rfl, Nat.le_of_ble_eq_true rfl⟩) hP hD hS hA [0, 1, 2, 3] [4] rfl rfl (by decide) (by decide) (fun E ce q9 H locs hpx hP hD hS h7 h8 h9 => ?_) (fun r1 u1 H locs hp1 hP hD hS => ?_)
  · have hP : va_P g.1 vwCl [(o, .inl (g.2.1.2.2.1, 1, .inr (.inl (fun _ => 0))))] H := hP
    have hD : va_D A [(o, .inl (g.2.1.2.2.1, 1, .inr (.inl (fun _ => 0))))] := hD
    rcases hpx with ⟨rfl, hz⟩
    refine vx_catch (own := RL) (name := gIO) hown [] ⟨0, 9, 12, 13⟩ [] htab (fun z hz => absurd hz List.not_mem_nil) (by decide) (by decide) (hts (.classLink RL 13 gIO) (by decide +kernel)) (gCa.use hE.1.2.1.1) h7 h8 h9 ?_
    refine W.eq (g2 := F0 m 12 ls [.ref q9]) rfl ?_
    refine lv_astore_n (lv' := [(3, .ref q9), (0, .ref xx), (1, .int x), (2, .ref o)]) hx hb dL_supports_12 rfl hl (by decide) rfl (fun ls hl => ?_)
    refine lv_iconst (v := 1) hx hb dL_supports_13 (by decide) ?_
    exact g_ir hx hb hr hlocks hP hD hS (fun _ => 0) [0] rfl (by decide) rfl dL_supports_14 (Nat.le_of_ble_eq_true rfl) (Nat.le_of_ble_eq_true rfl) ((Or.inr (⟨rfl, hz⟩)))
  rcases hp1 with ⟨hq, rfl⟩
  have hP : va_P g.1 vwCl [(o, .inl (g.2.1.2.2.1, 1, .inr (.inl (fun _ => 0))))] H := hP
  have hD : va_D A [(o, .inl (g.2.1.2.2.1, 1, .inr (.inl (fun _ => 0))))] := hD
  refine lv_i2l (v := 0) hx hb dL_supports_7 (by decide) ?_
  refine va_last hx hb hK hP hD hS 0 2 rfl rfl (by unfold vp_in; decide) dL_supports_8 (fun H locs hP hD hS => ?_)
  have hP : va_P g.1 vwCl [(o, .inl (g.2.1.2.2.1, 1, .inr (.inl (vp_updL (fun _ => 0) 0 0))))] H := hP
  have hD : va_D A [(o, .inl (g.2.1.2.2.1, 1, .inr (.inl (vp_updL (fun _ => 0) 0 0))))] := hD
  refine lv_goto (tgt := 15) hx hb dL_supports_9 (by decide) ?_
  refine lv_iconst (v := 0) hx hb dL_supports_15 (by decide) ?_
  exact g_ir hx hb hr hlocks hP hD hS (vp_updL (fun _ => 0) 0 0) [0] rfl (by decide) rfl dL_supports_16 (Nat.le_of_ble_eq_true rfl) (Nat.le_of_ble_eq_true rfl) ((Or.inl (⟨rfl, hq, rfl⟩)))
set_option maxHeartbeats 4000000 in
set_option maxRecDepth 100000 in
theorem c_L_share (l : Launch) (hst : l.stackTraces = false) (g : gG) (sz : Nat) (xx : Nat) (a : Nat → Nat) (o : Nat) (x : Int32) : gMi l yL_share wsL_share ({ frames := 8, cells := 1, slots := 6, locals := 125 } : Room) g [.ref xx, .int x, .ref o] [(xx, .inr (1, [.int 0, .int 0, .ref (a 2), .ref (a 3), .int 0, .ref (a 5), .ref (a 6), .ref (a 7), .ref (a 8), .ref (a 9), .int 0, .ref (a 11), .ref (a 12), .ref (a 13), .ref (a 14), .int 0, .int 0, .ref (a 17), .int 0, .int 0])), ((a 12), .inl (g.2.1.1, 64, .inl (fun _ => 0))), ((a 13), .inl (g.2.1.1, 64, .inl (fun _ => 0))), ((a 14), .inl (g.2.1.1, 64, .inl (fun _ => 0))), ((a 17), .inl (g.2.1.2.1, 64, .inl (fun _ => 0))), (o, .inl (g.2.1.2.2.2, 1, .inr (.inr (.inr (.inl (fun _ => 0))))))] sz (fun (r : Int32) (u : (Nat → UInt64)) => r = 0 ∧ gLit x ∧ u 0 = FP.ddiv (FP.i2d 0) (FP.i2d 1) ∨ r = 1 ∧ ¬ gLit x) (fun (u : (Nat → UInt64)) => [(o, .inl (g.2.1.2.2.2, 1, .inr (.inr (.inr (.inl u)))))]) 1 6 := by
  refine gh_of (l := l) (y := yL_share) (wy := wsL_share) (rm := ({ frames := 8, cells := 1, slots := 6, locals := 125 } : Room)) (g := g) (av := [.ref xx, .int x, .ref o]) (ws := [(xx, .inr (1, [.int 0, .int 0, .ref (a 2), .ref (a 3), .int 0, .ref (a 5), .ref (a 6), .ref (a 7), .ref (a 8), .ref (a 9), .int 0, .ref (a 11), .ref (a 12), .ref (a 13), .ref (a 14), .int 0, .int 0, .ref (a 17), .int 0, .int 0])), ((a 12), .inl (g.2.1.1, 64, .inl (fun _ => 0))), ((a 13), .inl (g.2.1.1, 64, .inl (fun _ => 0))), ((a 14), .inl (g.2.1.1, 64, .inl (fun _ => 0))), ((a 17), .inl (g.2.1.2.1, 64, .inl (fun _ => 0))), (o, .inl (g.2.1.2.2.2, 1, .inr (.inr (.inr (.inl (fun _ => 0))))))]) (sz := sz) (mc := 1) (ms := 6) (Qc := fun A => va_Qi (fun (r : Int32) (u : (Nat → UInt64)) => r = 0 ∧ gLit x ∧ u 0 = FP.ddiv (FP.i2d 0) (FP.i2d 1) ∨ r = 1 ∧ ¬ gLit x) (fun u t9 => gPost g A ((fun (u : (Nat → UInt64)) => [(o, .inl (g.2.1.2.2.2, 1, .inr (.inr (.inr (.inl u)))))]) u) t9) A) (cc := cL_share) (maxL := 4) (ret := some .int) (by decide) rfl (Nat.le_of_ble_eq_true rfl) ?_
  intro p e s m below meth c A ls hx hb hr hml hown hts hlocks htab hA hK hE hP hD hS hl
  have hl : lv_has ls 4 [(0, .ref xx), (1, .int x), (2, .ref o)] := hl
  have hown : s.vm.findClass RL = some m.cls := hown
  have hP : va_P g.1 vwCl [(xx, .inr (1, [.int 0, .int 0, .ref (a 2), .ref (a 3), .int 0, .ref (a 5), .ref (a 6), .ref (a 7), .ref (a 8), .ref (a 9), .int 0, .ref (a 11), .ref (a 12), .ref (a 13), .ref (a 14), .int 0, .int 0, .ref (a 17), .int 0, .int 0])), ((a 12), .inl (g.2.1.1, 64, .inl (fun _ => 0))), ((a 13), .inl (g.2.1.1, 64, .inl (fun _ => 0))), ((a 14), .inl (g.2.1.1, 64, .inl (fun _ => 0))), ((a 17), .inl (g.2.1.2.1, 64, .inl (fun _ => 0))), (o, .inl (g.2.1.2.2.2, 1, .inr (.inr (.inr (.inl (fun _ => 0))))))] s.heap := hP
  refine lv_aload_n hx hb dL_share_0 rfl (lv_at hl 2 rfl) ?_
  refine lv_iconst (v := 0) hx hb dL_share_1 (by decide) ?_
  refine lv_aload_n hx hb dL_share_2 rfl (lv_at hl 0 rfl) ?_
  refine lv_iload_n hx hb dL_share_3 rfl (lv_at hl 1 rfl) ?_
  refine gxj_d (wc := [(xx, .inr (1, [.int 0, .int 0, .ref (a 2), .ref (a 3), .int 0, .ref (a 5), .ref (a 6), .ref (a 7), .ref (a 8), .ref (a 9), .int 0, .ref (a 11), .ref (a 12), .ref (a 13), .ref (a 14), .int 0, .int 0, .ref (a 17), .int 0, .int 0])), ((a 12), .inl (g.2.1.1, 64, .inl (fun _ => 0))), ((a 13), .inl (g.2.1.1, 64, .inl (fun _ => 0))), ((a 14), .inl (g.2.1.1, 64, .inl (fun _ => 0))), ((a 17), .inl (g.2.1.2.1, 64, .inl (fun _ => 0)))]) (wr := [(o, .inl (g.2.1.2.2.2, 1, .inr (.inr (.inr (.inl (fun _ => 0))))))]) (gxr_V (n := 1) ⟨hx, hb, hml, hown, hts⟩ (c_X1_share l hst g s.heap.size xx a x) gL_share_X1_share rfl rfl rfl (by decide +kernel) ⟨Nat.le_of_ble_eq_true rfl, Nat.le_of_ble_eq_true rfl⟩ (gp_V hK hE hA hP hD hS [0, 1, 2, 3, 4] rfl (by decide) rfl (q0 := 0) rfl rfl) rfl hl.1 rfl (Nat.le_of_ble_eq_true rfl) dL_share_4 ⟨Nat.le_of_ble_eq_true rfl, Nat.le_of_ble_eq_true rfl⟩) hP hD hS hA [0, 1, 2, 3, 4] [5] rfl rfl (by decide) (by decide) (fun E ce q9 H locs hpx hP hD hS h7 h8 h9 => ?_) (fun r1 u1 H locs hp1 hP hD hS => ?_)
  · have hP : va_P g.1 vwCl [(o, .inl (g.2.1.2.2.2, 1, .inr (.inr (.inr (.inl (fun _ => 0))))))] H := hP
    have hD : va_D A [(o, .inl (g.2.1.2.2.2, 1, .inr (.inr (.inr (.inl (fun _ => 0))))))] := hD
    rcases hpx with ⟨rfl, hz⟩
    refine vx_catch (own := RL) (name := gIO) hown [] ⟨0, 8, 11, 13⟩ [] htab (fun z hz => absurd hz List.not_mem_nil) (by decide) (by decide) (hts (.classLink RL 13 gIO) (by decide +kernel)) (gCa.use hE.1.2.1.1) h7 h8 h9 ?_
    refine W.eq (g2 := F0 m 11 ls [.ref q9]) rfl ?_
    refine lv_astore_n (lv' := [(3, .ref q9), (0, .ref xx), (1, .int x), (2, .ref o)]) hx hb dL_share_11 rfl hl (by decide) rfl (fun ls hl => ?_)
    refine lv_iconst (v := 1) hx hb dL_share_12 (by decide) ?_
    exact g_ir hx hb hr hlocks hP hD hS (fun _ => 0) [0] rfl (by decide) rfl dL_share_13 (Nat.le_of_ble_eq_true rfl) (Nat.le_of_ble_eq_true rfl) ((Or.inr (⟨rfl, hz⟩)))
  rcases hp1 with ⟨hq, rfl⟩
  have hP : va_P g.1 vwCl [(o, .inl (g.2.1.2.2.2, 1, .inr (.inr (.inr (.inl (fun _ => 0))))))] H := hP
  have hD : va_D A [(o, .inl (g.2.1.2.2.2, 1, .inr (.inr (.inr (.inl (fun _ => 0))))))] := hD
  refine va_dast hx hb hK hP hD hS 0 3 rfl rfl (by unfold vp_in; decide) dL_share_7 (fun H locs hP hD hS => ?_)
  have hP : va_P g.1 vwCl [(o, .inl (g.2.1.2.2.2, 1, .inr (.inr (.inr (.inl (vf_upd (fun _ => 0) 0 (FP.ddiv (FP.i2d 0) (FP.i2d 1))))))))] H := hP
  have hD : va_D A [(o, .inl (g.2.1.2.2.2, 1, .inr (.inr (.inr (.inl (vf_upd (fun _ => 0) 0 (FP.ddiv (FP.i2d 0) (FP.i2d 1))))))))] := hD
  refine lv_goto (tgt := 14) hx hb dL_share_8 (by decide) ?_
  refine lv_iconst (v := 0) hx hb dL_share_14 (by decide) ?_
  exact g_ir hx hb hr hlocks hP hD hS (vf_upd (fun _ => 0) 0 (FP.ddiv (FP.i2d 0) (FP.i2d 1))) [0] rfl (by decide) rfl dL_share_15 (Nat.le_of_ble_eq_true rfl) (Nat.le_of_ble_eq_true rfl) ((Or.inl (⟨rfl, hq, rfl⟩)))
set_option maxHeartbeats 4000000 in
set_option maxRecDepth 100000 in
theorem c_L_walk (l : Launch) (hst : l.stackTraces = false) (g : gG) (sz : Nat) (xx : Nat) (a : Nat → Nat) (o : Nat) (x : Int32) : gMi l yL_walk wsL_walk ({ frames := 8, cells := 1, slots := 6, locals := 127 } : Room) g [.ref xx, .int x, .ref o] [(xx, .inr (1, [.int 0, .int 0, .ref (a 2), .ref (a 3), .int 0, .ref (a 5), .ref (a 6), .ref (a 7), .ref (a 8), .ref (a 9), .int 0, .ref (a 11), .ref (a 12), .ref (a 13), .ref (a 14), .int 0, .int 0, .ref (a 17), .int 0, .int 0])), ((a 12), .inl (g.2.1.1, 64, .inl (fun _ => 0))), ((a 13), .inl (g.2.1.1, 64, .inl (fun _ => 0))), ((a 14), .inl (g.2.1.1, 64, .inl (fun _ => 0))), (o, .inl (g.2.1.2.2.1, 1, .inr (.inl (fun _ => 0))))] sz (fun (r : Int32) (u : (Nat → Int64)) => r = 0 ∧ gNil x ∧ u 0 = 0 ∨ r = 1 ∧ ¬ gNil x) (fun (u : (Nat → Int64)) => [(o, .inl (g.2.1.2.2.1, 1, .inr (.inl u)))]) 1 6 := by
  refine gh_of (l := l) (y := yL_walk) (wy := wsL_walk) (rm := ({ frames := 8, cells := 1, slots := 6, locals := 127 } : Room)) (g := g) (av := [.ref xx, .int x, .ref o]) (ws := [(xx, .inr (1, [.int 0, .int 0, .ref (a 2), .ref (a 3), .int 0, .ref (a 5), .ref (a 6), .ref (a 7), .ref (a 8), .ref (a 9), .int 0, .ref (a 11), .ref (a 12), .ref (a 13), .ref (a 14), .int 0, .int 0, .ref (a 17), .int 0, .int 0])), ((a 12), .inl (g.2.1.1, 64, .inl (fun _ => 0))), ((a 13), .inl (g.2.1.1, 64, .inl (fun _ => 0))), ((a 14), .inl (g.2.1.1, 64, .inl (fun _ => 0))), (o, .inl (g.2.1.2.2.1, 1, .inr (.inl (fun _ => 0))))]) (sz := sz) (mc := 1) (ms := 6) (Qc := fun A => va_Qi (fun (r : Int32) (u : (Nat → Int64)) => r = 0 ∧ gNil x ∧ u 0 = 0 ∨ r = 1 ∧ ¬ gNil x) (fun u t9 => gPost g A ((fun (u : (Nat → Int64)) => [(o, .inl (g.2.1.2.2.1, 1, .inr (.inl u)))]) u) t9) A) (cc := cL_walk) (maxL := 4) (ret := some .int) (by decide) rfl (Nat.le_of_ble_eq_true rfl) ?_
  intro p e s m below meth c A ls hx hb hr hml hown hts hlocks htab hA hK hE hP hD hS hl
  have hl : lv_has ls 4 [(0, .ref xx), (1, .int x), (2, .ref o)] := hl
  have hown : s.vm.findClass RL = some m.cls := hown
  have hP : va_P g.1 vwCl [(xx, .inr (1, [.int 0, .int 0, .ref (a 2), .ref (a 3), .int 0, .ref (a 5), .ref (a 6), .ref (a 7), .ref (a 8), .ref (a 9), .int 0, .ref (a 11), .ref (a 12), .ref (a 13), .ref (a 14), .int 0, .int 0, .ref (a 17), .int 0, .int 0])), ((a 12), .inl (g.2.1.1, 64, .inl (fun _ => 0))), ((a 13), .inl (g.2.1.1, 64, .inl (fun _ => 0))), ((a 14), .inl (g.2.1.1, 64, .inl (fun _ => 0))), (o, .inl (g.2.1.2.2.1, 1, .inr (.inl (fun _ => 0))))] s.heap := hP
  refine lv_aload_n hx hb dL_walk_0 rfl (lv_at hl 2 rfl) ?_
  refine lv_iconst (v := 0) hx hb dL_walk_1 (by decide) ?_
  refine lv_aload_n hx hb dL_walk_2 rfl (lv_at hl 0 rfl) ?_
  refine lv_iload_n hx hb dL_walk_3 rfl (lv_at hl 1 rfl) ?_
  refine gxj_i (wc := [(xx, .inr (1, [.int 0, .int 0, .ref (a 2), .ref (a 3), .int 0, .ref (a 5), .ref (a 6), .ref (a 7), .ref (a 8), .ref (a 9), .int 0, .ref (a 11), .ref (a 12), .ref (a 13), .ref (a 14), .int 0, .int 0, .ref (a 17), .int 0, .int 0])), ((a 12), .inl (g.2.1.1, 64, .inl (fun _ => 0))), ((a 13), .inl (g.2.1.1, 64, .inl (fun _ => 0))), ((a 14), .inl (g.2.1.1, 64, .inl (fun _ => 0)))]) (wr := [(o, .inl (g.2.1.2.2.1, 1, .inr (.inl (fun _ => 0))))]) (gxr_V (n := 1) ⟨hx, hb, hml, hown, hts⟩ (c_X1_walk l hst g s.heap.size xx a x) gL_walk_X1_walk rfl rfl rfl (by decide +kernel) ⟨Nat.le_of_ble_eq_true rfl, Nat.le_of_ble_eq_true rfl⟩ (gp_V hK hE hA hP hD hS [0, 1, 2, 3] rfl (by decide) rfl (q0 := 0) rfl rfl) rfl hl.1 rfl (Nat.le_of_ble_eq_true rfl) dL_walk_4 ⟨Nat.le_of_ble_eq_true rfl, Nat.le_of_ble_eq_true rfl⟩) hP hD hS hA [0, 1, 2, 3] [4] rfl rfl (by decide) (by decide) (fun E ce q9 H locs hpx hP hD hS h7 h8 h9 => ?_) (fun r1 u1 H locs hp1 hP hD hS => ?_)
  · have hP : va_P g.1 vwCl [(o, .inl (g.2.1.2.2.1, 1, .inr (.inl (fun _ => 0))))] H := hP
    have hD : va_D A [(o, .inl (g.2.1.2.2.1, 1, .inr (.inl (fun _ => 0))))] := hD
    rcases hpx with ⟨rfl, hz⟩
    refine vx_catch (own := RL) (name := gIA) hown [] ⟨0, 9, 12, 19⟩ [] htab (fun z hz => absurd hz List.not_mem_nil) (by decide) (by decide) (hts (.classLink RL 19 gIA) (by decide +kernel)) (gCa.use hE.1.2.1.2.1) h7 h8 h9 ?_
    refine W.eq (g2 := F0 m 12 ls [.ref q9]) rfl ?_
    refine lv_astore_n (lv' := [(3, .ref q9), (0, .ref xx), (1, .int x), (2, .ref o)]) hx hb dL_walk_12 rfl hl (by decide) rfl (fun ls hl => ?_)
    refine lv_iconst (v := 1) hx hb dL_walk_13 (by decide) ?_
    exact g_ir hx hb hr hlocks hP hD hS (fun _ => 0) [0] rfl (by decide) rfl dL_walk_14 (Nat.le_of_ble_eq_true rfl) (Nat.le_of_ble_eq_true rfl) ((Or.inr (⟨rfl, hz⟩)))
  rcases hp1 with ⟨hq, rfl⟩
  have hP : va_P g.1 vwCl [(o, .inl (g.2.1.2.2.1, 1, .inr (.inl (fun _ => 0))))] H := hP
  have hD : va_D A [(o, .inl (g.2.1.2.2.1, 1, .inr (.inl (fun _ => 0))))] := hD
  refine lv_i2l (v := 0) hx hb dL_walk_7 (by decide) ?_
  refine va_last hx hb hK hP hD hS 0 2 rfl rfl (by unfold vp_in; decide) dL_walk_8 (fun H locs hP hD hS => ?_)
  have hP : va_P g.1 vwCl [(o, .inl (g.2.1.2.2.1, 1, .inr (.inl (vp_updL (fun _ => 0) 0 0))))] H := hP
  have hD : va_D A [(o, .inl (g.2.1.2.2.1, 1, .inr (.inl (vp_updL (fun _ => 0) 0 0))))] := hD
  refine lv_goto (tgt := 15) hx hb dL_walk_9 (by decide) ?_
  refine lv_iconst (v := 0) hx hb dL_walk_15 (by decide) ?_
  exact g_ir hx hb hr hlocks hP hD hS (vp_updL (fun _ => 0) 0 0) [0] rfl (by decide) rfl dL_walk_16 (Nat.le_of_ble_eq_true rfl) (Nat.le_of_ble_eq_true rfl) ((Or.inl (⟨rfl, hq, rfl⟩)))
set_option maxHeartbeats 4000000 in
set_option maxRecDepth 100000 in
theorem c_L_applied (l : Launch) (hst : l.stackTraces = false) (g : gG) (sz : Nat) (xx : Nat) (a : Nat → Nat) (o : Nat) (x : Int32) : gMi l yL_applied wsL_applied ({ frames := 7, cells := 1, slots := 6, locals := 103 } : Room) g [.ref xx, .int x, .ref o] [(xx, .inr (1, [.int 0, .int 0, .ref (a 2), .ref (a 3), .int 0, .ref (a 5), .ref (a 6), .ref (a 7), .ref (a 8), .ref (a 9), .int 0, .ref (a 11), .ref (a 12), .ref (a 13), .ref (a 14), .int 0, .int 0, .ref (a 17), .int 0, .int 0])), (o, .inl (g.2.1.2.2.1, 1, .inr (.inl (fun _ => 0))))] sz (fun (r : Int32) (u : (Nat → Int64)) => r = 1) (fun (u : (Nat → Int64)) => [(o, .inl (g.2.1.2.2.1, 1, .inr (.inl u)))]) 1 6 := by
  refine gh_of (l := l) (y := yL_applied) (wy := wsL_applied) (rm := ({ frames := 7, cells := 1, slots := 6, locals := 103 } : Room)) (g := g) (av := [.ref xx, .int x, .ref o]) (ws := [(xx, .inr (1, [.int 0, .int 0, .ref (a 2), .ref (a 3), .int 0, .ref (a 5), .ref (a 6), .ref (a 7), .ref (a 8), .ref (a 9), .int 0, .ref (a 11), .ref (a 12), .ref (a 13), .ref (a 14), .int 0, .int 0, .ref (a 17), .int 0, .int 0])), (o, .inl (g.2.1.2.2.1, 1, .inr (.inl (fun _ => 0))))]) (sz := sz) (mc := 1) (ms := 6) (Qc := fun A => va_Qi (fun (r : Int32) (u : (Nat → Int64)) => r = 1) (fun u t9 => gPost g A ((fun (u : (Nat → Int64)) => [(o, .inl (g.2.1.2.2.1, 1, .inr (.inl u)))]) u) t9) A) (cc := cL_applied) (maxL := 4) (ret := some .int) (by decide) rfl (Nat.le_of_ble_eq_true rfl) ?_
  intro p e s m below meth c A ls hx hb hr hml hown hts hlocks htab hA hK hE hP hD hS hl
  have hl : lv_has ls 4 [(0, .ref xx), (1, .int x), (2, .ref o)] := hl
  have hown : s.vm.findClass RL = some m.cls := hown
  have hP : va_P g.1 vwCl [(xx, .inr (1, [.int 0, .int 0, .ref (a 2), .ref (a 3), .int 0, .ref (a 5), .ref (a 6), .ref (a 7), .ref (a 8), .ref (a 9), .int 0, .ref (a 11), .ref (a 12), .ref (a 13), .ref (a 14), .int 0, .int 0, .ref (a 17), .int 0, .int 0])), (o, .inl (g.2.1.2.2.1, 1, .inr (.inl (fun _ => 0))))] s.heap := hP
  refine lv_aload_n hx hb dL_applied_0 rfl (lv_at hl 2 rfl) ?_
  refine lv_iconst (v := 0) hx hb dL_applied_1 (by decide) ?_
  refine lv_aload_n hx hb dL_applied_2 rfl (lv_at hl 0 rfl) ?_
  refine lv_iload_n hx hb dL_applied_3 rfl (lv_at hl 1 rfl) ?_
  refine gxj_i (wc := [(xx, .inr (1, [.int 0, .int 0, .ref (a 2), .ref (a 3), .int 0, .ref (a 5), .ref (a 6), .ref (a 7), .ref (a 8), .ref (a 9), .int 0, .ref (a 11), .ref (a 12), .ref (a 13), .ref (a 14), .int 0, .int 0, .ref (a 17), .int 0, .int 0]))]) (wr := [(o, .inl (g.2.1.2.2.1, 1, .inr (.inl (fun _ => 0))))]) (gxr_V (n := 1) ⟨hx, hb, hml, hown, hts⟩ (c_X1_applied l hst g s.heap.size xx a x) gL_applied_X1_applied rfl rfl rfl (by decide +kernel) ⟨Nat.le_of_ble_eq_true rfl, Nat.le_of_ble_eq_true rfl⟩ (gp_V hK hE hA hP hD hS [0] rfl (by decide) rfl (q0 := 0) rfl rfl) rfl hl.1 rfl (Nat.le_of_ble_eq_true rfl) dL_applied_4 ⟨Nat.le_of_ble_eq_true rfl, Nat.le_of_ble_eq_true rfl⟩) hP hD hS hA [0] [1] rfl rfl (by decide) (by decide) (fun E ce q9 H locs hpx hP hD hS h7 h8 h9 => ?_) (fun r1 u1 H locs hp1 hP hD hS => ?_)
  · have hP : va_P g.1 vwCl [(o, .inl (g.2.1.2.2.1, 1, .inr (.inl (fun _ => 0))))] H := hP
    have hD : va_D A [(o, .inl (g.2.1.2.2.1, 1, .inr (.inl (fun _ => 0))))] := hD
    rcases hpx with rfl
    refine vx_catch (own := RL) (name := gIO) hown [] ⟨0, 9, 12, 13⟩ [] htab (fun z hz => absurd hz List.not_mem_nil) (by decide) (by decide) (hts (.classLink RL 13 gIO) (by decide +kernel)) (gCa.use hE.1.2.1.1) h7 h8 h9 ?_
    refine W.eq (g2 := F0 m 12 ls [.ref q9]) rfl ?_
    refine lv_astore_n (lv' := [(3, .ref q9), (0, .ref xx), (1, .int x), (2, .ref o)]) hx hb dL_applied_12 rfl hl (by decide) rfl (fun ls hl => ?_)
    refine lv_iconst (v := 1) hx hb dL_applied_13 (by decide) ?_
    exact g_ir hx hb hr hlocks hP hD hS (fun _ => 0) [0] rfl (by decide) rfl dL_applied_14 (Nat.le_of_ble_eq_true rfl) (Nat.le_of_ble_eq_true rfl) (rfl)
  exact False.elim (hp1)
set_option maxHeartbeats 4000000 in
set_option maxRecDepth 100000 in
theorem c_L_respects (l : Launch) (hst : l.stackTraces = false) (g : gG) (sz : Nat) (xx : Nat) (a : Nat → Nat) (o : Nat) (x : Int32) : gMi l yL_respects wsL_respects ({ frames := 8, cells := 1, slots := 6, locals := 124 } : Room) g [.ref xx, .int x, .ref o] [(xx, .inr (1, [.int 0, .int 0, .ref (a 2), .ref (a 3), .int 0, .ref (a 5), .ref (a 6), .ref (a 7), .ref (a 8), .ref (a 9), .int 0, .ref (a 11), .ref (a 12), .ref (a 13), .ref (a 14), .int 0, .int 0, .ref (a 17), .int 0, .int 0])), (o, .inl (g.2.1.2.2.1, 1, .inr (.inl (fun _ => 0))))] sz (fun (r : Int32) (u : (Nat → Int64)) => r = 0 ∧ gNil x ∧ u 0 = 1 ∨ r = 1 ∧ ¬ gNil x) (fun (u : (Nat → Int64)) => [(o, .inl (g.2.1.2.2.1, 1, .inr (.inl u)))]) 1 6 := by
  refine gh_of (l := l) (y := yL_respects) (wy := wsL_respects) (rm := ({ frames := 8, cells := 1, slots := 6, locals := 124 } : Room)) (g := g) (av := [.ref xx, .int x, .ref o]) (ws := [(xx, .inr (1, [.int 0, .int 0, .ref (a 2), .ref (a 3), .int 0, .ref (a 5), .ref (a 6), .ref (a 7), .ref (a 8), .ref (a 9), .int 0, .ref (a 11), .ref (a 12), .ref (a 13), .ref (a 14), .int 0, .int 0, .ref (a 17), .int 0, .int 0])), (o, .inl (g.2.1.2.2.1, 1, .inr (.inl (fun _ => 0))))]) (sz := sz) (mc := 1) (ms := 6) (Qc := fun A => va_Qi (fun (r : Int32) (u : (Nat → Int64)) => r = 0 ∧ gNil x ∧ u 0 = 1 ∨ r = 1 ∧ ¬ gNil x) (fun u t9 => gPost g A ((fun (u : (Nat → Int64)) => [(o, .inl (g.2.1.2.2.1, 1, .inr (.inl u)))]) u) t9) A) (cc := cL_respects) (maxL := 4) (ret := some .int) (by decide) rfl (Nat.le_of_ble_eq_true rfl) ?_
  intro p e s m below meth c A ls hx hb hr hml hown hts hlocks htab hA hK hE hP hD hS hl
  have hl : lv_has ls 4 [(0, .ref xx), (1, .int x), (2, .ref o)] := hl
  have hown : s.vm.findClass RL = some m.cls := hown
  have hP : va_P g.1 vwCl [(xx, .inr (1, [.int 0, .int 0, .ref (a 2), .ref (a 3), .int 0, .ref (a 5), .ref (a 6), .ref (a 7), .ref (a 8), .ref (a 9), .int 0, .ref (a 11), .ref (a 12), .ref (a 13), .ref (a 14), .int 0, .int 0, .ref (a 17), .int 0, .int 0])), (o, .inl (g.2.1.2.2.1, 1, .inr (.inl (fun _ => 0))))] s.heap := hP
  refine lv_aload_n hx hb dL_respects_0 rfl (lv_at hl 2 rfl) ?_
  refine lv_iconst (v := 0) hx hb dL_respects_1 (by decide) ?_
  refine lv_aload_n hx hb dL_respects_2 rfl (lv_at hl 0 rfl) ?_
  refine lv_iload_n hx hb dL_respects_3 rfl (lv_at hl 1 rfl) ?_
  refine gxj_i (wc := [(xx, .inr (1, [.int 0, .int 0, .ref (a 2), .ref (a 3), .int 0, .ref (a 5), .ref (a 6), .ref (a 7), .ref (a 8), .ref (a 9), .int 0, .ref (a 11), .ref (a 12), .ref (a 13), .ref (a 14), .int 0, .int 0, .ref (a 17), .int 0, .int 0]))]) (wr := [(o, .inl (g.2.1.2.2.1, 1, .inr (.inl (fun _ => 0))))]) (gxr_V (n := 1) ⟨hx, hb, hml, hown, hts⟩ (c_X1_respects l hst g s.heap.size xx a x) gL_respects_X1_respects rfl rfl rfl (by decide +kernel) ⟨Nat.le_of_ble_eq_true rfl, Nat.le_of_ble_eq_true rfl⟩ (gp_V hK hE hA hP hD hS [0] rfl (by decide) rfl (q0 := 0) rfl rfl) rfl hl.1 rfl (Nat.le_of_ble_eq_true rfl) dL_respects_4 ⟨Nat.le_of_ble_eq_true rfl, Nat.le_of_ble_eq_true rfl⟩) hP hD hS hA [0] [1] rfl rfl (by decide) (by decide) (fun E ce q9 H locs hpx hP hD hS h7 h8 h9 => ?_) (fun r1 u1 H locs hp1 hP hD hS => ?_)
  · have hP : va_P g.1 vwCl [(o, .inl (g.2.1.2.2.1, 1, .inr (.inl (fun _ => 0))))] H := hP
    have hD : va_D A [(o, .inl (g.2.1.2.2.1, 1, .inr (.inl (fun _ => 0))))] := hD
    rcases hpx with ⟨rfl, hz⟩
    refine vx_catch (own := RL) (name := gIA) hown [] ⟨0, 16, 19, 19⟩ [] htab (fun z hz => absurd hz List.not_mem_nil) (by decide) (by decide) (hts (.classLink RL 19 gIA) (by decide +kernel)) (gCa.use hE.1.2.1.2.1) h7 h8 h9 ?_
    refine W.eq (g2 := F0 m 19 ls [.ref q9]) rfl ?_
    refine lv_astore_n (lv' := [(3, .ref q9), (0, .ref xx), (1, .int x), (2, .ref o)]) hx hb dL_respects_19 rfl hl (by decide) rfl (fun ls hl => ?_)
    refine lv_iconst (v := 1) hx hb dL_respects_20 (by decide) ?_
    exact g_ir hx hb hr hlocks hP hD hS (fun _ => 0) [0] rfl (by decide) rfl dL_respects_21 (Nat.le_of_ble_eq_true rfl) (Nat.le_of_ble_eq_true rfl) ((Or.inr (⟨rfl, hz⟩)))
  rcases hp1 with ⟨hq, rfl⟩
  have hP : va_P g.1 vwCl [(o, .inl (g.2.1.2.2.1, 1, .inr (.inl (fun _ => 0))))] H := hP
  have hD : va_D A [(o, .inl (g.2.1.2.2.1, 1, .inr (.inl (fun _ => 0))))] := hD
  refine lv_if_eq (tgt := 14) hx hb dL_respects_7 (by decide) (fun c9 => absurd c9 (by decide)) (fun _ => ?_)
  refine lv_lconst (v := 1) hx hb dL_respects_10 (by decide) ?_
  refine lv_goto (tgt := 15) hx hb dL_respects_11 (by decide) ?_
  refine va_last hx hb hK hP hD hS 0 2 rfl rfl (by unfold vp_in; decide) dL_respects_15 (fun H locs hP hD hS => ?_)
  have hP : va_P g.1 vwCl [(o, .inl (g.2.1.2.2.1, 1, .inr (.inl (vp_updL (fun _ => 0) 0 1))))] H := hP
  have hD : va_D A [(o, .inl (g.2.1.2.2.1, 1, .inr (.inl (vp_updL (fun _ => 0) 0 1))))] := hD
  refine lv_goto (tgt := 22) hx hb dL_respects_16 (by decide) ?_
  refine lv_iconst (v := 0) hx hb dL_respects_22 (by decide) ?_
  exact g_ir hx hb hr hlocks hP hD hS (vp_updL (fun _ => 0) 0 1) [0] rfl (by decide) rfl dL_respects_23 (Nat.le_of_ble_eq_true rfl) (Nat.le_of_ble_eq_true rfl) ((Or.inl (⟨rfl, hq, rfl⟩)))
