set_option maxHeartbeats 4000000 in
set_option maxRecDepth 100000 in
theorem law_head {p : Program} {e : Env} {s : State} {m : MethodId} {below : List Frame} {meth : Method} {c : Code} {l : Launch} (hst : l.stackTraces = false) {b : Nat} {xs : Nat → Int32} (C0 : lw_At p s m meth c b 4 xs) {A : Nat → Prop} (hA : ∀ q, s.heap.size ≤ q → A q) (hA2 : ∀ q, A q → s.heap.size ≤ q) (hbA : ¬ A b) (g : gG) (hK : va_K g.1 vwCl (gTys g.2.1) s) (hE : gEnv g A s s.heap) {H : Heap} {locs : List Loc} {xx mm o od : Nat} {a mb : Nat → Nat} (hP : va_P g.1 vwCl [(xx, .inr (1, [.int 0, .int 0, .ref (a 2), .ref (a 3), .int 0, .ref (a 5), .ref (a 6), .ref (a 7), .ref (a 8), .ref (a 9), .int 0, .ref (a 11), .ref (a 12), .ref (a 13), .ref (a 14), .int 0, .int 0, .ref (a 17), .int 0, .int 0])), ((a 2), .inl (g.2.1.1, 16, .inl (fun _ => 0))), ((a 3), .inl (g.2.1.1, 16, .inl (fun _ => 0))), ((a 5), .inl (g.2.1.1, 6, .inl (fun _ => 0))), ((a 6), .inl (g.2.1.1, 6, .inl (fun _ => 0))), ((a 7), .inl (g.2.1.1, 6, .inl (fun _ => 0))), ((a 9), .inl (g.2.1.1, 6, .inl (fun _ => 0))), ((a 11), .inl (g.2.1.1, 6, .inl (fun _ => 0))), ((a 12), .inl (g.2.1.1, 64, .inl (fun _ => 0))), ((a 13), .inl (g.2.1.1, 64, .inl (fun _ => 0))), ((a 14), .inl (g.2.1.1, 64, .inl (fun _ => 0))), ((a 17), .inl (g.2.1.2.1, 64, .inl (fun _ => 0))), ((a 8), .inr (0, [.ref (a 20), .ref (a 21)])), ((a 20), .inl (g.2.1.1, 6, .inl (fun _ => 0))), ((a 21), .inl (g.2.1.1, 6, .inl (fun _ => 0))), (mm, .inr (2, [.int 0, .int 0, .int 0, .ref (mb 3), .ref (mb 4), .int 0, .ref (mb 6), .ref (mb 7), .ref (mb 8), .ref (mb 9), .int 0, .ref (mb 11), .int 0, .ref (mb 13), .ref (mb 14)])), ((mb 3), .inl (g.2.1.1, 16, .inl (fun _ => 0))), ((mb 4), .inl (g.2.1.1, 16, .inl (fun _ => 0))), ((mb 6), .inl (g.2.1.1, 6, .inl (fun _ => 0))), ((mb 7), .inl (g.2.1.1, 6, .inl (fun _ => 0))), ((mb 8), .inl (g.2.1.1, 6, .inl (fun _ => 0))), ((mb 9), .inl (g.2.1.2.1, 36, .inl (fun _ => 0))), ((mb 11), .inl (g.2.1.1, 6, .inl (fun _ => 0))), ((mb 13), .inl (g.2.1.1, 64, .inl (fun _ => 0))), ((mb 14), .inl (g.2.1.2.1, 64, .inl (fun _ => 0))), (o, .inl (g.2.1.2.2.1, 1, .inr (.inl (fun _ => 0)))), (od, .inl (g.2.1.2.2.2, 1, .inr (.inr (.inr (.inl (fun _ => 0))))))] H) (hD : va_D A [(xx, .inr (1, [.int 0, .int 0, .ref (a 2), .ref (a 3), .int 0, .ref (a 5), .ref (a 6), .ref (a 7), .ref (a 8), .ref (a 9), .int 0, .ref (a 11), .ref (a 12), .ref (a 13), .ref (a 14), .int 0, .int 0, .ref (a 17), .int 0, .int 0])), ((a 2), .inl (g.2.1.1, 16, .inl (fun _ => 0))), ((a 3), .inl (g.2.1.1, 16, .inl (fun _ => 0))), ((a 5), .inl (g.2.1.1, 6, .inl (fun _ => 0))), ((a 6), .inl (g.2.1.1, 6, .inl (fun _ => 0))), ((a 7), .inl (g.2.1.1, 6, .inl (fun _ => 0))), ((a 9), .inl (g.2.1.1, 6, .inl (fun _ => 0))), ((a 11), .inl (g.2.1.1, 6, .inl (fun _ => 0))), ((a 12), .inl (g.2.1.1, 64, .inl (fun _ => 0))), ((a 13), .inl (g.2.1.1, 64, .inl (fun _ => 0))), ((a 14), .inl (g.2.1.1, 64, .inl (fun _ => 0))), ((a 17), .inl (g.2.1.2.1, 64, .inl (fun _ => 0))), ((a 8), .inr (0, [.ref (a 20), .ref (a 21)])), ((a 20), .inl (g.2.1.1, 6, .inl (fun _ => 0))), ((a 21), .inl (g.2.1.1, 6, .inl (fun _ => 0))), (mm, .inr (2, [.int 0, .int 0, .int 0, .ref (mb 3), .ref (mb 4), .int 0, .ref (mb 6), .ref (mb 7), .ref (mb 8), .ref (mb 9), .int 0, .ref (mb 11), .int 0, .ref (mb 13), .ref (mb 14)])), ((mb 3), .inl (g.2.1.1, 16, .inl (fun _ => 0))), ((mb 4), .inl (g.2.1.1, 16, .inl (fun _ => 0))), ((mb 6), .inl (g.2.1.1, 6, .inl (fun _ => 0))), ((mb 7), .inl (g.2.1.1, 6, .inl (fun _ => 0))), ((mb 8), .inl (g.2.1.1, 6, .inl (fun _ => 0))), ((mb 9), .inl (g.2.1.2.1, 36, .inl (fun _ => 0))), ((mb 11), .inl (g.2.1.1, 6, .inl (fun _ => 0))), ((mb 13), .inl (g.2.1.1, 64, .inl (fun _ => 0))), ((mb 14), .inl (g.2.1.2.1, 64, .inl (fun _ => 0))), (o, .inl (g.2.1.2.2.1, 1, .inr (.inl (fun _ => 0)))), (od, .inl (g.2.1.2.2.2, 1, .inr (.inr (.inr (.inl (fun _ => 0))))))]) (hS : va_S A s.heap H locs) {ls : Array Slot} (hl : lv_has ls 9 [(5, .int 0), (4, .ref od), (3, .ref o), (2, .ref mm), (1, .ref xx), (0, .ref b)]) : W p l e room_1 s m #[Value.ref b] below meth c H locs 27 589 (lw_Z below #[Value.ref b] s) (F0 m 28 ls []) := by
  obtain ⟨hx, hb, hr, hml, hown, hts0, hX, hbl, hlocks, hgv⟩ := id C0
  refine lv_iload hx hb dL_law_28 (lv_at hl 0 rfl) ?_
  refine lv_aload_n hx hb dL_law_30 rfl (lv_at hl 5 rfl) ?_
  refine va_slen hx hb hX hbl hbA hS dL_law_31 ?_
  refine sy_i (y := 4) (by decide) ?_
  refine lv_iconst (v := 4) hx hb dL_law_32 (by decide) ?_
  refine lv_isub hx hb dL_law_33 ?_
  refine sy_i (y := 0) (by decide) ?_
  refine lv_icmp_gt (tgt := 1457) hx hb dL_law_34 (by decide) (fun c9 => absurd c9 (by decide)) (fun _ => ?_)
  refine lv_aload_n hx hb dL_law_37 rfl (lv_at hl 5 rfl) ?_
  refine lv_iload hx hb dL_law_38 (lv_at hl 0 rfl) ?_
  refine va_sld hx hb hX hbl hbA hS (by unfold vp_in; decide) dL_law_40 ?_
  refine sy_i (y := xs 0) rfl ?_
  refine lv_bipush (v := 31) hx hb dL_law_41 (by decide) ?_
  refine lv_iand hx hb dL_law_43 ?_
  obtain ⟨j, hj, ej⟩ := pk_andE (xs 0) (m := 31) 5 (by decide)
  refine sy_i ej ?_
  rcases (show j = 0 ∨ j = 1 ∨ j = 2 ∨ j = 3 ∨ j = 4 ∨ j = 5 ∨ j = 6 ∨ j = 7 ∨ j = 8 ∨ j = 9 ∨ j = 10 ∨ j = 11 ∨ j = 12 ∨ j = 13 ∨ j = 14 ∨ j = 15 ∨ j = 16 ∨ j = 17 ∨ j = 18 ∨ j = 19 ∨ j = 20 ∨ j = 21 ∨ j = 22 ∨ j = 23 ∨ j = 24 ∨ j = 25 ∨ j = 26 ∨ j = 27 ∨ j = 28 ∨ j = 29 ∨ j = 30 ∨ j = 31 by omega) with rfl | rfl | rfl | rfl | rfl | rfl | rfl | rfl | rfl | rfl | rfl | rfl | rfl | rfl | rfl | rfl | rfl | rfl | rfl | rfl | rfl | rfl | rfl | rfl | rfl | rfl | rfl | rfl | rfl | rfl | rfl | rfl
  · refine lv_tableIn (off := 120) (tgt := 164) hx hb dL_law_44 (by decide) (by decide) (by decide) (by decide) ?_
    exact law_c0 hst C0 hA hA2 hbA g hK hE hP hD hS hl
  · refine lv_tableIn (off := 211) (tgt := 255) hx hb dL_law_44 (by decide) (by decide) (by decide) (by decide) ?_
    exact law_c1 hst C0 hA hA2 hbA g hK hE hP hD hS hl
  · refine lv_tableIn (off := 279) (tgt := 323) hx hb dL_law_44 (by decide) (by decide) (by decide) (by decide) ?_
    exact law_c2 hst C0 hA hA2 hbA g hK hE hP hD hS hl
  · refine lv_tableIn (off := 359) (tgt := 403) hx hb dL_law_44 (by decide) (by decide) (by decide) (by decide) ?_
    exact law_c3 hst C0 hA hA2 hbA g hK hE hP hD hS hl
  · refine lv_tableIn (off := 403) (tgt := 447) hx hb dL_law_44 (by decide) (by decide) (by decide) (by decide) ?_
    exact law_c4 hst C0 hA hA2 hbA g hK hE hP hD hS hl
  · refine lv_tableIn (off := 447) (tgt := 491) hx hb dL_law_44 (by decide) (by decide) (by decide) (by decide) ?_
    exact law_c5 hst C0 hA hA2 hbA g hK hE hP hD hS hl
  · refine lv_tableIn (off := 522) (tgt := 566) hx hb dL_law_44 (by decide) (by decide) (by decide) (by decide) ?_
    exact law_c6 hst C0 hA hA2 hbA g hK hE hP hD hS hl
  · refine lv_tableIn (off := 535) (tgt := 579) hx hb dL_law_44 (by decide) (by decide) (by decide) (by decide) ?_
    exact law_c7 hst C0 hA hA2 hbA g hK hE hP hD hS hl
  · refine lv_tableIn (off := 610) (tgt := 654) hx hb dL_law_44 (by decide) (by decide) (by decide) (by decide) ?_
    exact law_c8 hst C0 hA hA2 hbA g hK hE hP hD hS hl
  · refine lv_tableIn (off := 623) (tgt := 667) hx hb dL_law_44 (by decide) (by decide) (by decide) (by decide) ?_
    exact law_c9 hst C0 hA hA2 hbA g hK hE hP hD hS hl
  · refine lv_tableIn (off := 636) (tgt := 680) hx hb dL_law_44 (by decide) (by decide) (by decide) (by decide) ?_
    exact law_c10 hst C0 hA hA2 hbA g hK hE hP hD hS hl
  · refine lv_tableIn (off := 692) (tgt := 736) hx hb dL_law_44 (by decide) (by decide) (by decide) (by decide) ?_
    exact law_c11 hst C0 hA hA2 hbA g hK hE hP hD hS hl
  · refine lv_tableIn (off := 767) (tgt := 811) hx hb dL_law_44 (by decide) (by decide) (by decide) (by decide) ?_
    exact law_c12 hst C0 hA hA2 hbA g hK hE hP hD hS hl
  · refine lv_tableIn (off := 823) (tgt := 867) hx hb dL_law_44 (by decide) (by decide) (by decide) (by decide) ?_
    exact law_c13 hst C0 hA hA2 hbA g hK hE hP hD hS hl
  · refine lv_tableIn (off := 886) (tgt := 930) hx hb dL_law_44 (by decide) (by decide) (by decide) (by decide) ?_
    exact law_c14 hst C0 hA hA2 hbA g hK hE hP hD hS hl
  · refine lv_tableIn (off := 899) (tgt := 943) hx hb dL_law_44 (by decide) (by decide) (by decide) (by decide) ?_
    exact law_c15 hst C0 hA hA2 hbA g hK hE hP hD hS hl
  · refine lv_tableIn (off := 955) (tgt := 999) hx hb dL_law_44 (by decide) (by decide) (by decide) (by decide) ?_
    exact law_c16 hst C0 hA hA2 hbA g hK hE hP hD hS hl
  · refine lv_tableIn (off := 1018) (tgt := 1062) hx hb dL_law_44 (by decide) (by decide) (by decide) (by decide) ?_
    exact law_c17 hst C0 hA hA2 hbA g hK hE hP hD hS hl
  · refine lv_tableIn (off := 1031) (tgt := 1075) hx hb dL_law_44 (by decide) (by decide) (by decide) (by decide) ?_
    exact law_c18 hst C0 hA hA2 hbA g hK hE hP hD hS hl
  · refine lv_tableIn (off := 1087) (tgt := 1131) hx hb dL_law_44 (by decide) (by decide) (by decide) (by decide) ?_
    exact law_c19 hst C0 hA hA2 hbA g hK hE hP hD hS hl
  · refine lv_tableIn (off := 1128) (tgt := 1172) hx hb dL_law_44 (by decide) (by decide) (by decide) (by decide) ?_
    exact law_c20 hst C0 hA hA2 hbA g hK hE hP hD hS hl
  · refine lv_tableIn (off := 1205) (tgt := 1249) hx hb dL_law_44 (by decide) (by decide) (by decide) (by decide) ?_
    exact law_c21 hst C0 hA hA2 hbA g hK hE hP hD hS hl
  · refine lv_tableIn (off := 1261) (tgt := 1305) hx hb dL_law_44 (by decide) (by decide) (by decide) (by decide) ?_
    exact law_c22 hst C0 hA hA2 hbA g hK hE hP hD hS hl
  · refine lv_tableIn (off := 1274) (tgt := 1318) hx hb dL_law_44 (by decide) (by decide) (by decide) (by decide) ?_
    exact law_c23 hst C0 hA hA2 hbA g hK hE hP hD hS hl
  · refine lv_tableIn (off := 1330) (tgt := 1374) hx hb dL_law_44 (by decide) (by decide) (by decide) (by decide) ?_
    exact law_c24 hst C0 hA hA2 hbA g hK hE hP hD hS hl
  · refine lv_tableIn (off := 1393) (tgt := 1437) hx hb dL_law_44 (by decide) (by decide) (by decide) (by decide) ?_
    exact law_c25 hst C0 hA hA2 hbA g hK hE hP hD hS hl
  · refine lv_tableOut (tgt := 1451) hx hb dL_law_44 (Or.inr (by decide)) (by decide) ?_
    exact law_end C0 hA2 hbA hS (Nat.le_of_ble_eq_true rfl) (Nat.le_of_ble_eq_true rfl) (lv_sub hl [0, 5] rfl)
  · refine lv_tableOut (tgt := 1451) hx hb dL_law_44 (Or.inr (by decide)) (by decide) ?_
    exact law_end C0 hA2 hbA hS (Nat.le_of_ble_eq_true rfl) (Nat.le_of_ble_eq_true rfl) (lv_sub hl [0, 5] rfl)
  · refine lv_tableOut (tgt := 1451) hx hb dL_law_44 (Or.inr (by decide)) (by decide) ?_
    exact law_end C0 hA2 hbA hS (Nat.le_of_ble_eq_true rfl) (Nat.le_of_ble_eq_true rfl) (lv_sub hl [0, 5] rfl)
  · refine lv_tableOut (tgt := 1451) hx hb dL_law_44 (Or.inr (by decide)) (by decide) ?_
    exact law_end C0 hA2 hbA hS (Nat.le_of_ble_eq_true rfl) (Nat.le_of_ble_eq_true rfl) (lv_sub hl [0, 5] rfl)
  · refine lv_tableOut (tgt := 1451) hx hb dL_law_44 (Or.inr (by decide)) (by decide) ?_
    exact law_end C0 hA2 hbA hS (Nat.le_of_ble_eq_true rfl) (Nat.le_of_ble_eq_true rfl) (lv_sub hl [0, 5] rfl)
  · refine lv_tableOut (tgt := 1451) hx hb dL_law_44 (Or.inr (by decide)) (by decide) ?_
    exact law_end C0 hA2 hbA hS (Nat.le_of_ble_eq_true rfl) (Nat.le_of_ble_eq_true rfl) (lv_sub hl [0, 5] rfl)
