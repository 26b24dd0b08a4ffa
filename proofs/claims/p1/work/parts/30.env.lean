theorem g_comp_eq {x : Int32} (h : gSet x) : gComp x = gCompM x := by
  obtain ⟨h1, h2⟩ := h
  obtain ⟨j, hj, rfl⟩ := nI_of2 (M := 65535) (n := 65535) (by decide) h1 h2
  have e1 : nI j &&& 255 = nI (j % 2 ^ 8) := pk_andN (by omega) 8 (by decide)
  have e2 : ((nI j).toUInt32 >>> ((8 : Int32).toUInt32 &&& Int32.toUInt32 31)).toInt32 = nI (j / 2 ^ 8) := pk_ushrN (by omega) 8 8 (by decide)
  have e3 : nI (j / 2 ^ 8) &&& 255 = nI (j / 2 ^ 8 % 2 ^ 8) := pk_andN (by omega) 8 (by decide)
  have e4 : nI j >>> ((8 : Int32) &&& 31) = nI (j / 2 ^ 8) := pk_shrN (by omega) _ 8 (by decide)
  have e5 : j / 2 ^ 8 % 2 ^ 8 = j / 2 ^ 8 := Nat.mod_eq_of_lt (by omega)
  unfold gComp gCompM
  rw [e1, e2, e3, e4, e5]
  exact Int32.or_comm _ _
theorem g_clo_eq {x : Int32} (h : gSet x) : gClo x = gCloM x := by
  unfold gClo gCloM
  rw [g_comp_eq h]
