theorem g_shr0 (y : Int32) : (0 : Int32) >>> y = 0 := by
  apply Int32.toBitVec_inj.mp
  simp [Int32.toBitVec_shiftRight]
theorem g_and0 (y : Int32) : (0 : Int32) &&& y = 0 := Int32.zero_and
theorem g_and0r (y : Int32) : y &&& (0 : Int32) = 0 := Int32.and_zero
theorem g_ushr0 (y : Int32) : ((0 : Int32).toUInt32 >>> (y.toUInt32 &&& Int32.toUInt32 31)).toInt32 = 0 := by
  have h : (0 : Int32).toUInt32 >>> (y.toUInt32 &&& Int32.toUInt32 31) = 0 := by
    apply UInt32.toBitVec_inj.mp
    simp [UInt32.toBitVec_shiftRight]
  rw [h]
  rfl
/-- a literal, a set, as arguments -/
def gLit (x : Int32) : Prop := ¬ x < 0 ∧ x < 16
def gSet (x : Int32) : Prop := ¬ x < 0 ∧ x ≤ 65535
def gNil (x : Int32) : Prop := ¬ x < 0 ∧ x < 1
/-- the complements of a set, as the class has them -/
def gComp (x : Int32) : Int32 := ((x &&& 255) <<< ((8 : Int32) &&& 31)) ||| ((x.toUInt32 >>> ((8 : Int32).toUInt32 &&& Int32.toUInt32 31)).toInt32 &&& 255)
/-- .. and as the reference has them -/
def gCompM (x : Int32) : Int32 := (x >>> ((8 : Int32) &&& 31)) ||| ((x &&& 255) <<< ((8 : Int32) &&& 31))
/-- the closure without rules -/
def gClo (x : Int32) : Int32 := if x &&& gComp x = 0 then x else 65535
def gCloM (x : Int32) : Int32 := if x &&& gCompM x = 0 then x else 65535
theorem g_nil_in {x : Int32} {n : Nat} (h : gNil x) (hn : 1 ≤ n) : vp_in x n := by
  obtain ⟨h1, h2⟩ := h
  rw [vp_in_iff]
  have a1 : ¬ x.toInt < (0 : Int32).toInt := fun h => h1 (Int32.lt_iff_toInt_lt.mpr h)
  have a2 : x.toInt < (1 : Int32).toInt := Int32.lt_iff_toInt_lt.mp h2
  have e0 : (0 : Int32).toInt = 0 := by decide
  have e1 : (1 : Int32).toInt = 1 := by decide
  rw [e0] at a1
  rw [e1] at a2
  omega
theorem g_nil_cl {x : Int32} (h : gNil x) : x.toNatClampNeg = 0 := by
  have h3 := g_nil_in h (Nat.le_refl 1)
  unfold vp_in at h3
  omega
theorem g_upd00 (j : Nat) : upd (fun _ => (0 : Int32)) 0 0 j = 0 := by
  unfold upd
  split <;> rfl
theorem g_nil_1 {x : Int32} (h : gNil x) : upd (upd (fun _ => (0 : Int32)) 0 0) 0 1 x.toNatClampNeg = 1 := by
  rw [g_nil_cl h]
  rfl
