/-! numbers -/
theorem k_t32 {a : Int} (h : -2147483648 ≤ a ∧ a ≤ 2147483647) : (Int32.ofInt a).toInt = a := Int32.toInt_ofInt_of_le (by omega) (by omega)
theorem k_t64 {a : Int} (h : -9223372036854775808 ≤ a ∧ a ≤ 9223372036854775807) : (Int64.ofInt a).toInt = a := Int64.toInt_ofInt_of_le (by omega) (by omega)
theorem k_i8 {n : Int} (h : -128 ≤ n ∧ n < 128) : (Int8.ofInt n).toInt32 = Int32.ofInt n := by
  rw [← Int32.ofInt_int8ToInt, Int8.toInt_ofInt_of_le (by omega) (by omega)]
theorem k_i16 {n : Int} (h : -32768 ≤ n ∧ n < 32768) : (Int16.ofInt n).toInt32 = Int32.ofInt n := by
  rw [← Int32.ofInt_int16ToInt, Int16.toInt_ofInt_of_le (by omega) (by omega)]
theorem k_ne0 {b : Int} (hb : 0 < b ∧ b ≤ 2147483647) : ¬ Int32.ofInt b = 0 := fun h => by
  have h1 := congrArg Int32.toInt h
  rw [k_t32 (by omega)] at h1
  have h2 : (0 : Int32).toInt = 0 := rfl
  omega
theorem k_ne0L {b : Int} (hb : -9223372036854775808 ≤ b ∧ b ≤ 9223372036854775807 ∧ b ≠ 0) : ¬ Int64.ofInt b = 0 := fun h => by
  have h1 := congrArg Int64.toInt h
  rw [k_t64 (by omega)] at h1
  have h2 : (0 : Int64).toInt = 0 := rfl
  omega
theorem k_mi32 : Int32.minValue.toInt = -2147483648 := by decide
theorem k_ma32 : Int32.maxValue.toInt = 2147483647 := by decide
theorem k_mi64 : Int64.minValue.toInt = -9223372036854775808 := by decide
theorem k_ma64 : Int64.maxValue.toInt = 9223372036854775807 := by decide
theorem k_tdivb (a b : Int) : (a.tdiv b).natAbs ≤ a.natAbs := by
  rw [Int.natAbs_tdiv]
  exact Nat.div_le_self _ _
theorem k_div32 {a b : Int} (ha : -2147483648 ≤ a ∧ a ≤ 2147483647) (hb : 0 < b ∧ b ≤ 2147483647) : Int32.ofInt a / Int32.ofInt b = Int32.ofInt (a.tdiv b) := by
  apply Int32.toInt_inj.mp
  rw [Int32.toInt_div_of_ne_right _ _ (fun h => by have h1 := congrArg Int32.toInt h; rw [k_t32 (by omega)] at h1; have h2 : (-1 : Int32).toInt = -1 := by decide
                                                   omega), k_t32 ha, k_t32 (by omega), k_t32]
  have := k_tdivb a b
  rcases Int.le_total 0 a with h | h
  · have h3 := Int.tdiv_nonneg h (by omega : 0 ≤ b)
    omega
  · have h3 := Int.tdiv_nonneg (by omega : 0 ≤ -a) (by omega : 0 ≤ b)
    rw [Int.neg_tdiv] at h3
    omega
theorem k_rem32 {a b : Int} (ha : -2147483648 ≤ a ∧ a ≤ 2147483647) (hb : 0 < b ∧ b ≤ 2147483647) : Int32.ofInt a - Int32.ofInt a / Int32.ofInt b * Int32.ofInt b = Int32.ofInt (a.tmod b) := by
  rw [k_div32 ha hb, ← Int32.ofInt_mul, ← Int32.ofInt_sub, Int.tmod_def, Int.mul_comm]
theorem k_div64 {a b : Int} (ha : -9223372036854775807 ≤ a ∧ a ≤ 9223372036854775807) (hb : -9223372036854775808 ≤ b ∧ b ≤ 9223372036854775807 ∧ b ≠ 0) : Int64.ofInt a / Int64.ofInt b = Int64.ofInt (a.tdiv b) := by
  apply Int64.toInt_inj.mp
  rw [Int64.toInt_div_of_ne_left _ _ (fun h => by have h1 := congrArg Int64.toInt h; rw [k_t64 (by omega), k_mi64] at h1; omega), k_t64 (by omega), k_t64 (by omega), k_t64]
  have := k_tdivb a b
  omega
theorem k_rem64 {a b : Int} (ha : -9223372036854775807 ≤ a ∧ a ≤ 9223372036854775807) (hb : -9223372036854775808 ≤ b ∧ b ≤ 9223372036854775807 ∧ b ≠ 0) : Int64.ofInt a - Int64.ofInt a / Int64.ofInt b * Int64.ofInt b = Int64.ofInt (a.tmod b) := by
  rw [k_div64 ha hb, ← Int64.ofInt_mul, ← Int64.ofInt_sub, Int.tmod_def, Int.mul_comm]
theorem k_i2l_v {a : Int} (ha : -2147483648 ≤ a ∧ a ≤ 2147483647) : (Int32.ofInt a).toInt64 = Int64.ofInt a := by
  rw [← Int64.ofInt_int32ToInt, k_t32 ha]
theorem k_l2i_v (a : Int) : (Int64.ofInt a).toInt32 = Int32.ofInt a := Int64.toInt32_ofInt
theorem k_lt32 {a b : Int} (ha : -2147483648 ≤ a ∧ a ≤ 2147483647) (hb : -2147483648 ≤ b ∧ b ≤ 2147483647) : Int32.ofInt a < Int32.ofInt b ↔ a < b := by
  rw [Int32.lt_iff_toInt_lt, k_t32 ha, k_t32 hb]
theorem k_le32 {a b : Int} (ha : -2147483648 ≤ a ∧ a ≤ 2147483647) (hb : -2147483648 ≤ b ∧ b ≤ 2147483647) : Int32.ofInt a ≤ Int32.ofInt b ↔ a ≤ b := by
  rw [Int32.le_iff_toInt_le, k_t32 ha, k_t32 hb]
theorem k_eq32 {a b : Int} (ha : -2147483648 ≤ a ∧ a ≤ 2147483647) (hb : -2147483648 ≤ b ∧ b ≤ 2147483647) : Int32.ofInt a = Int32.ofInt b ↔ a = b := by
  rw [← Int32.toInt_inj, k_t32 ha, k_t32 hb]
theorem k_lt64 {a b : Int} (ha : -9223372036854775808 ≤ a ∧ a ≤ 9223372036854775807) (hb : -9223372036854775808 ≤ b ∧ b ≤ 9223372036854775807) : Int64.ofInt a < Int64.ofInt b ↔ a < b := by
  rw [Int64.lt_iff_toInt_lt, k_t64 ha, k_t64 hb]
theorem k_le64 {a b : Int} (ha : -9223372036854775808 ≤ a ∧ a ≤ 9223372036854775807) (hb : -9223372036854775808 ≤ b ∧ b ≤ 9223372036854775807) : Int64.ofInt a ≤ Int64.ofInt b ↔ a ≤ b := by
  rw [Int64.le_iff_toInt_le, k_t64 ha, k_t64 hb]
theorem k_eq64 {a b : Int} (ha : -9223372036854775808 ≤ a ∧ a ≤ 9223372036854775807) (hb : -9223372036854775808 ≤ b ∧ b ≤ 9223372036854775807) : Int64.ofInt a = Int64.ofInt b ↔ a = b := by
  rw [← Int64.toInt_inj, k_t64 ha, k_t64 hb]
theorem k_032 : (0 : Int32) = Int32.ofInt 0 := rfl
theorem k_r0 : -2147483648 ≤ (0 : Int) ∧ (0 : Int) ≤ 2147483647 := by decide
def kcmp (a b : Int) : Int := if b < a then 1 else if a = b then 0 else -1
theorem kcmp_r (a b : Int) : -2147483648 ≤ kcmp a b ∧ kcmp a b ≤ 2147483647 := by unfold kcmp; repeat (first | omega | split)
theorem kcmp_c (a b : Int) : (kcmp a b < 0 ↔ a < b) ∧ (kcmp a b = 0 ↔ a = b) ∧ (0 < kcmp a b ↔ b < a) := by
  unfold kcmp; repeat (first | omega | split)
theorem k_cmpv {a b : Int} (ha : -9223372036854775808 ≤ a ∧ a ≤ 9223372036854775807) (hb : -9223372036854775808 ≤ b ∧ b ≤ 9223372036854775807) : lg_cmp (Int64.ofInt a) (Int64.ofInt b) = Int32.ofInt (kcmp a b) := by
  unfold lg_cmp kcmp
  simp only [gt_iff_lt, k_lt64 hb ha, k_eq64 ha hb]
  split
  · rfl
  · split <;> rfl
theorem k_nat {a : Int} (h : 0 ≤ a ∧ a ≤ 2147483647) : (Int32.ofInt a).toNatClampNeg = a.toNat := by
  show (Int32.ofInt a).toInt.toNat = a.toNat
  rw [k_t32 (by omega)]
theorem k_in {a : Int} {n : Nat} (h : 0 ≤ a ∧ a < n) (hn : n ≤ 2147483647) : vp_in (Int32.ofInt a) n := by
  rw [vp_in_iff, k_t32 (by omega)]
  exact h
theorem k_nn {a : Int} (h : 0 ≤ a ∧ a ≤ 2147483647) : ¬ Int32.ofInt a < 0 := by
  rw [show (0 : Int32) = Int32.ofInt 0 from rfl, k_lt32 (by omega) (by omega)]
  omega
theorem k_zz32 {a : Int} (ha : -2147483648 ≤ a ∧ a ≤ 2147483647) : (Int32.ofInt a < 0 ↔ a < 0) ∧ (0 ≤ Int32.ofInt a ↔ 0 ≤ a) ∧ (Int32.ofInt a ≤ 0 ↔ a ≤ 0) ∧ (0 < Int32.ofInt a ↔ 0 < a) ∧ (Int32.ofInt a = 0 ↔ a = 0) := ⟨k_lt32 (b := 0) ha k_r0, k_le32 (a := 0) k_r0 ha, k_le32 (b := 0) ha k_r0, k_lt32 (a := 0) k_r0 ha, k_eq32 (b := 0) ha k_r0⟩
