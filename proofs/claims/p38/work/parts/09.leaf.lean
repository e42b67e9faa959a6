theorem wmath_mmin : Cond.static Lib.Math.min.name ∈ kwords ∧ Cond.initialized "java/lang/Math" ∈ kwords ∧ Cond.code Lib.Math.min.name Lib.Math.min.code 2 (some .int) ∈ kwords := ⟨kw_mem 558 (by decide +kernel) rfl, kw_mem 21 (by decide +kernel) rfl, kw_mem 559 (by decide +kernel) rfl⟩
theorem wmath_mabs : Cond.static Lib.Math.abs.name ∈ kwords ∧ Cond.initialized "java/lang/Math" ∈ kwords ∧ Cond.code Lib.Math.abs.name Lib.Math.abs.code 1 (some .int) ∈ kwords := ⟨kw_mem 788 (by decide +kernel) rfl, kw_mem 21 (by decide +kernel) rfl, kw_mem 789 (by decide +kernel) rfl⟩
theorem wmath_mmaxL : Cond.static Lib.MathLoose.max_long.x ∈ kwords ∧ Cond.initialized "java/lang/Math" ∈ kwords ∧ Cond.code Lib.MathLoose.max_long.x Lib.MathLoose.max_long.code 4 (some .long) ∈ kwords := ⟨kw_mem 1093 (by decide +kernel) rfl, kw_mem 21 (by decide +kernel) rfl, kw_mem 1094 (by decide +kernel) rfl⟩
theorem wmath_mminL : Cond.static Lib.MathLoose.min_long.x ∈ kwords ∧ Cond.initialized "java/lang/Math" ∈ kwords ∧ Cond.code Lib.MathLoose.min_long.x Lib.MathLoose.min_long.code 4 (some .long) ∈ kwords := ⟨kw_mem 1090 (by decide +kernel) rfl, kw_mem 21 (by decide +kernel) rfl, kw_mem 1091 (by decide +kernel) rfl⟩
theorem wmath_mabsL : Cond.static Lib.MathLoose.abs_long.x ∈ kwords ∧ Cond.initialized "java/lang/Math" ∈ kwords ∧ Cond.code Lib.MathLoose.abs_long.x Lib.MathLoose.abs_long.code 2 (some .long) ∈ kwords := ⟨kw_mem 1154 (by decide +kernel) rfl, kw_mem 21 (by decide +kernel) rfl, kw_mem 1155 (by decide +kernel) rfl⟩
theorem wcopy : Cond.native arraycopyName ∈ kwords ∧ Cond.static arraycopyName ∈ kwords ∧ Cond.initialized "java/lang/System" ∈ kwords := ⟨kw_mem 623 (by decide +kernel) rfl, kw_mem 622 (by decide +kernel) rfl, kw_mem 22 (by decide +kernel) rfl⟩

theorem fdiv_1 {a b z : Int} (hb : b ≠ 0) (h : z < 0 ↔ (a < 0 ↔ 0 ≤ b)) (hz : 0 ≤ z) : a.fdiv b = a.tdiv b := by
  have s1 : b < 0 → b.sign = -1 := Int.sign_eq_neg_one_of_neg
  have s2 : 0 < b → b.sign = 1 := Int.sign_eq_one_of_pos
  rw [Int.fdiv_eq_tdiv]
  split
  · omega
  · split <;> split <;> omega
theorem fdiv_2 {a b z : Int} (hb : b ≠ 0) (h : z < 0 ↔ (a < 0 ↔ 0 ≤ b)) (hz : z < 0) (hm : a.tdiv b * b ≠ a) : a.fdiv b = a.tdiv b - 1 := by
  have s1 : b < 0 → b.sign = -1 := Int.sign_eq_neg_one_of_neg
  have s2 : 0 < b → b.sign = 1 := Int.sign_eq_one_of_pos
  rw [Int.fdiv_eq_tdiv]
  have hd : ¬ b ∣ a := fun hd => hm (Int.tdiv_mul_cancel hd)
  rw [if_neg hd]
  split <;> split <;> omega
theorem fdiv_3 {a b : Int} (hm : a.tdiv b * b = a) : a.fdiv b = a.tdiv b := by
  rw [Int.fdiv_eq_tdiv, if_pos ⟨a.tdiv b, by rw [Int.mul_comm]; exact hm.symm⟩]
  omega
theorem tmod_1 {a b : Int} (hb : 0 < b) (h : 0 ≤ a) : a % b = a.tmod b := (Int.tmod_eq_emod_of_nonneg h).symm
theorem tmod_2 {a b : Int} (hb : 0 < b) (h : a.tmod b = 0) : a % b = a.tmod b := by
  rw [h]; exact Int.emod_eq_zero_of_dvd (Int.dvd_of_tmod_eq_zero h)
theorem tmod_3 {a b : Int} (hb : 0 < b) (h0 : a < 0) (h : a.tmod b ≠ 0) : a % b = a.tmod b + b := by
  have hd : ¬ b ∣ a := fun hd => h (Int.tmod_eq_zero_of_dvd hd)
  rw [Int.tmod_eq_emod, if_neg (by omega)]
  omega
def lonM (a : Int) : Int := (a + 10800) % 21600 - 10800
theorem k_lonb (a : Int) : -10800 ≤ lonM a ∧ lonM a ≤ 10799 := by unfold lonM; omega
theorem k_tmodb (a b : Int) : (0 ≤ a → 0 ≤ a.tmod b ∧ a.tmod b ≤ a) ∧ (a ≤ 0 → a.tmod b ≤ 0 ∧ a ≤ a.tmod b) := by
  constructor
  · intro h
    have h1 := Int.tmod_nonneg b h
    have h2 : (a.tmod b).natAbs ≤ a.natAbs := by rw [Int.natAbs_tmod]; exact Nat.mod_le _ _
    omega
  · intro h
    have h1 := Int.tmod_nonneg b (by omega : 0 ≤ -a)
    rw [Int.neg_tmod] at h1
    have h2 : (a.tmod b).natAbs ≤ a.natAbs := by rw [Int.natAbs_tmod]; exact Nat.mod_le _ _
    omega
set_option maxRecDepth 100000 in
set_option maxHeartbeats 4000000 in
theorem c_J9_floorDiv_f86c9 (l : Launch) (hls : l.stackTraces = false) (G : kG) (hN : 133 ≤ kN G) (w : Nat → va_E) (fl : va_W) (a b : Int) (ha : -9223372036854775807 ≤ a ∧ a ≤ 9223372036854775807) (hb : -9223372036854775808 ≤ b ∧ b ≤ 9223372036854775807 ∧ b ≠ 0) : KM l G yJ9_floorDiv_f86c9 cJ9_floorDiv_f86c9 6 (some (FieldType.long)) 0 0 0 [vL a, vL b] w fl (kPure (vL (a.fdiv b)) w fl) := by
  refine KM_ofF hls (by decide +kernel) rfl (lv0 := [(0, vL a), (2, vL b)]) rfl (Nat.le_of_ble_eq_true rfl) (fun p e R s m args below meth c Q hC hr hQ => ?_)
  refine k_lload_n hC dJ9_floorDiv_f86c9_0 rfl 0 rfl ?_
  refine k_lload_n hC dJ9_floorDiv_f86c9_1 rfl 1 rfl ?_
  refine k_ldiv hC dJ9_floorDiv_f86c9_2 (by omega) (by omega) ?_
  refine k_topL (fun q eq => ?_)
  refine k_lstore hC [(4, vL q), (0, vL a), (2, vL b)] dJ9_floorDiv_f86c9_3 (by decide) rfl ?_
  have hq : -9223372036854775807 ≤ q ∧ q ≤ 9223372036854775807 := by have := k_tdivb a b; omega
  have hm : -9223372036854775808 ≤ q * b ∧ q * b ≤ 9223372036854775807 := by
    have h1 := Int.tmod_add_tdiv_mul a b
    have h2 := k_tmodb a b
    rw [← eq] at h1
    omega
  refine k_lload_n hC dJ9_floorDiv_f86c9_5 rfl 1 rfl ?_
  refine k_lload_n hC dJ9_floorDiv_f86c9_6 rfl 2 rfl ?_
  refine k_lxor hC dJ9_floorDiv_f86c9_7 (by omega) (by omega) (fun z_1 rz_1 xz_1 => ?_)
  refine k_lconst (x := 0) hC dJ9_floorDiv_f86c9_8 (by decide) ?_
  refine k_lcmp_ge hC 27 dJ9_floorDiv_f86c9_9 dJ9_floorDiv_f86c9_10 rfl (by omega) (by omega) (fun c_9 => ?_) (fun c_9 => ?_)
  · refine k_lload hC dJ9_floorDiv_f86c9_27 0 rfl ?_
    subst hQ
    exact k_lret hC hr ⟨by decide, by decide⟩ (⟨congrArg (fun z => some (vL z)) (show (a.fdiv b : Int) = q from by rw [eq]; first | exact fdiv_1 hb.2.2 xz_1 c_9 | exact fdiv_3 (by rw [← eq]; exact c_18)), rfl, rfl⟩) dJ9_floorDiv_f86c9_29
  · refine k_lload hC dJ9_floorDiv_f86c9_13 0 rfl ?_
    refine k_lload_n hC dJ9_floorDiv_f86c9_15 rfl 2 rfl ?_
    refine k_lmul hC dJ9_floorDiv_f86c9_16 ?_
    refine k_lload_n hC dJ9_floorDiv_f86c9_17 rfl 1 rfl ?_
    refine k_lcmp_eq hC 27 dJ9_floorDiv_f86c9_18 dJ9_floorDiv_f86c9_19 rfl (by omega) (by omega) (fun c_18 => ?_) (fun c_18 => ?_)
    · refine k_lload hC dJ9_floorDiv_f86c9_27 0 rfl ?_
      subst hQ
      exact k_lret hC hr ⟨by decide, by decide⟩ (⟨congrArg (fun z => some (vL z)) (show (a.fdiv b : Int) = q from by rw [eq]; first | exact fdiv_1 hb.2.2 xz_1 c_9 | exact fdiv_3 (by rw [← eq]; exact c_18)), rfl, rfl⟩) dJ9_floorDiv_f86c9_29
    · refine k_lload hC dJ9_floorDiv_f86c9_22 0 rfl ?_
      refine k_lconst (x := 1) hC dJ9_floorDiv_f86c9_24 (by decide) ?_
      refine k_lsub hC dJ9_floorDiv_f86c9_25 ?_
      subst hQ
      exact k_lret hC hr ⟨by decide, by decide⟩ (⟨congrArg (fun z => some (vL z)) (show (a.fdiv b : Int) = q - 1 from by rw [eq]; exact fdiv_2 hb.2.2 xz_1 c_9 (by rw [← eq]; exact c_18)), rfl, rfl⟩) dJ9_floorDiv_f86c9_26

set_option maxRecDepth 100000 in
set_option maxHeartbeats 4000000 in
theorem c_J9_floorMod_f86c9 (l : Launch) (hls : l.stackTraces = false) (G : kG) (hN : 133 ≤ kN G) (w : Nat → va_E) (fl : va_W) (a b : Int) (ha : -9223372036854775807 ≤ a ∧ a ≤ 9223372036854775807) (hb : 0 < b ∧ b ≤ 4611686018427387904) : KM l G yJ9_floorMod_f86c9 cJ9_floorMod_f86c9 6 (some (FieldType.long)) 0 0 0 [vL a, vL b] w fl (kPure (vL (a % b)) w fl) := by
  refine KM_ofF hls (by decide +kernel) rfl (lv0 := [(0, vL a), (2, vL b)]) rfl (Nat.le_of_ble_eq_true rfl) (fun p e R s m args below meth c Q hC hr hQ => ?_)
  refine k_lload_n hC dJ9_floorMod_f86c9_0 rfl 0 rfl ?_
  refine k_lload_n hC dJ9_floorMod_f86c9_1 rfl 1 rfl ?_
  refine k_lrem hC dJ9_floorMod_f86c9_2 (by omega) (by omega) ?_
  refine k_topL (fun q eq => ?_)
  refine k_lstore hC [(4, vL q), (0, vL a), (2, vL b)] dJ9_floorMod_f86c9_3 (by decide) rfl ?_
  have hq := k_tmodb a b
  rw [← eq] at hq
  refine k_lload_n hC dJ9_floorMod_f86c9_5 rfl 1 rfl ?_
  refine k_lload_n hC dJ9_floorMod_f86c9_6 rfl 2 rfl ?_
  refine k_lxor hC dJ9_floorMod_f86c9_7 (by omega) (by omega) (fun z_1 rz_1 xz_1 => ?_)
  refine k_lconst (x := 0) hC dJ9_floorMod_f86c9_8 (by decide) ?_
  refine k_lcmp_ge hC 25 dJ9_floorMod_f86c9_9 dJ9_floorMod_f86c9_10 rfl (by omega) (by omega) (fun c_9 => ?_) (fun c_9 => ?_)
  · refine k_lload hC dJ9_floorMod_f86c9_25 0 rfl ?_
    subst hQ
    exact k_lret hC hr ⟨by decide, by decide⟩ (⟨congrArg (fun z => some (vL z)) (show (a % b : Int) = q from by rw [eq]; first | exact tmod_1 hb.1 (by omega) | exact tmod_2 hb.1 (by omega)), rfl, rfl⟩) dJ9_floorMod_f86c9_27
  · refine k_lload hC dJ9_floorMod_f86c9_13 0 rfl ?_
    refine k_lconst (x := 0) hC dJ9_floorMod_f86c9_15 (by decide) ?_
    refine k_lcmp_eq hC 25 dJ9_floorMod_f86c9_16 dJ9_floorMod_f86c9_17 rfl (by omega) (by omega) (fun c_16 => ?_) (fun c_16 => ?_)
    · refine k_lload hC dJ9_floorMod_f86c9_25 0 rfl ?_
      subst hQ
      exact k_lret hC hr ⟨by decide, by decide⟩ (⟨congrArg (fun z => some (vL z)) (show (a % b : Int) = q from by rw [eq]; first | exact tmod_1 hb.1 (by omega) | exact tmod_2 hb.1 (by omega)), rfl, rfl⟩) dJ9_floorMod_f86c9_27
    · refine k_lload hC dJ9_floorMod_f86c9_20 0 rfl ?_
      refine k_lload_n hC dJ9_floorMod_f86c9_22 rfl 2 rfl ?_
      refine k_ladd hC dJ9_floorMod_f86c9_23 ?_
      subst hQ
      exact k_lret hC hr ⟨by decide, by decide⟩ (⟨congrArg (fun z => some (vL z)) (show (a % b : Int) = q + b from by rw [eq]; exact tmod_3 hb.1 (by omega) (by omega)), rfl, rfl⟩) dJ9_floorMod_f86c9_24

set_option maxRecDepth 100000 in
set_option maxHeartbeats 4000000 in
theorem c_J9_floorMod_7cf53 (l : Launch) (hls : l.stackTraces = false) (G : kG) (hN : 133 ≤ kN G) (w : Nat → va_E) (fl : va_W) (a b : Int) (ha : -2147483648 ≤ a ∧ a ≤ 2147483647) (hb : 0 < b ∧ b ≤ 1073741824) : KM l G yJ9_floorMod_7cf53 cJ9_floorMod_7cf53 3 (some (FieldType.int)) 0 0 0 [vI a, vI b] w fl (kPure (vI (a % b)) w fl) := by
  refine KM_ofF hls (by decide +kernel) rfl (lv0 := [(0, vI a), (1, vI b)]) rfl (Nat.le_of_ble_eq_true rfl) (fun p e R s m args below meth c Q hC hr hQ => ?_)
  refine k_iload_n hC dJ9_floorMod_7cf53_0 rfl 0 rfl ?_
  refine k_iload_n hC dJ9_floorMod_7cf53_1 rfl 1 rfl ?_
  refine k_irem hC dJ9_floorMod_7cf53_2 (by omega) (by omega) ?_
  refine k_topI (fun q eq => ?_)
  refine k_istore_n hC [(2, vI q), (0, vI a), (1, vI b)] dJ9_floorMod_7cf53_3 rfl (by decide) rfl ?_
  have hq := k_tmodb a b
  rw [← eq] at hq
  refine k_iload_n hC dJ9_floorMod_7cf53_4 rfl 1 rfl ?_
  refine k_iload_n hC dJ9_floorMod_7cf53_5 rfl 2 rfl ?_
  refine k_ixor hC dJ9_floorMod_7cf53_6 (by omega) (by omega) (fun z_1 rz_1 xz_1 => ?_)
  refine k_if_ge hC 18 dJ9_floorMod_7cf53_7 rfl (by omega) (fun c_7 => ?_) (fun c_7 => ?_)
  · refine k_iload_n hC dJ9_floorMod_7cf53_18 rfl 0 rfl ?_
    subst hQ
    exact k_iret hC hr ⟨by decide, by decide⟩ (⟨congrArg (fun z => some (vI z)) (show (a % b : Int) = q from by rw [eq]; first | exact tmod_1 hb.1 (by omega) | exact tmod_2 hb.1 (by omega)), rfl, rfl⟩) dJ9_floorMod_7cf53_19
  · refine k_iload_n hC dJ9_floorMod_7cf53_10 rfl 0 rfl ?_
    refine k_if_eq hC 18 dJ9_floorMod_7cf53_11 rfl (by omega) (fun c_11 => ?_) (fun c_11 => ?_)
    · refine k_iload_n hC dJ9_floorMod_7cf53_18 rfl 0 rfl ?_
      subst hQ
      exact k_iret hC hr ⟨by decide, by decide⟩ (⟨congrArg (fun z => some (vI z)) (show (a % b : Int) = q from by rw [eq]; first | exact tmod_1 hb.1 (by omega) | exact tmod_2 hb.1 (by omega)), rfl, rfl⟩) dJ9_floorMod_7cf53_19
    · refine k_iload_n hC dJ9_floorMod_7cf53_14 rfl 0 rfl ?_
      refine k_iload_n hC dJ9_floorMod_7cf53_15 rfl 2 rfl ?_
      refine k_iadd hC dJ9_floorMod_7cf53_16 ?_
      subst hQ
      exact k_iret hC hr ⟨by decide, by decide⟩ (⟨congrArg (fun z => some (vI z)) (show (a % b : Int) = q + b from by rw [eq]; exact tmod_3 hb.1 (by omega) (by omega)), rfl, rfl⟩) dJ9_floorMod_7cf53_17

set_option maxRecDepth 100000 in
set_option maxHeartbeats 4000000 in
theorem c_X11_down (l : Launch) (hls : l.stackTraces = false) (G : kG) (hN : 133 ≤ kN G) (w : Nat → va_E) (fl : va_W) (a b : Int) (ha : -9223372036854775807 ≤ a ∧ a ≤ 9223372036854775807) (hb : -9223372036854775808 ≤ b ∧ b ≤ 9223372036854775807) : KM l G yX11_down cX11_down 4 (some (FieldType.long)) 1 0 0 [vL a, vL b] w fl (kPure (vL (a.fdiv b)) w fl) := by
  refine KM_of2 hls (by decide +kernel) rfl (lv0 := [(0, vL a), (2, vL b)]) rfl (Nat.le_of_ble_eq_true rfl) (fun p e R s m args below meth c Q hC hr hQ => ?_)
  refine k_lload_n hC dX11_down_0 rfl 1 rfl ?_
  refine k_lconst (x := 0) hC dX11_down_1 (by decide) ?_
  refine k_lcmp_ne hC 10 dX11_down_2 dX11_down_3 rfl (by omega) (by omega) (fun c_2 => ?_) (fun c_2 => ?_)
  · refine k_lload_n hC dX11_down_10 rfl 0 rfl ?_
    refine k_lload_n hC dX11_down_11 rfl 1 rfl ?_
    refine k_pureS hC (c_J9_floorDiv_f86c9 l hls G hN w fl a b (by omega) (by omega)) yy_J9_floorDiv_f86c9 wm_X11_444 rfl rfl (Nat.le_of_ble_eq_true rfl) (by decide) (by decide) ⟨by decide, by decide⟩ dX11_down_12 ?_
    subst hQ
    exact k_lret hC hr ⟨by decide, by decide⟩ (⟨congrArg (fun z => some (vL z)) (show (a.fdiv b : Int) = (a).fdiv b from by omega), rfl, rfl⟩) dX11_down_15
  · refine k_lconst (x := 0) hC dX11_down_6 (by decide) ?_
    refine k_goto hC 15 dX11_down_7 rfl ?_
    subst hQ
    exact k_lret hC hr ⟨by decide, by decide⟩ (⟨congrArg (fun z => some (vL z)) (show (a.fdiv b : Int) = 0 from by rw [c_2]; exact Int.fdiv_zero a), rfl, rfl⟩) dX11_down_15

set_option maxRecDepth 100000 in
set_option maxHeartbeats 4000000 in
theorem c_X11_product (l : Launch) (hls : l.stackTraces = false) (G : kG) (hN : 133 ≤ kN G) (w : Nat → va_E) (fl : va_W) (a b : Int) (ha : -9223372036854775807 ≤ a * b ∧ a * b ≤ 9223372036854775807) : KM l G yX11_product cX11_product 4 (some (FieldType.long)) 1 0 0 [vL a, vL b] w fl (kPure (vL (prodM a b)) w fl) := by
  refine KM_of2 hls (by decide +kernel) rfl (lv0 := [(0, vL a), (2, vL b)]) rfl (Nat.le_of_ble_eq_true rfl) (fun p e R s m args below meth c Q hC hr hQ => ?_)
  refine k_lload_n hC dX11_product_0 rfl 0 rfl ?_
  refine k_lload_n hC dX11_product_1 rfl 1 rfl ?_
  refine k_lmul hC dX11_product_2 ?_
  refine k_ldc2 hC (x := 1000000) (v := 1000000) dX11_product_3 (by decide) wk_X11_447 ?_
  refine k_pureS hC (c_J9_floorDiv_f86c9 l hls G hN w fl (a * b) 1000000 (by omega) (by omega)) yy_J9_floorDiv_f86c9 wm_X11_444 rfl rfl (Nat.le_of_ble_eq_true rfl) (by decide) (by decide) ⟨by decide, by decide⟩ dX11_product_6 ?_
  subst hQ
  exact k_lret hC hr ⟨by decide, by decide⟩ (⟨congrArg (fun z => some (vL z)) (show (prodM a b : Int) = (a * b).fdiv 1000000 from (Int.fdiv_eq_ediv_of_nonneg _ (by decide)).symm), rfl, rfl⟩) dX11_product_9

set_option maxRecDepth 100000 in
set_option maxHeartbeats 4000000 in
theorem c_X11_limited (l : Launch) (hls : l.stackTraces = false) (G : kG) (hN : 133 ≤ kN G) (w : Nat → va_E) (fl : va_W) (a : Int) (ha : -9223372036854775808 ≤ a ∧ a ≤ 9223372036854775807) : KM l G yX11_limited cX11_limited 2 (some (FieldType.int)) 1 0 0 [vL a] w fl (kPure (vI (limM a)) w fl) := by
  refine KM_of2 hls (by decide +kernel) rfl (lv0 := [(0, vL a)]) rfl (Nat.le_of_ble_eq_true rfl) (fun p e R s m args below meth c Q hC hr hQ => ?_)
  refine k_ldc2 hC (x := (-1000000)) (v := (-1000000)) dX11_limited_0 (by decide) wk_X11_449 ?_
  refine k_ldc2 hC (x := 1000000) (v := 1000000) dX11_limited_3 (by decide) wk_X11_447 ?_
  refine k_lload_n hC dX11_limited_6 rfl 0 rfl ?_
  refine k_mminL hC wm_X11_451 wmath_mminL (by omega) (by omega) (by decide) (Nat.le_of_ble_eq_true rfl) ⟨by decide, by decide⟩ dX11_limited_7 ?_
  refine k_mmaxL hC wm_X11_454 wmath_mmaxL (by omega) (by omega) (by decide) (Nat.le_of_ble_eq_true rfl) ⟨by decide, by decide⟩ dX11_limited_10 ?_
  refine k_l2i hC dX11_limited_13 ?_
  subst hQ
  exact k_iret hC hr ⟨by decide, by decide⟩ (⟨congrArg (fun z => some (vI z)) (show (limM a : Int) = max (-1000000) (min 1000000 a) from rfl), rfl, rfl⟩) dX11_limited_14

set_option maxRecDepth 100000 in
set_option maxHeartbeats 4000000 in
theorem c_X11_sineOf (l : Launch) (hls : l.stackTraces = false) (G : kG) (hN : 133 ≤ kN G) (w : Nat → va_E) (fl : va_W) (a : Int) (ha : -2147483648 ≤ a ∧ a ≤ 2147483647) : KM l G yX11_sineOf cX11_sineOf 10 (some (FieldType.int)) 1 0 0 [vI a] w fl (kPure (vI (sinM a)) w fl) := by
  refine KM_of2 hls (by decide +kernel) rfl (lv0 := [(0, vI a)]) rfl (Nat.le_of_ble_eq_true rfl) (fun p e R s m args below meth c Q hC hr hQ => ?_)
  refine k_iload_n hC dX11_sineOf_0 rfl 0 rfl ?_
  refine k_sipush hC dX11_sineOf_1 (by decide) ?_
  refine k_pureS hC (c_J9_floorMod_7cf53 l hls G hN w fl a 21600 (by omega) (by omega)) yy_J9_floorMod_7cf53 wm_X11_457 rfl rfl (Nat.le_of_ble_eq_true rfl) (by decide) (by decide) ⟨by decide, by decide⟩ dX11_sineOf_4 ?_
  refine k_topI (fun t et => ?_)
  refine k_istore_n hC [(1, vI t), (0, vI a)] dX11_sineOf_7 rfl (by decide) rfl ?_
  refine k_iload_n hC dX11_sineOf_8 rfl 0 rfl ?_
  refine k_sipush hC dX11_sineOf_9 (by decide) ?_
  refine k_icmp_lt hC 19 dX11_sineOf_12 rfl (by omega) (by omega) (fun c_12 => ?_) (fun c_12 => ?_)
  · refine k_iconst hC dX11_sineOf_19 ?_
    refine k_istore_n hC [(2, vI 0), (1, vI t), (0, vI a)] dX11_sineOf_20 rfl (by decide) rfl ?_
    refine k_iload_n hC dX11_sineOf_21 rfl 0 rfl ?_
    refine k_if_eq hC 34 dX11_sineOf_22 rfl (by omega) (fun c_22 => ?_) (fun c_22 => absurd c_22 (by omega))
    refine k_iload_n hC dX11_sineOf_34 rfl 1 rfl ?_
    refine k_i2l hC dX11_sineOf_35 (by omega) ?_
    refine k_topL (fun d ed => ?_)
    refine k_lstore_n hC [(3, vL d), (2, vI 0), (1, vI t), (0, vI a)] dX11_sineOf_36 rfl (by decide) rfl ?_
    refine k_lload_n hC dX11_sineOf_37 rfl 0 rfl ?_
    refine k_ldc2 hC (x := 10800) (v := 10800) dX11_sineOf_38 (by decide) wk_X11_461 ?_
    refine k_lload_n hC dX11_sineOf_41 rfl 0 rfl ?_
    refine k_lsub hC dX11_sineOf_42 ?_
    refine k_lmul hC dX11_sineOf_43 ?_
    refine k_topL (fun x ex => ?_)
    refine k_lstore hC [(5, vL x), (3, vL d), (2, vI 0), (1, vI t), (0, vI a)] dX11_sineOf_44 (by decide) rfl ?_
    have hx := sinX (t := d) (by omega)
    rw [← ex] at hx
    refine k_ldc2 hC (x := 145800000) (v := 145800000) dX11_sineOf_46 (by decide) wk_X11_463 ?_
    refine k_lload hC dX11_sineOf_49 0 rfl ?_
    refine k_lsub hC dX11_sineOf_51 ?_
    refine k_topL (fun y ey => ?_)
    refine k_lstore hC [(7, vL y), (5, vL x), (3, vL d), (2, vI 0), (1, vI t), (0, vI a)] dX11_sineOf_52 (by decide) rfl ?_
    refine k_lload hC dX11_sineOf_54 0 rfl ?_
    refine k_lconst (x := 0) hC dX11_sineOf_56 (by decide) ?_
    refine k_lcmp_gt hC 65 dX11_sineOf_57 dX11_sineOf_58 rfl (by omega) (by omega) (fun c_57 => ?_) (fun c_57 => absurd c_57 (by omega))
    refine k_ldc2 hC (x := 4000000) (v := 4000000) dX11_sineOf_65 (by decide) wk_X11_465 ?_
    refine k_lload hC dX11_sineOf_68 1 rfl ?_
    refine k_lmul hC dX11_sineOf_70 ?_
    refine k_lload hC dX11_sineOf_71 0 rfl ?_
    refine k_ldiv hC dX11_sineOf_73 (by omega) (by omega) ?_
    refine k_topL (fun q_1 eq_1 => ?_)
    have eq_1 : q_1 = 4000000 * x / y := by rw [eq_1]; exact Int.tdiv_eq_ediv_of_nonneg (by omega)
    have key : sinQ d = q_1 := by unfold sinQ; rw [eq_1, ey, ex]
    refine k_l2i hC dX11_sineOf_74 ?_
    refine k_istore hC [(9, vI q_1), (7, vL y), (5, vL x), (3, vL d), (2, vI 0), (1, vI t), (0, vI a)] dX11_sineOf_75 (by decide) rfl ?_
    refine k_iload_n hC dX11_sineOf_77 rfl 4 rfl ?_
    refine k_if_eq hC 87 dX11_sineOf_78 rfl (by omega) (fun c_78 => ?_) (fun c_78 => absurd c_78 (by omega))
    refine k_iload hC dX11_sineOf_87 0 rfl ?_
    subst hQ
    exact k_iret hC hr ⟨by decide, by decide⟩ (⟨congrArg (fun z => some (vI z)) (show (sinM a : Int) = q_1 from by unfold sinM; rw [← et]; rw [ed] at key; split <;> omega), rfl, rfl⟩) dX11_sineOf_89
  · refine k_iconst hC dX11_sineOf_15 ?_
    refine k_goto hC 20 dX11_sineOf_16 rfl ?_
    refine k_istore_n hC [(2, vI 1), (1, vI t), (0, vI a)] dX11_sineOf_20 rfl (by decide) rfl ?_
    refine k_iload_n hC dX11_sineOf_21 rfl 0 rfl ?_
    refine k_if_eq hC 34 dX11_sineOf_22 rfl (by omega) (fun c_22 => absurd c_22 (by omega)) (fun c_22 => ?_)
    refine k_iload_n hC dX11_sineOf_25 rfl 1 rfl ?_
    refine k_sipush hC dX11_sineOf_26 (by decide) ?_
    refine k_isub hC dX11_sineOf_29 ?_
    refine k_i2l hC dX11_sineOf_30 (by omega) ?_
    refine k_goto hC 36 dX11_sineOf_31 rfl ?_
    refine k_topL (fun d ed => ?_)
    refine k_lstore_n hC [(3, vL d), (2, vI 1), (1, vI t), (0, vI a)] dX11_sineOf_36 rfl (by decide) rfl ?_
    refine k_lload_n hC dX11_sineOf_37 rfl 0 rfl ?_
    refine k_ldc2 hC (x := 10800) (v := 10800) dX11_sineOf_38 (by decide) wk_X11_461 ?_
    refine k_lload_n hC dX11_sineOf_41 rfl 0 rfl ?_
    refine k_lsub hC dX11_sineOf_42 ?_
    refine k_lmul hC dX11_sineOf_43 ?_
    refine k_topL (fun x ex => ?_)
    refine k_lstore hC [(5, vL x), (3, vL d), (2, vI 1), (1, vI t), (0, vI a)] dX11_sineOf_44 (by decide) rfl ?_
    have hx := sinX (t := d) (by omega)
    rw [← ex] at hx
    refine k_ldc2 hC (x := 145800000) (v := 145800000) dX11_sineOf_46 (by decide) wk_X11_463 ?_
    refine k_lload hC dX11_sineOf_49 0 rfl ?_
    refine k_lsub hC dX11_sineOf_51 ?_
    refine k_topL (fun y ey => ?_)
    refine k_lstore hC [(7, vL y), (5, vL x), (3, vL d), (2, vI 1), (1, vI t), (0, vI a)] dX11_sineOf_52 (by decide) rfl ?_
    refine k_lload hC dX11_sineOf_54 0 rfl ?_
    refine k_lconst (x := 0) hC dX11_sineOf_56 (by decide) ?_
    refine k_lcmp_gt hC 65 dX11_sineOf_57 dX11_sineOf_58 rfl (by omega) (by omega) (fun c_57 => ?_) (fun c_57 => absurd c_57 (by omega))
    refine k_ldc2 hC (x := 4000000) (v := 4000000) dX11_sineOf_65 (by decide) wk_X11_465 ?_
    refine k_lload hC dX11_sineOf_68 1 rfl ?_
    refine k_lmul hC dX11_sineOf_70 ?_
    refine k_lload hC dX11_sineOf_71 0 rfl ?_
    refine k_ldiv hC dX11_sineOf_73 (by omega) (by omega) ?_
    refine k_topL (fun q_2 eq_2 => ?_)
    have eq_2 : q_2 = 4000000 * x / y := by rw [eq_2]; exact Int.tdiv_eq_ediv_of_nonneg (by omega)
    have key : sinQ d = q_2 := by unfold sinQ; rw [eq_2, ey, ex]
    refine k_l2i hC dX11_sineOf_74 ?_
    refine k_istore hC [(9, vI q_2), (7, vL y), (5, vL x), (3, vL d), (2, vI 1), (1, vI t), (0, vI a)] dX11_sineOf_75 (by decide) rfl ?_
    refine k_iload_n hC dX11_sineOf_77 rfl 4 rfl ?_
    refine k_if_eq hC 87 dX11_sineOf_78 rfl (by omega) (fun c_78 => absurd c_78 (by omega)) (fun c_78 => ?_)
    refine k_iload hC dX11_sineOf_81 0 rfl ?_
    refine k_ineg hC dX11_sineOf_83 ?_
    refine k_goto hC 89 dX11_sineOf_84 rfl ?_
    subst hQ
    exact k_iret hC hr ⟨by decide, by decide⟩ (⟨congrArg (fun z => some (vI z)) (show (sinM a : Int) = -q_2 from by unfold sinM; rw [← et]; rw [ed] at key; split <;> omega), rfl, rfl⟩) dX11_sineOf_89

set_option maxRecDepth 100000 in
set_option maxHeartbeats 4000000 in
theorem c_X11_cosineOf (l : Launch) (hls : l.stackTraces = false) (G : kG) (hN : 133 ≤ kN G) (w : Nat → va_E) (fl : va_W) (a : Int) (ha : -2147483648 ≤ (a + 5400) ∧ (a + 5400) ≤ 2147483647) : KM l G yX11_cosineOf cX11_cosineOf 1 (some (FieldType.int)) 2 0 0 [vI a] w fl (kPure (vI (cosM a)) w fl) := by
  refine KM_of2 hls (by decide +kernel) rfl (lv0 := [(0, vI a)]) rfl (Nat.le_of_ble_eq_true rfl) (fun p e R s m args below meth c Q hC hr hQ => ?_)
  refine k_iload_n hC dX11_cosineOf_0 rfl 0 rfl ?_
  refine k_sipush hC dX11_cosineOf_1 (by decide) ?_
  refine k_iadd hC dX11_cosineOf_4 ?_
  refine k_pureS hC (c_X11_sineOf l hls G hN w fl (a + 5400) (by omega)) yy_X11_sineOf wm_X11_152 rfl rfl (Nat.le_of_ble_eq_true rfl) (by decide) (by decide) ⟨by decide, by decide⟩ dX11_cosineOf_5 ?_
  have hb_1 := sinM_b (a + 5400)
  subst hQ
  exact k_iret hC hr ⟨by decide, by decide⟩ (⟨congrArg (fun z => some (vI z)) (show (cosM a : Int) = sinM (a + 5400) from rfl), rfl, rfl⟩) dX11_cosineOf_8

set_option maxRecDepth 100000 in
set_option maxHeartbeats 4000000 in
theorem c_X11_longitudeOf (l : Launch) (hls : l.stackTraces = false) (G : kG) (hN : 133 ≤ kN G) (w : Nat → va_E) (fl : va_W) (a : Int) (ha : -4611686018427387904 ≤ a ∧ a ≤ 4611686018427387904) : KM l G yX11_longitudeOf cX11_longitudeOf 2 (some (FieldType.int)) 1 0 0 [vL a] w fl (kPure (vI (lonM a)) w fl) := by
  refine KM_of2 hls (by decide +kernel) rfl (lv0 := [(0, vL a)]) rfl (Nat.le_of_ble_eq_true rfl) (fun p e R s m args below meth c Q hC hr hQ => ?_)
  refine k_lload_n hC dX11_longitudeOf_0 rfl 0 rfl ?_
  refine k_ldc2 hC (x := 10800) (v := 10800) dX11_longitudeOf_1 (by decide) wk_X11_461 ?_
  refine k_ladd hC dX11_longitudeOf_4 ?_
  refine k_ldc2 hC (x := 21600) (v := 21600) dX11_longitudeOf_5 (by decide) wk_X11_467 ?_
  refine k_pureS hC (c_J9_floorMod_f86c9 l hls G hN w fl (a + 10800) 21600 (by omega) (by omega)) yy_J9_floorMod_f86c9 wm_X11_469 rfl rfl (Nat.le_of_ble_eq_true rfl) (by decide) (by decide) ⟨by decide, by decide⟩ dX11_longitudeOf_8 ?_
  refine k_ldc2 hC (x := 10800) (v := 10800) dX11_longitudeOf_11 (by decide) wk_X11_461 ?_
  refine k_lsub hC dX11_longitudeOf_14 ?_
  refine k_l2i hC dX11_longitudeOf_15 ?_
  subst hQ
  exact k_iret hC hr ⟨by decide, by decide⟩ (⟨congrArg (fun z => some (vI z)) (show (lonM a : Int) = ((a + 10800) % 21600) - 10800 from rfl), rfl, rfl⟩) dX11_longitudeOf_16

set_option maxRecDepth 100000 in
set_option maxHeartbeats 4000000 in
theorem c_X11_at (l : Launch) (hls : l.stackTraces = false) (G : kG) (hN : 133 ≤ kN G) (w : Nat → va_E) (fl : va_W) (k : Nat) (i : Int) (n : Nat) (f : Nat → Int) (hk : k < 133) (hi : 0 ≤ i ∧ i < n) (hn : n ≤ 1000) (hw : w k = iA G n f) : KM l G yX11_at cX11_at 2 (some (FieldType.int)) 0 0 0 [.ref (kad G k), vI i] w fl (kPure (vI (f i.toNat)) w fl) := by
  refine KM_of2 hls (by decide +kernel) rfl (lv0 := [(0, .ref (kad G k)), (1, vI i)]) rfl (Nat.le_of_ble_eq_true rfl) (fun p e R s m args below meth c Q hC hr hQ => ?_)
  refine k_iload_n hC dX11_at_0 rfl 1 rfl ?_
  refine k_if_lt hC 10 dX11_at_1 rfl (by omega) (fun c_1 => absurd c_1 (by omega)) (fun c_1 => ?_)
  refine k_iload_n hC dX11_at_4 rfl 1 rfl ?_
  refine k_aload_n hC dX11_at_5 rfl 0 rfl ?_
  refine k_alen hC (n := n) (kl hN (by omega)) hw 0 rfl rfl rfl dX11_at_6 ?_
  refine k_icmp_lt hC 14 dX11_at_7 rfl (by omega) (by omega) (fun c_7 => ?_) (fun c_7 => absurd c_7 (by omega))
  refine k_aload_n hC dX11_at_14 rfl 0 rfl ?_
  refine k_iload_n hC dX11_at_15 rfl 1 rfl ?_
  refine k_iald hC (kl hN (by omega)) hw (by omega) (by omega) dX11_at_16 ?_
  refine k_topv (vI (f i.toNat)) rfl ?_
  subst hQ
  exact k_iret hC hr ⟨by decide, by decide⟩ (⟨rfl, rfl, rfl⟩) dX11_at_17

set_option maxRecDepth 100000 in
set_option maxHeartbeats 4000000 in
theorem c_X11_put (l : Launch) (hls : l.stackTraces = false) (G : kG) (hN : 133 ≤ kN G) (w : Nat → va_E) (fl : va_W) (k : Nat) (i x : Int) (n : Nat) (f : Nat → Int) (hk : k < 133) (hi : 0 ≤ i ∧ i < n) (hn : n ≤ 1000) (hw : w k = iA G n f) : KM l G yX11_put cX11_put 3 (none) 0 0 0 [.ref (kad G k), vI i, vI x] w fl (kMuv fl (fun w1 => w1 k = iA G n (kup f i.toNat x) ∧ ∀ j, j ≠ k → w1 j = w j)) := by
  refine KM_of2 hls (by decide +kernel) rfl (lv0 := [(0, .ref (kad G k)), (1, vI i), (2, vI x)]) rfl (Nat.le_of_ble_eq_true rfl) (fun p e R s m args below meth c Q hC hr hQ => ?_)
  refine k_iload_n hC dX11_put_0 rfl 1 rfl ?_
  refine k_if_lt hC 14 dX11_put_1 rfl (by omega) (fun c_1 => absurd c_1 (by omega)) (fun c_1 => ?_)
  refine k_iload_n hC dX11_put_4 rfl 1 rfl ?_
  refine k_aload_n hC dX11_put_5 rfl 0 rfl ?_
  refine k_alen hC (n := n) (kl hN (by omega)) hw 0 rfl rfl rfl dX11_put_6 ?_
  refine k_icmp_ge hC 14 dX11_put_7 rfl (by omega) (by omega) (fun c_7 => absurd c_7 (by omega)) (fun c_7 => ?_)
  refine k_aload_n hC dX11_put_10 rfl 0 rfl ?_
  refine k_iload_n hC dX11_put_11 rfl 1 rfl ?_
  refine k_iload_n hC dX11_put_12 rfl 2 rfl ?_
  refine k_iast hC (kl hN (by omega)) hw (by omega) (by omega) dX11_put_13 (fun w1 hw1 hf1 => ?_)
  subst hQ
  exact k_vret hC hr ⟨by decide, by decide⟩ (⟨rfl, rfl, hw1, hf1⟩) dX11_put_14

set_option maxRecDepth 100000 in
set_option maxHeartbeats 4000000 in
theorem c_X11_copyRow (l : Launch) (hls : l.stackTraces = false) (G : kG) (hN : 133 ≤ kN G) (w : Nat → va_E) (fl : va_W) (k j n : Nat) (f g : Nat → Int) (hk : k < 133) (hj : j < 133) (hn : n ≤ 1000) (hw : w k = iA G n f) (hv : w j = iA G n g) : KM l G yX11_copyRow cX11_copyRow 2 (none) 2 0 0 [.ref (kad G k), .ref (kad G j)] w fl (kMuv fl (fun w1 => w1 j = iA G n f ∧ ∀ i, i ≠ j → w1 i = w i)) := by
  refine KM_of2 hls (by decide +kernel) rfl (lv0 := [(0, .ref (kad G k)), (1, .ref (kad G j))]) rfl (Nat.le_of_ble_eq_true rfl) (fun p e R s m args below meth c Q hC hr hQ => ?_)
  refine k_aload_n hC dX11_copyRow_0 rfl 0 rfl ?_
  refine k_iconst hC dX11_copyRow_1 ?_
  refine k_aload_n hC dX11_copyRow_2 rfl 1 rfl ?_
  refine k_iconst hC dX11_copyRow_3 ?_
  refine k_aload_n hC dX11_copyRow_4 rfl 0 rfl ?_
  refine k_alen hC (n := n) (kl hN (by omega)) hw 0 rfl rfl rfl dX11_copyRow_5 ?_
  refine k_aload_n hC dX11_copyRow_6 rfl 1 rfl ?_
  refine k_alen hC (n := n) (kl hN (by omega)) hv 0 rfl rfl rfl dX11_copyRow_7 ?_
  refine k_mmin hC wm_X11_471 wmath_mmin (by omega) (by omega) (by decide) (Nat.le_of_ble_eq_true rfl) ⟨by decide, by decide⟩ dX11_copyRow_8 ?_
  refine k_copyi hC (kl hN (by omega)) (kl hN (by omega)) hw hv wm_X11_473 wcopy (by omega) (by omega) (by omega) (by omega) (by omega) (by omega) (by decide) (Nat.le_of_ble_eq_true rfl) dX11_copyRow_11 (fun w1 hw1 hf1 => ?_)
  subst hQ
  exact k_vret hC hr ⟨by decide, by decide⟩ (⟨rfl, rfl, by rw [hw1]; exact iA_congr (fun i hi => by unfold va_cpy; rw [if_pos (by omega)]; congr 1; omega), hf1⟩) dX11_copyRow_14

set_option maxRecDepth 100000 in
set_option maxHeartbeats 4000000 in
theorem c_X11_arcOf (l : Launch) (hls : l.stackTraces = false) (G : kG) (hN : 133 ≤ kN G) (w : Nat → va_E) (fl : va_W) (v : Int) (hv : -1000000 ≤ v ∧ v ≤ 1000000) : KM l G yX11_arcOf cX11_arcOf 5 (some (FieldType.int)) 2 0 0 [vI v] w fl (kPure (vI (arcM v)) w fl) := by
  refine KM_of2 hls (by decide +kernel) rfl (lv0 := [(0, vI v)]) rfl (Nat.le_of_ble_eq_true rfl) (fun p e R s m args below meth c Q hC hr hQ => ?_)
  refine k_iload_n hC dX11_arcOf_0 rfl 0 rfl ?_
  refine k_mabs hC wm_X11_357 wmath_mabs (by omega) (by decide) (Nat.le_of_ble_eq_true rfl) ⟨by decide, by decide⟩ dX11_arcOf_1 ?_
  refine k_topI (fun z ez => ?_)
  refine k_istore_n hC [(1, vI z), (0, vI v)] dX11_arcOf_4 rfl (by decide) rfl ?_
  refine k_iconst hC dX11_arcOf_5 ?_
  refine k_istore_n hC [(2, vI 0), (1, vI z), (0, vI v)] dX11_arcOf_6 rfl (by decide) rfl ?_
  refine k_sipush hC dX11_arcOf_7 (by decide) ?_
  refine k_istore_n hC [(3, vI 4096), (2, vI 0), (1, vI z), (0, vI v)] dX11_arcOf_10 rfl (by decide) rfl ?_
  have loop : ∀ (n : Nat) (g u : Int), u ≤ n → (u = 4096 ∨ u = 2048 ∨ u = 1024 ∨ u = 512 ∨ u = 256 ∨ u = 128 ∨ u = 64 ∨ u = 32 ∨ u = 16 ∨ u = 8 ∨ u = 4 ∨ u = 2 ∨ u = 1 ∨ u = 0) → (0 ≤ g ∧ g ≤ 5400) → sinM g ≤ z → (∀ b : Int, g + 2 * u ≤ b → g < b → b ≤ 5400 → z < sinM b) → KW p l e R s m args below meth c 5 G Q w fl 0 0 11 [(3, vI u), (2, vI g), (1, vI z), (0, vI v)] [] := by
    intro n
    induction n with
    | zero =>
      intro g u hs hp hg h1 h2
      have hs0 : u = 0 := by omega
      refine k_iload_n hC dX11_arcOf_11 rfl 0 rfl ?_
      refine k_if_le hC 47 dX11_arcOf_12 rfl (by omega) (fun c_12 => ?_) (fun c_12 => absurd c_12 (by omega))
      refine k_iload_n hC dX11_arcOf_47 rfl 3 rfl ?_
      refine k_if_ge hC 56 dX11_arcOf_48 rfl (by omega) (fun c_48 => ?_) (fun c_48 => ?_)
      · refine k_iload_n hC dX11_arcOf_56 rfl 1 rfl ?_
        subst hQ
        exact k_iret hC hr ⟨by decide, by decide⟩ (⟨congrArg (fun z => some (vI z)) (show (arcM v : Int) = g from by have key : arcN z = g := arcN_eq hg h1 (by rcases Int.lt_or_le g 5400 with q | q; exact Or.inr (h2 _ (by omega) (by omega) (by omega)); exact Or.inl (by omega)); have hz : z = -v ∨ z = v := (by omega); unfold arcM; first | (rw [if_pos (by omega), show -v = z by omega, key]) | (rw [if_neg (by omega), show v = z by omega, key])), rfl, rfl⟩) dX11_arcOf_57
      · refine k_iload_n hC dX11_arcOf_51 rfl 1 rfl ?_
        refine k_ineg hC dX11_arcOf_52 ?_
        refine k_goto hC 57 dX11_arcOf_53 rfl ?_
        subst hQ
        exact k_iret hC hr ⟨by decide, by decide⟩ (⟨congrArg (fun z => some (vI z)) (show (arcM v : Int) = -g from by have key : arcN z = g := arcN_eq hg h1 (by rcases Int.lt_or_le g 5400 with q | q; exact Or.inr (h2 _ (by omega) (by omega) (by omega)); exact Or.inl (by omega)); have hz : z = -v ∨ z = v := (by omega); unfold arcM; first | (rw [if_pos (by omega), show -v = z by omega, key]) | (rw [if_neg (by omega), show v = z by omega, key])), rfl, rfl⟩) dX11_arcOf_57
    | succ n ih =>
      intro g u hs hp hg h1 h2
      refine k_iload_n hC dX11_arcOf_11 rfl 0 rfl ?_
      refine k_if_le hC 47 dX11_arcOf_12 rfl (by omega) (fun c_12 => ?_) (fun c_12 => ?_)
      · refine k_iload_n hC dX11_arcOf_47 rfl 3 rfl ?_
        refine k_if_ge hC 56 dX11_arcOf_48 rfl (by omega) (fun c_48 => ?_) (fun c_48 => ?_)
        · refine k_iload_n hC dX11_arcOf_56 rfl 1 rfl ?_
          subst hQ
          exact k_iret hC hr ⟨by decide, by decide⟩ (⟨congrArg (fun z => some (vI z)) (show (arcM v : Int) = g from by have key : arcN z = g := arcN_eq hg h1 (by rcases Int.lt_or_le g 5400 with q | q; exact Or.inr (h2 _ (by omega) (by omega) (by omega)); exact Or.inl (by omega)); have hz : z = -v ∨ z = v := (by omega); unfold arcM; first | (rw [if_pos (by omega), show -v = z by omega, key]) | (rw [if_neg (by omega), show v = z by omega, key])), rfl, rfl⟩) dX11_arcOf_57
        · refine k_iload_n hC dX11_arcOf_51 rfl 1 rfl ?_
          refine k_ineg hC dX11_arcOf_52 ?_
          refine k_goto hC 57 dX11_arcOf_53 rfl ?_
          subst hQ
          exact k_iret hC hr ⟨by decide, by decide⟩ (⟨congrArg (fun z => some (vI z)) (show (arcM v : Int) = -g from by have key : arcN z = g := arcN_eq hg h1 (by rcases Int.lt_or_le g 5400 with q | q; exact Or.inr (h2 _ (by omega) (by omega) (by omega)); exact Or.inl (by omega)); have hz : z = -v ∨ z = v := (by omega); unfold arcM; first | (rw [if_pos (by omega), show -v = z by omega, key]) | (rw [if_neg (by omega), show v = z by omega, key])), rfl, rfl⟩) dX11_arcOf_57
      · refine k_iload_n hC dX11_arcOf_15 rfl 1 rfl ?_
        refine k_iload_n hC dX11_arcOf_16 rfl 0 rfl ?_
        refine k_iadd hC dX11_arcOf_17 ?_
        refine k_istore hC [(4, vI (g + u)), (3, vI u), (2, vI g), (1, vI z), (0, vI v)] dX11_arcOf_18 (by decide) rfl ?_
        refine k_iload hC dX11_arcOf_20 0 rfl ?_
        refine k_sipush hC dX11_arcOf_22 (by decide) ?_
        refine k_icmp_gt hC 40 dX11_arcOf_25 rfl (by omega) (by omega) (fun c_25 => ?_) (fun c_25 => ?_)
        · refine k_iload_n hC dX11_arcOf_40 rfl 1 rfl ?_
          refine k_iconst hC dX11_arcOf_41 ?_
          refine k_idiv hC dX11_arcOf_42 (by omega) (by omega) ?_
          refine k_topI (fun q_1 eq_1 => ?_)
          have eq_1 : q_1 = u / 2 := by rw [eq_1]; exact Int.tdiv_eq_ediv_of_nonneg (by omega)
          refine k_istore_n hC [(3, vI q_1), (4, vI (g + u)), (2, vI g), (1, vI z), (0, vI v)] dX11_arcOf_43 rfl (by decide) rfl ?_
          refine k_goto hC 11 dX11_arcOf_44 rfl ?_
          refine k_lvs (ls := [0, 2, 3, 4]) [(3, vI q_1), (2, vI g), (1, vI z), (0, vI v)] rfl ?_
          exact ih g q_1 (by omega) (by omega) (by omega) (by first | exact h1 | omega) (fun b q1 q2 q3 => by first | (exact absurd q3 (by omega)) | (have q4 := sinM_mono (t := g + u) (u := b) (by omega); first | omega | (rcases c_25b with q5 | q5 <;> omega)))
        · refine k_iload hC dX11_arcOf_28 0 rfl ?_
          refine k_pureS hC (c_X11_sineOf l hls G hN w fl (g + u) (by omega)) yy_X11_sineOf wm_X11_152 rfl rfl (Nat.le_of_ble_eq_true rfl) (by decide) (by decide) ⟨by decide, by decide⟩ dX11_arcOf_30 ?_
          have hb_2 := sinM_b (g + u)
          refine k_iload_n hC dX11_arcOf_33 rfl 3 rfl ?_
          refine k_icmp_gt hC 40 dX11_arcOf_34 rfl (by omega) (by omega) (fun c_34 => ?_) (fun c_34 => ?_)
          · refine k_iload_n hC dX11_arcOf_40 rfl 1 rfl ?_
            refine k_iconst hC dX11_arcOf_41 ?_
            refine k_idiv hC dX11_arcOf_42 (by omega) (by omega) ?_
            refine k_topI (fun q_3 eq_3 => ?_)
            have eq_3 : q_3 = u / 2 := by rw [eq_3]; exact Int.tdiv_eq_ediv_of_nonneg (by omega)
            refine k_istore_n hC [(3, vI q_3), (4, vI (g + u)), (2, vI g), (1, vI z), (0, vI v)] dX11_arcOf_43 rfl (by decide) rfl ?_
            refine k_goto hC 11 dX11_arcOf_44 rfl ?_
            refine k_lvs (ls := [0, 2, 3, 4]) [(3, vI q_3), (2, vI g), (1, vI z), (0, vI v)] rfl ?_
            exact ih g q_3 (by omega) (by omega) (by omega) (by first | exact h1 | omega) (fun b q1 q2 q3 => by first | (exact absurd q3 (by omega)) | (have q4 := sinM_mono (t := g + u) (u := b) (by omega); first | omega | (rcases c_25b with q5 | q5 <;> omega)))
          · refine k_iload hC dX11_arcOf_37 0 rfl ?_
            refine k_istore_n hC [(2, vI (g + u)), (4, vI (g + u)), (3, vI u), (1, vI z), (0, vI v)] dX11_arcOf_39 rfl (by decide) rfl ?_
            refine k_iload_n hC dX11_arcOf_40 rfl 2 rfl ?_
            refine k_iconst hC dX11_arcOf_41 ?_
            refine k_idiv hC dX11_arcOf_42 (by omega) (by omega) ?_
            refine k_topI (fun q_4 eq_4 => ?_)
            have eq_4 : q_4 = u / 2 := by rw [eq_4]; exact Int.tdiv_eq_ediv_of_nonneg (by omega)
            refine k_istore_n hC [(3, vI q_4), (2, vI (g + u)), (4, vI (g + u)), (1, vI z), (0, vI v)] dX11_arcOf_43 rfl (by decide) rfl ?_
            refine k_goto hC 11 dX11_arcOf_44 rfl ?_
            refine k_lvs (ls := [0, 1, 3, 4]) [(3, vI q_4), (2, vI (g + u)), (1, vI z), (0, vI v)] rfl ?_
            exact ih (g + u) q_4 (by omega) (by omega) (by omega) (by first | exact h1 | omega) (fun b q1 q2 q3 => h2 b (by omega) (by omega) q3)
  exact loop 4096 0 4096 (by omega) (by omega) (by omega) (by rw [sinM_0]; omega) (fun b q1 q2 q3 => absurd q3 (by omega))

set_option maxRecDepth 100000 in
set_option maxHeartbeats 4000000 in
theorem c_X11_rootOf (l : Launch) (hls : l.stackTraces = false) (G : kG) (hN : 133 ≤ kN G) (w : Nat → va_E) (fl : va_W) (v : Int) (hv : 0 ≤ v ∧ v < 4611686018427387904) : KM l G yX11_rootOf cX11_rootOf 7 (some (FieldType.int)) 0 0 0 [vL v] w fl (kPure (vI (rootM v)) w fl) := by
  refine KM_of2 hls (by decide +kernel) rfl (lv0 := [(0, vL v)]) rfl (Nat.le_of_ble_eq_true rfl) (fun p e R s m args below meth c Q hC hr hQ => ?_)
  refine k_lconst (x := 0) hC dX11_rootOf_0 (by decide) ?_
  refine k_lstore_n hC [(2, vL 0), (0, vL v)] dX11_rootOf_1 rfl (by decide) rfl ?_
  refine k_bipush hC dX11_rootOf_2 (by decide) ?_
  refine k_istore hC [(4, vI 30), (2, vL 0), (0, vL v)] dX11_rootOf_4 (by decide) rfl ?_
  have loop : ∀ (k : Nat) (r : Int), k ≤ 31 → 0 ≤ r → r * r ≤ v → v < (r + 2 ^ k) * (r + 2 ^ k) → r + 2 ^ k ≤ 2147483648 → KW p l e R s m args below meth c 7 G Q w fl 0 0 6 [(4, vI ((k : Int) - 1)), (2, vL r), (0, vL v)] [] := by
    intro k
    induction k with
    | zero =>
      intro r hk h0 h1 h2 h3
      refine k_iload hC dX11_rootOf_6 0 rfl ?_
      refine k_if_lt hC 38 dX11_rootOf_8 rfl (by omega) (fun c_8 => ?_) (fun c_8 => absurd c_8 (by omega))
      refine k_lload_n hC dX11_rootOf_38 rfl 1 rfl ?_
      refine k_l2i hC dX11_rootOf_39 ?_
      subst hQ
      exact k_iret hC hr ⟨by decide, by decide⟩ (⟨congrArg (fun z => some (vI z)) (show (rootM v : Int) = r from (rootM_eq h0 h1 h2)), rfl, rfl⟩) dX11_rootOf_40
    | succ k ih =>
      intro r hk h0 h1 h2 h3
      have hp : (2 : Int) ^ (k + 1) = 2 * 2 ^ k := by rw [Int.pow_succ, Int.mul_comm]
      have hp1 : (0 : Int) < 2 ^ k := Int.pow_pos (by decide)
      rw [hp] at h2 h3
      refine k_iload hC dX11_rootOf_6 0 rfl ?_
      refine k_if_lt hC 38 dX11_rootOf_8 rfl (by omega) (fun c_8 => absurd c_8 (by omega)) (fun c_8 => ?_)
      refine k_lload_n hC dX11_rootOf_11 rfl 1 rfl ?_
      refine k_lconst (x := 1) hC dX11_rootOf_12 (by decide) ?_
      refine k_iload hC dX11_rootOf_13 0 rfl ?_
      refine k_lshl1 hC dX11_rootOf_15 (by omega) ?_
      refine k_ladd hC dX11_rootOf_16 ?_
      refine k_topL (fun y ey => ?_)
      refine k_lstore hC [(5, vL y), (4, vI (((k + 1 : Nat) : Int) - 1)), (2, vL r), (0, vL v)] dX11_rootOf_17 (by decide) rfl ?_
      have ey2 : y = r + 2 ^ k := by rw [ey]; congr 2; omega
      have hy := mul_le_abs (a := y) (b := y) (A := 2147483648) (B := 2147483648) (by omega) (by omega)
      refine k_lload hC dX11_rootOf_19 0 rfl ?_
      refine k_lload hC dX11_rootOf_21 0 rfl ?_
      refine k_lmul hC dX11_rootOf_23 ?_
      refine k_lload_n hC dX11_rootOf_24 rfl 3 rfl ?_
      refine k_lcmp_gt hC 32 dX11_rootOf_25 dX11_rootOf_26 rfl (by omega) (by omega) (fun c_25 => ?_) (fun c_25 => ?_)
      · refine k_iinc hC (y := ((k + 1 : Nat) : Int) - 1 - 1) [(4, vI (((k + 1 : Nat) : Int) - 1 - 1)), (5, vL y), (2, vL r), (0, vL v)] (j := 1) dX11_rootOf_32 rfl (by omega) (by decide) rfl ?_
        refine k_goto hC 6 dX11_rootOf_35 rfl ?_
        refine k_lvs (ls := [0, 2, 3]) [(4, vI ((k : Int) - 1)), (2, vL r), (0, vL v)] (by rw [show ((k : Int) - 1) = ((k + 1 : Nat) : Int) - 1 - 1 by omega]; rfl) ?_
        exact ih r (by omega) h0 h1 (by rw [← ey2]; omega) (by omega)
      · refine k_lload hC dX11_rootOf_29 0 rfl ?_
        refine k_lstore_n hC [(2, vL y), (5, vL y), (4, vI (((k + 1 : Nat) : Int) - 1)), (0, vL v)] dX11_rootOf_31 rfl (by decide) rfl ?_
        refine k_iinc hC (y := ((k + 1 : Nat) : Int) - 1 - 1) [(4, vI (((k + 1 : Nat) : Int) - 1 - 1)), (2, vL y), (5, vL y), (0, vL v)] (j := 2) dX11_rootOf_32 rfl (by omega) (by decide) rfl ?_
        refine k_goto hC 6 dX11_rootOf_35 rfl ?_
        refine k_lvs (ls := [0, 1, 3]) [(4, vI ((k : Int) - 1)), (2, vL y), (0, vL v)] (by rw [show ((k : Int) - 1) = ((k + 1 : Nat) : Int) - 1 - 1 by omega]; rfl) ?_
        exact ih y (by omega) (by omega) (by omega) (by rw [show y + 2 ^ k = r + 2 * 2 ^ k by omega]; exact h2) (by omega)
  exact loop 31 0 (by omega) (by omega) (by omega) (by omega) (by omega)

