abbrev mdO (G : kG) (u : Nat → Int) : va_E := .inr (12, [.ref (kad G 134), .ref (kad G 135), .ref (kad G 136), .ref (kad G 137), vI (u 4), vI (u 5), vI (u 6), .ref (kad G 138), .ref (kad G 139), .ref (kad G 140), .ref (kad G 141), .ref (kad G 142), vL (u 12), vL (u 13), .ref (kad G 143), vI (u 15), .ref (kad G 144), vI (u 17), vI (u 18), vI (u 19), vI (u 20), vI (u 21), vI (u 22), vI (u 23), vI (u 24), vI (u 25), .ref (kad G 145), .ref (kad G 146), .ref (kad G 147), vI (u 29)])
theorem fdiv_4 {a b : Int} (hb : b ≠ 0) (h : (a < 0 ∧ b < 0) ∨ (0 ≤ a ∧ 0 ≤ b)) : a.fdiv b = a.tdiv b := fdiv_1 (z := 0) hb (by omega) (by omega)
theorem fdiv_5 {a b : Int} (hb : b ≠ 0) (h : (a < 0 ∧ 0 ≤ b) ∨ (0 ≤ a ∧ b < 0)) (hm : a.tdiv b * b ≠ a) : a.fdiv b = a.tdiv b - 1 := fdiv_2 (z := -1) hb (by omega) (by omega) hm
def bN (n : Int) : Bool := decide (n ≠ 0)
set_option maxRecDepth 100000 in
set_option maxHeartbeats 4000000 in
theorem c_X12_floor (l : Launch) (hls : l.stackTraces = false) (G : kG) (hN : kN G = 150) (w : Nat → va_E) (fl : va_W) (a b : Int) (ha : -9223372036854775807 ≤ a ∧ a ≤ 9223372036854775807) (hb : -9223372036854775808 ≤ b ∧ b ≤ 9223372036854775807 ∧ b ≠ 0) : KM l G yX12_floor cX12_floor 6 (some (FieldType.long)) 0 0 0 [vL a, vL b] w fl (kPure (vL (a.fdiv b)) w fl) := by
  refine KM_of2 hls (by decide +kernel) rfl (lv0 := [(0, vL a), (2, vL b)]) rfl (Nat.le_of_ble_eq_true rfl) (fun p e R s m args below meth c Q hC hr hQ => ?_)
  refine k_lload_n hC dX12_floor_0 rfl 0 rfl ?_
  refine k_lload_n hC dX12_floor_1 rfl 1 rfl ?_
  refine k_ldiv hC dX12_floor_2 (by omega) (by omega) ?_
  refine k_topL (fun q eq => ?_)
  refine k_lstore hC [(4, vL q), (0, vL a), (2, vL b)] dX12_floor_3 (by decide) rfl ?_
  have hq : -9223372036854775807 ≤ q ∧ q ≤ 9223372036854775807 := by have := k_tdivb a b; omega
  have hm : -9223372036854775808 ≤ q * b ∧ q * b ≤ 9223372036854775807 := by
    have h1 := Int.tmod_add_tdiv_mul a b
    have h2 := k_tmodb a b
    rw [← eq] at h1
    omega
  refine k_lload hC dX12_floor_5 0 rfl ?_
  refine k_lload_n hC dX12_floor_7 rfl 2 rfl ?_
  refine k_lmul hC dX12_floor_8 ?_
  refine k_lload_n hC dX12_floor_9 rfl 1 rfl ?_
  refine k_lcmp_eq hC 46 dX12_floor_10 dX12_floor_11 rfl (by omega) (by omega) (fun c_10 => ?_) (fun c_10 => ?_)
  · refine k_lload hC dX12_floor_46 0 rfl ?_
    subst hQ
    exact k_lret hC hr ⟨by decide, by decide⟩ (⟨congrArg (fun z => some (vL z)) (show (a.fdiv b : Int) = q from by rw [eq]; first | exact fdiv_3 (by rw [← eq]; exact c_10) | exact fdiv_4 hb.2.2 (by omega)), rfl, rfl⟩) dX12_floor_48
  · refine k_lload_n hC dX12_floor_14 rfl 1 rfl ?_
    refine k_lconst (x := 0) hC dX12_floor_15 (by decide) ?_
    refine k_lcmp_ge hC 24 dX12_floor_16 dX12_floor_17 rfl (by omega) (by omega) (fun c_16 => ?_) (fun c_16 => ?_)
    · refine k_iconst hC dX12_floor_24 ?_
      refine k_lload_n hC dX12_floor_25 rfl 2 rfl ?_
      refine k_lconst (x := 0) hC dX12_floor_26 (by decide) ?_
      refine k_lcmp_ge hC 35 dX12_floor_27 dX12_floor_28 rfl (by omega) (by omega) (fun c_27 => ?_) (fun c_27 => ?_)
      · refine k_iconst hC dX12_floor_35 ?_
        refine k_icmp_eq hC 46 dX12_floor_36 rfl (by omega) (by omega) (fun c_36 => ?_) (fun c_36 => absurd c_36 (by omega))
        refine k_lload hC dX12_floor_46 0 rfl ?_
        subst hQ
        exact k_lret hC hr ⟨by decide, by decide⟩ (⟨congrArg (fun z => some (vL z)) (show (a.fdiv b : Int) = q from by rw [eq]; first | exact fdiv_3 (by rw [← eq]; exact c_10) | exact fdiv_4 hb.2.2 (by omega)), rfl, rfl⟩) dX12_floor_48
      · refine k_iconst hC dX12_floor_31 ?_
        refine k_goto hC 36 dX12_floor_32 rfl ?_
        refine k_icmp_eq hC 46 dX12_floor_36 rfl (by omega) (by omega) (fun c_36 => absurd c_36 (by omega)) (fun c_36 => ?_)
        refine k_lload hC dX12_floor_39 0 rfl ?_
        refine k_lconst (x := 1) hC dX12_floor_41 (by decide) ?_
        refine k_lsub hC dX12_floor_42 ?_
        refine k_goto hC 48 dX12_floor_43 rfl ?_
        subst hQ
        exact k_lret hC hr ⟨by decide, by decide⟩ (⟨congrArg (fun z => some (vL z)) (show (a.fdiv b : Int) = q - 1 from by rw [eq]; first | exact fdiv_5 hb.2.2 (by omega) (by rw [← eq]; exact c_10)), rfl, rfl⟩) dX12_floor_48
    · refine k_iconst hC dX12_floor_20 ?_
      refine k_goto hC 25 dX12_floor_21 rfl ?_
      refine k_lload_n hC dX12_floor_25 rfl 2 rfl ?_
      refine k_lconst (x := 0) hC dX12_floor_26 (by decide) ?_
      refine k_lcmp_ge hC 35 dX12_floor_27 dX12_floor_28 rfl (by omega) (by omega) (fun c_27 => ?_) (fun c_27 => ?_)
      · refine k_iconst hC dX12_floor_35 ?_
        refine k_icmp_eq hC 46 dX12_floor_36 rfl (by omega) (by omega) (fun c_36 => absurd c_36 (by omega)) (fun c_36 => ?_)
        refine k_lload hC dX12_floor_39 0 rfl ?_
        refine k_lconst (x := 1) hC dX12_floor_41 (by decide) ?_
        refine k_lsub hC dX12_floor_42 ?_
        refine k_goto hC 48 dX12_floor_43 rfl ?_
        subst hQ
        exact k_lret hC hr ⟨by decide, by decide⟩ (⟨congrArg (fun z => some (vL z)) (show (a.fdiv b : Int) = q - 1 from by rw [eq]; first | exact fdiv_5 hb.2.2 (by omega) (by rw [← eq]; exact c_10)), rfl, rfl⟩) dX12_floor_48
      · refine k_iconst hC dX12_floor_31 ?_
        refine k_goto hC 36 dX12_floor_32 rfl ?_
        refine k_icmp_eq hC 46 dX12_floor_36 rfl (by omega) (by omega) (fun c_36 => ?_) (fun c_36 => absurd c_36 (by omega))
        refine k_lload hC dX12_floor_46 0 rfl ?_
        subst hQ
        exact k_lret hC hr ⟨by decide, by decide⟩ (⟨congrArg (fun z => some (vL z)) (show (a.fdiv b : Int) = q from by rw [eq]; first | exact fdiv_3 (by rw [← eq]; exact c_10) | exact fdiv_4 hb.2.2 (by omega)), rfl, rfl⟩) dX12_floor_48

set_option maxRecDepth 100000 in
set_option maxHeartbeats 4000000 in
theorem c_X12_inRange (l : Launch) (hls : l.stackTraces = false) (G : kG) (hN : kN G = 150) (w : Nat → va_E) (fl : va_W) (v a b : Int) (hv : -9223372036854775808 ≤ v ∧ v ≤ 9223372036854775807) (ha : -9223372036854775808 ≤ a ∧ a ≤ 9223372036854775807) (hb : -9223372036854775808 ≤ b ∧ b ≤ 9223372036854775807) : KM l G yX12_inRange cX12_inRange 6 (some (FieldType.boolean)) 0 0 0 [vL v, vL a, vL b] w fl (kPure (vI (if a ≤ v ∧ v ≤ b then 1 else 0)) w fl) := by
  refine KM_of2 hls (by decide +kernel) rfl (lv0 := [(0, vL v), (2, vL a), (4, vL b)]) rfl (Nat.le_of_ble_eq_true rfl) (fun p e R s m args below meth c Q hC hr hQ => ?_)
  refine k_lload_n hC dX12_inRange_0 rfl 0 rfl ?_
  refine k_lload_n hC dX12_inRange_1 rfl 1 rfl ?_
  refine k_lcmp_lt hC 17 dX12_inRange_2 dX12_inRange_3 rfl (by omega) (by omega) (fun c_2 => ?_) (fun c_2 => ?_)
  · refine k_iconst hC dX12_inRange_17 ?_
    subst hQ
    exact k_zret hC (by omega) hr ⟨by decide, by decide⟩ (⟨congrArg (fun z => some (vI z)) (show (if a ≤ v ∧ v ≤ b then 1 else 0 : Int) = 0 from by first | exact if_pos (by omega) | exact if_neg (by omega)), rfl, rfl⟩) dX12_inRange_18
  · refine k_lload_n hC dX12_inRange_6 rfl 0 rfl ?_
    refine k_lload hC dX12_inRange_7 2 rfl ?_
    refine k_lcmp_gt hC 17 dX12_inRange_9 dX12_inRange_10 rfl (by omega) (by omega) (fun c_9 => ?_) (fun c_9 => ?_)
    · refine k_iconst hC dX12_inRange_17 ?_
      subst hQ
      exact k_zret hC (by omega) hr ⟨by decide, by decide⟩ (⟨congrArg (fun z => some (vI z)) (show (if a ≤ v ∧ v ≤ b then 1 else 0 : Int) = 0 from by first | exact if_pos (by omega) | exact if_neg (by omega)), rfl, rfl⟩) dX12_inRange_18
    · refine k_iconst hC dX12_inRange_13 ?_
      refine k_goto hC 18 dX12_inRange_14 rfl ?_
      subst hQ
      exact k_zret hC (by omega) hr ⟨by decide, by decide⟩ (⟨congrArg (fun z => some (vI z)) (show (if a ≤ v ∧ v ≤ b then 1 else 0 : Int) = 1 from by first | exact if_pos (by omega) | exact if_neg (by omega)), rfl, rfl⟩) dX12_inRange_18

set_option maxRecDepth 100000 in
set_option maxHeartbeats 4000000 in
theorem c_X12_bounded (l : Launch) (hls : l.stackTraces = false) (G : kG) (hN : kN G = 150) (w : Nat → va_E) (fl : va_W) (a b : Int) (ha : -9223372036854775808 ≤ a ∧ a ≤ 9223372036854775807) (hb : 0 ≤ b ∧ b ≤ 9223372036854775807) : KM l G yX12_bounded cX12_bounded 4 (some (FieldType.long)) 1 0 0 [vL a, vL b] w fl (kPure (vL (max (-b) (min b a))) w fl) := by
  refine KM_of2 hls (by decide +kernel) rfl (lv0 := [(0, vL a), (2, vL b)]) rfl (Nat.le_of_ble_eq_true rfl) (fun p e R s m args below meth c Q hC hr hQ => ?_)
  refine k_lload_n hC dX12_bounded_0 rfl 1 rfl ?_
  refine k_lneg hC dX12_bounded_1 ?_
  refine k_lload_n hC dX12_bounded_2 rfl 1 rfl ?_
  refine k_lload_n hC dX12_bounded_3 rfl 0 rfl ?_
  refine k_mminL hC wm_X12_77 wmath_mminL (by omega) (by omega) (by decide) (Nat.le_of_ble_eq_true rfl) ⟨by decide, by decide⟩ dX12_bounded_4 ?_
  refine k_mmaxL hC wm_X12_83 wmath_mmaxL (by omega) (by omega) (by decide) (Nat.le_of_ble_eq_true rfl) ⟨by decide, by decide⟩ dX12_bounded_7 ?_
  subst hQ
  exact k_lret hC hr ⟨by decide, by decide⟩ (⟨rfl, rfl, rfl⟩) dX12_bounded_10

set_option maxRecDepth 100000 in
set_option maxHeartbeats 4000000 in
theorem c_X12_root (l : Launch) (hls : l.stackTraces = false) (G : kG) (hN : kN G = 150) (w : Nat → va_E) (fl : va_W) (v : Int) (hv : 0 ≤ v ∧ v ≤ 4000000000000000000) : KM l G yX12_root cX12_root 8 (some (FieldType.long)) 0 0 0 [vL v] w fl (kPure (vL (rootM v)) w fl) := by
  refine KM_of2 hls (by decide +kernel) rfl (lv0 := [(0, vL v)]) rfl (Nat.le_of_ble_eq_true rfl) (fun p e R s m args below meth c Q hC hr hQ => ?_)
  refine k_lconst (x := 0) hC dX12_root_0 (by decide) ?_
  refine k_lstore_n hC [(2, vL 0), (0, vL v)] dX12_root_1 rfl (by decide) rfl ?_
  refine k_ldc2 hC (x := 3000000000) (v := 3000000000) dX12_root_2 (by decide) wk_X12_86 ?_
  refine k_lstore hC [(4, vL 3000000000), (2, vL 0), (0, vL v)] dX12_root_5 (by decide) rfl ?_
  have loop : ∀ (n : Nat) (lo : Int) (hi : Int), (hi - lo < n) → (0 ≤ lo ∧ lo ≤ hi ∧ hi ≤ 3000000000) → (lo * lo ≤ v) → (v < (hi + 1) * (hi + 1)) → KW p l e R s m args below meth c 8 G Q w fl 0 0 7 [(2, vL lo), (4, vL hi), (0, vL v)] [] := by
    intro n
    induction n with
    | zero =>
      intro lo hi hn_ hlo h1 h2
      exact absurd hn_ (by omega)
    | succ n ih =>
      intro lo hi hn_ hlo h1 h2
      refine k_lload_n hC dX12_root_7 rfl 0 rfl ?_
      refine k_lload hC dX12_root_8 1 rfl ?_
      refine k_lcmp_ge hC 51 dX12_root_10 dX12_root_11 rfl (by omega) (by omega) (fun c_10 => ?_) (fun c_10 => ?_)
      · refine k_lload_n hC dX12_root_51 rfl 0 rfl ?_
        subst hQ
        exact k_lret hC hr ⟨by decide, by decide⟩ (⟨congrArg (fun z => some (vL z)) (show (rootM v : Int) = lo from by refine rootM_eq (by omega) h1 ?_; rw [show lo = hi by omega]; exact h2), rfl, rfl⟩) dX12_root_52
      · refine k_lload_n hC dX12_root_14 rfl 0 rfl ?_
        refine k_lload hC dX12_root_15 1 rfl ?_
        refine k_ladd hC dX12_root_17 ?_
        refine k_lconst (x := 1) hC dX12_root_18 (by decide) ?_
        refine k_ladd hC dX12_root_19 ?_
        refine k_ldc2 hC (x := 2) (v := 2) dX12_root_20 (by decide) wk_X12_88 ?_
        refine k_ldiv hC dX12_root_23 (by omega) (by omega) ?_
        refine k_topL (fun q_1 eq_1 => ?_)
        have eq_1 : q_1 = (lo + hi + 1) / 2 := by rw [eq_1]; exact Int.tdiv_eq_ediv_of_nonneg (by omega)
        refine k_topL (fun mi emi => ?_)
        refine k_lstore hC [(6, vL mi), (2, vL lo), (4, vL hi), (0, vL v)] dX12_root_24 (by decide) rfl ?_
        have hmi : mi = (lo + hi + 1) / 2 := by rw [emi, eq_1]
        have hm1 := mul_le_abs (a := mi) (b := mi) (A := 3000000000) (B := 3000000000) (by omega) (by omega)
        have hm2 := sq_nn mi
        refine k_lload hC dX12_root_26 0 rfl ?_
        refine k_lload hC dX12_root_28 0 rfl ?_
        refine k_lmul hC dX12_root_30 ?_
        refine k_lload_n hC dX12_root_31 rfl 3 rfl ?_
        refine k_lcmp_gt hC 42 dX12_root_32 dX12_root_33 rfl (by omega) (by omega) (fun c_32 => ?_) (fun c_32 => ?_)
        · refine k_lload hC dX12_root_42 0 rfl ?_
          refine k_lconst (x := 1) hC dX12_root_44 (by decide) ?_
          refine k_lsub hC dX12_root_45 ?_
          refine k_lstore hC [(4, vL (mi - 1)), (6, vL mi), (2, vL lo), (0, vL v)] dX12_root_46 (by decide) rfl ?_
          refine k_goto hC 7 dX12_root_48 rfl ?_
          refine k_lvs (ls := [2, 0, 3]) [(2, vL lo), (4, vL (mi - 1)), (0, vL v)] rfl ?_
          refine k_lvs (ls := [0, 1, 2]) [(2, vL lo), (4, vL (mi - 1)), (0, vL v)] (by simp only [lv_pick]; rfl) ?_
          exact ih lo (mi - 1)  (by omega) (by omega) (by first | exact h1 | omega) (by first | exact h2 | (rw [show mi - 1 + 1 = mid by omega]; omega) | (rw [show mi - 1 + 1 = mi by omega]; omega))
        · refine k_lload hC dX12_root_36 0 rfl ?_
          refine k_lstore_n hC [(2, vL mi), (6, vL mi), (4, vL hi), (0, vL v)] dX12_root_38 rfl (by decide) rfl ?_
          refine k_goto hC 48 dX12_root_39 rfl ?_
          refine k_goto hC 7 dX12_root_48 rfl ?_
          refine k_lvs (ls := [0, 2, 3]) [(2, vL mi), (4, vL hi), (0, vL v)] rfl ?_
          refine k_lvs (ls := [0, 1, 2]) [(2, vL mi), (4, vL hi), (0, vL v)] (by simp only [lv_pick]; rfl) ?_
          exact ih mi hi  (by omega) (by omega) (by first | exact h1 | omega) (by first | exact h2 | (rw [show mi - 1 + 1 = mid by omega]; omega) | (rw [show mi - 1 + 1 = mi by omega]; omega))
  refine k_lvs (ls := [1, 0, 2]) [(2, vL 0), (4, vL 3000000000), (0, vL v)] rfl ?_
  refine k_lvs (ls := [0, 1, 2]) [(2, vL 0), (4, vL 3000000000), (0, vL v)] (by simp only [lv_pick]; rfl) ?_
  exact loop 3000000001 0 3000000000  (by omega) (by omega) (by omega) (by omega)

set_option maxRecDepth 100000 in
set_option maxHeartbeats 4000000 in
theorem c_X12_turned (l : Launch) (hls : l.stackTraces = false) (G : kG) (hN : kN G = 150) (w : Nat → va_E) (fl : va_W) (a : Int) (ha : -4611686018427387904 ≤ a ∧ a ≤ 4611686018427387904) : KM l G yX12_turned cX12_turned 2 (some (FieldType.long)) 1 0 0 [vL a] w fl (kPure (vL (a % 21600)) w fl) := by
  refine KM_of2 hls (by decide +kernel) rfl (lv0 := [(0, vL a)]) rfl (Nat.le_of_ble_eq_true rfl) (fun p e R s m args below meth c Q hC hr hQ => ?_)
  refine k_lload_n hC dX12_turned_0 rfl 0 rfl ?_
  refine k_ldc2 hC (x := 21600) (v := 21600) dX12_turned_1 (by decide) wk_X12_90 ?_
  refine k_lload_n hC dX12_turned_4 rfl 0 rfl ?_
  refine k_ldc2 hC (x := 21600) (v := 21600) dX12_turned_5 (by decide) wk_X12_90 ?_
  refine k_pureS hC (c_X12_floor l hls G hN w fl a 21600 (by omega) (by omega)) yy_X12_floor wm_X12_92 rfl rfl (Nat.le_of_ble_eq_true rfl) (by decide) (by decide) ⟨by decide, by decide⟩ dX12_turned_8 ?_
  have hfd : a.fdiv 21600 = a / 21600 := Int.fdiv_eq_ediv_of_nonneg _ (by decide)
  refine k_lmul hC dX12_turned_11 ?_
  refine k_lsub hC dX12_turned_12 ?_
  subst hQ
  exact k_lret hC hr ⟨by decide, by decide⟩ (⟨congrArg (fun z => some (vL z)) (show (a % 21600 : Int) = a - (21600 * ((a).fdiv 21600)) from by rw [Int.fdiv_eq_ediv_of_nonneg _ (by decide)]; omega), rfl, rfl⟩) dX12_turned_13

theorem sinM_r {a d : Int} (h : d = a % 21600) : (d ≤ 10800 → sinM a = sinQ d) ∧ (10800 < d → sinM a = -sinM (d - 10800)) := by
  constructor
  · intro h1
    unfold sinM
    rw [← h]
    by_cases h2 : d < 10800
    · rw [if_pos h2]
    · rw [if_neg h2, show d = 10800 by omega]; decide
  · intro h1
    have h2 : sinM (d - 10800) = sinQ (d - 10800) := by
      unfold sinM
      rw [show (d - 10800) % 21600 = d - 10800 by omega, if_pos (by omega)]
    rw [h2]
    unfold sinM
    rw [← h, if_neg (by omega)]
set_option maxRecDepth 100000 in
set_option maxHeartbeats 4000000 in
theorem c_X12_sineOf0 (l : Launch) (hls : l.stackTraces = false) (G : kG) (hN : kN G = 150) (w : Nat → va_E) (fl : va_W) (a : Int) (ha : 0 ≤ a ∧ a ≤ 10800) : KM l G yX12_sineOf cX12_sineOf 6 (some (FieldType.long)) 2 0 0 [vL a] w fl (kPure (vL (sinM a)) w fl) := by
  refine KM_of2 hls (by decide +kernel) rfl (lv0 := [(0, vL a)]) rfl (Nat.le_of_ble_eq_true rfl) (fun p e R s m args below meth c Q hC hr hQ => ?_)
  refine k_lload_n hC dX12_sineOf_0 rfl 0 rfl ?_
  refine k_pureS hC (c_X12_turned l hls G hN w fl a (by omega)) yy_X12_turned wm_X12_95 rfl rfl (Nat.le_of_ble_eq_true rfl) (by decide) (by decide) ⟨by decide, by decide⟩ dX12_sineOf_1 ?_
  refine k_topL (fun d ed => ?_)
  refine k_lstore_n hC [(2, vL d), (0, vL a)] dX12_sineOf_4 rfl (by decide) rfl ?_
  refine k_lload_n hC dX12_sineOf_5 rfl 0 rfl ?_
  refine k_ldc2 hC (x := 10800) (v := 10800) dX12_sineOf_6 (by decide) wk_X12_99 ?_
  refine k_lcmp_le hC 23 dX12_sineOf_9 dX12_sineOf_10 rfl (by omega) (by omega) (fun c_9 => ?_) (fun c_9 => absurd c_9 (by omega))
  refine k_lload_n hC dX12_sineOf_23 rfl 0 rfl ?_
  refine k_ldc2 hC (x := 10800) (v := 10800) dX12_sineOf_24 (by decide) wk_X12_99 ?_
  refine k_lload_n hC dX12_sineOf_27 rfl 0 rfl ?_
  refine k_lsub hC dX12_sineOf_28 ?_
  refine k_lmul hC dX12_sineOf_29 ?_
  refine k_topL (fun x ex => ?_)
  refine k_lstore hC [(4, vL x), (2, vL d), (0, vL a)] dX12_sineOf_30 (by decide) rfl ?_
  have hx := sinX (t := d) (by omega)
  rw [← ex] at hx
  refine k_ldc2 hC (x := 4000000) (v := 4000000) dX12_sineOf_32 (by decide) wk_X12_104 ?_
  refine k_lload hC dX12_sineOf_35 0 rfl ?_
  refine k_lmul hC dX12_sineOf_37 ?_
  refine k_ldc2 hC (x := 145800000) (v := 145800000) dX12_sineOf_38 (by decide) wk_X12_106 ?_
  refine k_lload hC dX12_sineOf_41 0 rfl ?_
  refine k_lsub hC dX12_sineOf_43 ?_
  refine k_ldiv hC dX12_sineOf_44 (by omega) (by omega) ?_
  refine k_topL (fun q_1 eq_1 => ?_)
  have eq_1 : q_1 = (4000000 * x) / (145800000 - x) := by rw [eq_1]; exact Int.tdiv_eq_ediv_of_nonneg (by omega)
  have key : sinQ d = q_1 := by unfold sinQ; rw [eq_1, ex]
  subst hQ
  exact k_lret hC hr ⟨by decide, by decide⟩ (⟨congrArg (fun z => some (vL z)) (show (sinM a : Int) = q_1 from by rw [(sinM_r ed).1 (by omega)]; exact key), rfl, rfl⟩) dX12_sineOf_45

set_option maxRecDepth 100000 in
set_option maxHeartbeats 4000000 in
theorem c_X12_sineOf (l : Launch) (hls : l.stackTraces = false) (G : kG) (hN : kN G = 150) (w : Nat → va_E) (fl : va_W) (a : Int) (ha : -4611686018427387904 ≤ a ∧ a ≤ 4611686018427387904) : KM l G yX12_sineOf cX12_sineOf 6 (some (FieldType.long)) 3 0 0 [vL a] w fl (kPure (vL (sinM a)) w fl) := by
  refine KM_of2 hls (by decide +kernel) rfl (lv0 := [(0, vL a)]) rfl (Nat.le_of_ble_eq_true rfl) (fun p e R s m args below meth c Q hC hr hQ => ?_)
  refine k_lload_n hC dX12_sineOf_0 rfl 0 rfl ?_
  refine k_pureS hC (c_X12_turned l hls G hN w fl a (by omega)) yy_X12_turned wm_X12_95 rfl rfl (Nat.le_of_ble_eq_true rfl) (by decide) (by decide) ⟨by decide, by decide⟩ dX12_sineOf_1 ?_
  refine k_topL (fun d ed => ?_)
  refine k_lstore_n hC [(2, vL d), (0, vL a)] dX12_sineOf_4 rfl (by decide) rfl ?_
  refine k_lload_n hC dX12_sineOf_5 rfl 0 rfl ?_
  refine k_ldc2 hC (x := 10800) (v := 10800) dX12_sineOf_6 (by decide) wk_X12_99 ?_
  refine k_lcmp_le hC 23 dX12_sineOf_9 dX12_sineOf_10 rfl (by omega) (by omega) (fun c_9 => ?_) (fun c_9 => ?_)
  · refine k_lload_n hC dX12_sineOf_23 rfl 0 rfl ?_
    refine k_ldc2 hC (x := 10800) (v := 10800) dX12_sineOf_24 (by decide) wk_X12_99 ?_
    refine k_lload_n hC dX12_sineOf_27 rfl 0 rfl ?_
    refine k_lsub hC dX12_sineOf_28 ?_
    refine k_lmul hC dX12_sineOf_29 ?_
    refine k_topL (fun x ex => ?_)
    refine k_lstore hC [(4, vL x), (2, vL d), (0, vL a)] dX12_sineOf_30 (by decide) rfl ?_
    have hx := sinX (t := d) (by omega)
    rw [← ex] at hx
    refine k_ldc2 hC (x := 4000000) (v := 4000000) dX12_sineOf_32 (by decide) wk_X12_104 ?_
    refine k_lload hC dX12_sineOf_35 0 rfl ?_
    refine k_lmul hC dX12_sineOf_37 ?_
    refine k_ldc2 hC (x := 145800000) (v := 145800000) dX12_sineOf_38 (by decide) wk_X12_106 ?_
    refine k_lload hC dX12_sineOf_41 0 rfl ?_
    refine k_lsub hC dX12_sineOf_43 ?_
    refine k_ldiv hC dX12_sineOf_44 (by omega) (by omega) ?_
    refine k_topL (fun q_1 eq_1 => ?_)
    have eq_1 : q_1 = (4000000 * x) / (145800000 - x) := by rw [eq_1]; exact Int.tdiv_eq_ediv_of_nonneg (by omega)
    have key : sinQ d = q_1 := by unfold sinQ; rw [eq_1, ex]
    subst hQ
    exact k_lret hC hr ⟨by decide, by decide⟩ (⟨congrArg (fun z => some (vL z)) (show (sinM a : Int) = q_1 from by rw [(sinM_r ed).1 (by omega)]; exact key), rfl, rfl⟩) dX12_sineOf_45
  · refine k_lload_n hC dX12_sineOf_13 rfl 0 rfl ?_
    refine k_ldc2 hC (x := 10800) (v := 10800) dX12_sineOf_14 (by decide) wk_X12_99 ?_
    refine k_lsub hC dX12_sineOf_17 ?_
    refine k_pureS hC (c_X12_sineOf0 l hls G hN w fl (d - 10800) (by omega)) yy_X12_sineOf wm_X12_101 rfl rfl (Nat.le_of_ble_eq_true rfl) (by decide) (by decide) ⟨by decide, by decide⟩ dX12_sineOf_18 ?_
    have hb_2 := sinM_b (d - 10800)
    refine k_lneg hC dX12_sineOf_21 ?_
    subst hQ
    exact k_lret hC hr ⟨by decide, by decide⟩ (⟨congrArg (fun z => some (vL z)) (show (sinM a : Int) = -(sinM (d - 10800)) from by rw [(sinM_r ed).2 (by omega)]), rfl, rfl⟩) dX12_sineOf_22

set_option maxRecDepth 100000 in
set_option maxHeartbeats 4000000 in
theorem c_X12_cosineOf (l : Launch) (hls : l.stackTraces = false) (G : kG) (hN : kN G = 150) (w : Nat → va_E) (fl : va_W) (a : Int) (ha : -4611686018427380000 ≤ a ∧ a ≤ 4611686018427380000) : KM l G yX12_cosineOf cX12_cosineOf 2 (some (FieldType.long)) 4 0 0 [vL a] w fl (kPure (vL (cosM a)) w fl) := by
  refine KM_of2 hls (by decide +kernel) rfl (lv0 := [(0, vL a)]) rfl (Nat.le_of_ble_eq_true rfl) (fun p e R s m args below meth c Q hC hr hQ => ?_)
  refine k_lload_n hC dX12_cosineOf_0 rfl 0 rfl ?_
  refine k_ldc2 hC (x := 5400) (v := 5400) dX12_cosineOf_1 (by decide) wk_X12_108 ?_
  refine k_ladd hC dX12_cosineOf_4 ?_
  refine k_pureS hC (c_X12_sineOf l hls G hN w fl (a + 5400) (by omega)) yy_X12_sineOf wm_X12_101 rfl rfl (Nat.le_of_ble_eq_true rfl) (by decide) (by decide) ⟨by decide, by decide⟩ dX12_cosineOf_5 ?_
  have hb_1 := sinM_b (a + 5400)
  subst hQ
  exact k_lret hC hr ⟨by decide, by decide⟩ (⟨congrArg (fun z => some (vL z)) (show (cosM a : Int) = sinM (a + 5400) from rfl), rfl, rfl⟩) dX12_cosineOf_8

set_option maxRecDepth 100000 in
set_option maxHeartbeats 4000000 in
theorem c_X12_arcOf0 (l : Launch) (hls : l.stackTraces = false) (G : kG) (hN : kN G = 150) (w : Nat → va_E) (fl : va_W) (v : Int) (hv : 0 ≤ v ∧ v ≤ 4000000000000000000) : KM l G yX12_arcOf cX12_arcOf 8 (some (FieldType.long)) 4 0 0 [vL v] w fl (kPure (vL (arcM v)) w fl) := by
  refine KM_of2 hls (by decide +kernel) rfl (lv0 := [(0, vL v)]) rfl (Nat.le_of_ble_eq_true rfl) (fun p e R s m args below meth c Q hC hr hQ => ?_)
  refine k_lload_n hC dX12_arcOf_0 rfl 0 rfl ?_
  refine k_lconst (x := 0) hC dX12_arcOf_1 (by decide) ?_
  refine k_lcmp_ge hC 13 dX12_arcOf_2 dX12_arcOf_3 rfl (by omega) (by omega) (fun c_2 => ?_) (fun c_2 => absurd c_2 (by omega))
  refine k_lconst (x := 0) hC dX12_arcOf_13 (by decide) ?_
  refine k_lstore_n hC [(2, vL 0), (0, vL v)] dX12_arcOf_14 rfl (by decide) rfl ?_
  refine k_ldc2 hC (x := 5400) (v := 5400) dX12_arcOf_15 (by decide) wk_X12_108 ?_
  refine k_lstore hC [(4, vL 5400), (2, vL 0), (0, vL v)] dX12_arcOf_18 (by decide) rfl ?_
  have loop : ∀ (n : Nat) (lo : Int) (hi : Int), (hi - lo < n) → (0 ≤ lo ∧ lo ≤ hi ∧ hi ≤ 5400) → (sinM lo ≤ v) → (hi = 5400 ∨ v < sinM (hi + 1)) → KW p l e R s m args below meth c 8 G Q w fl 0 0 20 [(2, vL lo), (4, vL hi), (0, vL v)] [] := by
    intro n
    induction n with
    | zero =>
      intro lo hi hn_ hlo h1 h2
      exact absurd hn_ (by omega)
    | succ n ih =>
      intro lo hi hn_ hlo h1 h2
      refine k_lload_n hC dX12_arcOf_20 rfl 0 rfl ?_
      refine k_lload hC dX12_arcOf_21 1 rfl ?_
      refine k_lcmp_ge hC 64 dX12_arcOf_23 dX12_arcOf_24 rfl (by omega) (by omega) (fun c_23 => ?_) (fun c_23 => ?_)
      · refine k_lload_n hC dX12_arcOf_64 rfl 0 rfl ?_
        subst hQ
        exact k_lret hC hr ⟨by decide, by decide⟩ (⟨congrArg (fun z => some (vL z)) (show (arcM v : Int) = lo from by unfold arcM; rw [if_neg (by omega)]; exact arcN_eq (by omega) h1 (by rw [show lo = hi by omega]; exact h2)), rfl, rfl⟩) dX12_arcOf_65
      · refine k_lload_n hC dX12_arcOf_27 rfl 0 rfl ?_
        refine k_lload hC dX12_arcOf_28 1 rfl ?_
        refine k_ladd hC dX12_arcOf_30 ?_
        refine k_lconst (x := 1) hC dX12_arcOf_31 (by decide) ?_
        refine k_ladd hC dX12_arcOf_32 ?_
        refine k_ldc2 hC (x := 2) (v := 2) dX12_arcOf_33 (by decide) wk_X12_88 ?_
        refine k_ldiv hC dX12_arcOf_36 (by omega) (by omega) ?_
        refine k_topL (fun q_1 eq_1 => ?_)
        have eq_1 : q_1 = (lo + hi + 1) / 2 := by rw [eq_1]; exact Int.tdiv_eq_ediv_of_nonneg (by omega)
        refine k_topL (fun mi emi => ?_)
        refine k_lstore hC [(6, vL mi), (2, vL lo), (4, vL hi), (0, vL v)] dX12_arcOf_37 (by decide) rfl ?_
        have hmi : mi = (lo + hi + 1) / 2 := by rw [emi, eq_1]
        refine k_lload hC dX12_arcOf_39 0 rfl ?_
        refine k_pureS hC (c_X12_sineOf l hls G hN w fl mi (by omega)) yy_X12_sineOf wm_X12_101 rfl rfl (Nat.le_of_ble_eq_true rfl) (by decide) (by decide) ⟨by decide, by decide⟩ dX12_arcOf_41 ?_
        have hb_2 := sinM_b mi
        refine k_lload_n hC dX12_arcOf_44 rfl 3 rfl ?_
        refine k_lcmp_gt hC 55 dX12_arcOf_45 dX12_arcOf_46 rfl (by omega) (by omega) (fun c_45 => ?_) (fun c_45 => ?_)
        · refine k_lload hC dX12_arcOf_55 0 rfl ?_
          refine k_lconst (x := 1) hC dX12_arcOf_57 (by decide) ?_
          refine k_lsub hC dX12_arcOf_58 ?_
          refine k_lstore hC [(4, vL (mi - 1)), (6, vL mi), (2, vL lo), (0, vL v)] dX12_arcOf_59 (by decide) rfl ?_
          refine k_goto hC 20 dX12_arcOf_61 rfl ?_
          refine k_lvs (ls := [2, 0, 3]) [(2, vL lo), (4, vL (mi - 1)), (0, vL v)] rfl ?_
          refine k_lvs (ls := [0, 1, 2]) [(2, vL lo), (4, vL (mi - 1)), (0, vL v)] (by simp only [lv_pick]; rfl) ?_
          exact ih lo (mi - 1)  (by omega) (by omega) (by first | exact h1 | omega) (by first | exact h2 | (rw [show mi - 1 + 1 = mi by omega]; exact Or.inr (by omega)))
        · refine k_lload hC dX12_arcOf_49 0 rfl ?_
          refine k_lstore_n hC [(2, vL mi), (6, vL mi), (4, vL hi), (0, vL v)] dX12_arcOf_51 rfl (by decide) rfl ?_
          refine k_goto hC 61 dX12_arcOf_52 rfl ?_
          refine k_goto hC 20 dX12_arcOf_61 rfl ?_
          refine k_lvs (ls := [0, 2, 3]) [(2, vL mi), (4, vL hi), (0, vL v)] rfl ?_
          refine k_lvs (ls := [0, 1, 2]) [(2, vL mi), (4, vL hi), (0, vL v)] (by simp only [lv_pick]; rfl) ?_
          exact ih mi hi  (by omega) (by omega) (by first | exact h1 | omega) (by first | exact h2 | (rw [show mi - 1 + 1 = mi by omega]; exact Or.inr (by omega)))
  refine k_lvs (ls := [1, 0, 2]) [(2, vL 0), (4, vL 5400), (0, vL v)] rfl ?_
  refine k_lvs (ls := [0, 1, 2]) [(2, vL 0), (4, vL 5400), (0, vL v)] (by simp only [lv_pick]; rfl) ?_
  exact loop 5401 0 5400  (by omega) (by omega) (by rw [sinM_0]; omega) (Or.inl rfl)

set_option maxRecDepth 100000 in
set_option maxHeartbeats 4000000 in
theorem c_X12_arcOf (l : Launch) (hls : l.stackTraces = false) (G : kG) (hN : kN G = 150) (w : Nat → va_E) (fl : va_W) (v : Int) (hv : -4000000000000000000 ≤ v ∧ v ≤ 4000000000000000000) : KM l G yX12_arcOf cX12_arcOf 8 (some (FieldType.long)) 5 0 0 [vL v] w fl (kPure (vL (arcM v)) w fl) := by
  refine KM_of2 hls (by decide +kernel) rfl (lv0 := [(0, vL v)]) rfl (Nat.le_of_ble_eq_true rfl) (fun p e R s m args below meth c Q hC hr hQ => ?_)
  refine k_lload_n hC dX12_arcOf_0 rfl 0 rfl ?_
  refine k_lconst (x := 0) hC dX12_arcOf_1 (by decide) ?_
  refine k_lcmp_ge hC 13 dX12_arcOf_2 dX12_arcOf_3 rfl (by omega) (by omega) (fun c_2 => ?_) (fun c_2 => ?_)
  · refine k_lconst (x := 0) hC dX12_arcOf_13 (by decide) ?_
    refine k_lstore_n hC [(2, vL 0), (0, vL v)] dX12_arcOf_14 rfl (by decide) rfl ?_
    refine k_ldc2 hC (x := 5400) (v := 5400) dX12_arcOf_15 (by decide) wk_X12_108 ?_
    refine k_lstore hC [(4, vL 5400), (2, vL 0), (0, vL v)] dX12_arcOf_18 (by decide) rfl ?_
    have loop : ∀ (n : Nat) (lo : Int) (hi : Int), (hi - lo < n) → (0 ≤ lo ∧ lo ≤ hi ∧ hi ≤ 5400) → (sinM lo ≤ v) → (hi = 5400 ∨ v < sinM (hi + 1)) → KW p l e R s m args below meth c 8 G Q w fl 0 0 20 [(2, vL lo), (4, vL hi), (0, vL v)] [] := by
      intro n
      induction n with
      | zero =>
        intro lo hi hn_ hlo h1 h2
        exact absurd hn_ (by omega)
      | succ n ih =>
        intro lo hi hn_ hlo h1 h2
        refine k_lload_n hC dX12_arcOf_20 rfl 0 rfl ?_
        refine k_lload hC dX12_arcOf_21 1 rfl ?_
        refine k_lcmp_ge hC 64 dX12_arcOf_23 dX12_arcOf_24 rfl (by omega) (by omega) (fun c_23 => ?_) (fun c_23 => ?_)
        · refine k_lload_n hC dX12_arcOf_64 rfl 0 rfl ?_
          subst hQ
          exact k_lret hC hr ⟨by decide, by decide⟩ (⟨congrArg (fun z => some (vL z)) (show (arcM v : Int) = lo from by unfold arcM; rw [if_neg (by omega)]; exact arcN_eq (by omega) h1 (by rw [show lo = hi by omega]; exact h2)), rfl, rfl⟩) dX12_arcOf_65
        · refine k_lload_n hC dX12_arcOf_27 rfl 0 rfl ?_
          refine k_lload hC dX12_arcOf_28 1 rfl ?_
          refine k_ladd hC dX12_arcOf_30 ?_
          refine k_lconst (x := 1) hC dX12_arcOf_31 (by decide) ?_
          refine k_ladd hC dX12_arcOf_32 ?_
          refine k_ldc2 hC (x := 2) (v := 2) dX12_arcOf_33 (by decide) wk_X12_88 ?_
          refine k_ldiv hC dX12_arcOf_36 (by omega) (by omega) ?_
          refine k_topL (fun q_1 eq_1 => ?_)
          have eq_1 : q_1 = (lo + hi + 1) / 2 := by rw [eq_1]; exact Int.tdiv_eq_ediv_of_nonneg (by omega)
          refine k_topL (fun mi emi => ?_)
          refine k_lstore hC [(6, vL mi), (2, vL lo), (4, vL hi), (0, vL v)] dX12_arcOf_37 (by decide) rfl ?_
          have hmi : mi = (lo + hi + 1) / 2 := by rw [emi, eq_1]
          refine k_lload hC dX12_arcOf_39 0 rfl ?_
          refine k_pureS hC (c_X12_sineOf l hls G hN w fl mi (by omega)) yy_X12_sineOf wm_X12_101 rfl rfl (Nat.le_of_ble_eq_true rfl) (by decide) (by decide) ⟨by decide, by decide⟩ dX12_arcOf_41 ?_
          have hb_2 := sinM_b mi
          refine k_lload_n hC dX12_arcOf_44 rfl 3 rfl ?_
          refine k_lcmp_gt hC 55 dX12_arcOf_45 dX12_arcOf_46 rfl (by omega) (by omega) (fun c_45 => ?_) (fun c_45 => ?_)
          · refine k_lload hC dX12_arcOf_55 0 rfl ?_
            refine k_lconst (x := 1) hC dX12_arcOf_57 (by decide) ?_
            refine k_lsub hC dX12_arcOf_58 ?_
            refine k_lstore hC [(4, vL (mi - 1)), (6, vL mi), (2, vL lo), (0, vL v)] dX12_arcOf_59 (by decide) rfl ?_
            refine k_goto hC 20 dX12_arcOf_61 rfl ?_
            refine k_lvs (ls := [2, 0, 3]) [(2, vL lo), (4, vL (mi - 1)), (0, vL v)] rfl ?_
            refine k_lvs (ls := [0, 1, 2]) [(2, vL lo), (4, vL (mi - 1)), (0, vL v)] (by simp only [lv_pick]; rfl) ?_
            exact ih lo (mi - 1)  (by omega) (by omega) (by first | exact h1 | omega) (by first | exact h2 | (rw [show mi - 1 + 1 = mi by omega]; exact Or.inr (by omega)))
          · refine k_lload hC dX12_arcOf_49 0 rfl ?_
            refine k_lstore_n hC [(2, vL mi), (6, vL mi), (4, vL hi), (0, vL v)] dX12_arcOf_51 rfl (by decide) rfl ?_
            refine k_goto hC 61 dX12_arcOf_52 rfl ?_
            refine k_goto hC 20 dX12_arcOf_61 rfl ?_
            refine k_lvs (ls := [0, 2, 3]) [(2, vL mi), (4, vL hi), (0, vL v)] rfl ?_
            refine k_lvs (ls := [0, 1, 2]) [(2, vL mi), (4, vL hi), (0, vL v)] (by simp only [lv_pick]; rfl) ?_
            exact ih mi hi  (by omega) (by omega) (by first | exact h1 | omega) (by first | exact h2 | (rw [show mi - 1 + 1 = mi by omega]; exact Or.inr (by omega)))
    refine k_lvs (ls := [1, 0, 2]) [(2, vL 0), (4, vL 5400), (0, vL v)] rfl ?_
    refine k_lvs (ls := [0, 1, 2]) [(2, vL 0), (4, vL 5400), (0, vL v)] (by simp only [lv_pick]; rfl) ?_
    exact loop 5401 0 5400  (by omega) (by omega) (by rw [sinM_0]; omega) (Or.inl rfl)
  · refine k_lload_n hC dX12_arcOf_6 rfl 0 rfl ?_
    refine k_lneg hC dX12_arcOf_7 ?_
    refine k_pureS hC (c_X12_arcOf0 l hls G hN w fl (-v) (by omega)) yy_X12_arcOf wm_X12_110 rfl rfl (Nat.le_of_ble_eq_true rfl) (by decide) (by decide) ⟨by decide, by decide⟩ dX12_arcOf_8 ?_
    have hb_3 := arcM_b (-v)
    refine k_lneg hC dX12_arcOf_11 ?_
    subst hQ
    exact k_lret hC hr ⟨by decide, by decide⟩ (⟨congrArg (fun z => some (vL z)) (show (arcM v : Int) = -(arcM (-v)) from by unfold arcM; rw [if_pos (by omega), if_neg (by omega)]), rfl, rfl⟩) dX12_arcOf_12

set_option maxRecDepth 100000 in
set_option maxHeartbeats 4000000 in
theorem c_X12_product (l : Launch) (hls : l.stackTraces = false) (G : kG) (hN : kN G = 150) (w : Nat → va_E) (fl : va_W) (a b : Int) (ha : -9223372036854775807 ≤ a * b ∧ a * b ≤ 9223372036854775807) : KM l G yX12_product cX12_product 4 (some (FieldType.long)) 1 0 0 [vL a, vL b] w fl (kPure (vL (prodM a b)) w fl) := by
  refine KM_of2 hls (by decide +kernel) rfl (lv0 := [(0, vL a), (2, vL b)]) rfl (Nat.le_of_ble_eq_true rfl) (fun p e R s m args below meth c Q hC hr hQ => ?_)
  refine k_lload_n hC dX12_product_0 rfl 0 rfl ?_
  refine k_lload_n hC dX12_product_1 rfl 1 rfl ?_
  refine k_lmul hC dX12_product_2 ?_
  refine k_ldc2 hC (x := 1000000) (v := 1000000) dX12_product_3 (by decide) wk_X12_113 ?_
  refine k_pureS hC (c_X12_floor l hls G hN w fl (a * b) 1000000 (by omega) (by omega)) yy_X12_floor wm_X12_92 rfl rfl (Nat.le_of_ble_eq_true rfl) (by decide) (by decide) ⟨by decide, by decide⟩ dX12_product_6 ?_
  subst hQ
  exact k_lret hC hr ⟨by decide, by decide⟩ (⟨congrArg (fun z => some (vL z)) (show (prodM a b : Int) = (a * b).fdiv 1000000 from (Int.fdiv_eq_ediv_of_nonneg _ (by decide)).symm), rfl, rfl⟩) dX12_product_9

set_option maxRecDepth 100000 in
set_option maxHeartbeats 4000000 in
theorem c_X12_ofLeg (l : Launch) (hls : l.stackTraces = false) (G : kG) (hN : kN G = 150) (w : Nat → va_E) (fl : va_W) (u g : Nat → Int) (k q : Nat) (hk : k < 8) (hq : q < 3) (hm : w 133 = mdO G u) (hn : w 134 = lA G 93 g) : KM l G yX12_ofLeg cX12_ofLeg 3 (some (FieldType.long)) 0 0 0 [.ref (kad G 133), vI (k : Int), vI (q : Int)] w fl (kPure (vL (g (33 + q + 3 * k))) w fl) := by
  refine KM_of2 hls (by decide +kernel) rfl (lv0 := [(0, .ref (kad G 133)), (1, vI (k : Int)), (2, vI (q : Int))]) rfl (Nat.le_of_ble_eq_true rfl) (fun p e R s m args below meth c Q hC hr hQ => ?_)
  refine k_aload_n hC dX12_ofLeg_0 rfl 0 rfl ?_
  refine k_get hC fd_X12_9 (kl hN (by decide)) hm rfl dX12_ofLeg_1 ?_
  refine k_bipush hC dX12_ofLeg_4 (by decide) ?_
  refine k_iconst hC dX12_ofLeg_6 ?_
  refine k_iload_n hC dX12_ofLeg_7 rfl 1 rfl ?_
  refine k_imul hC dX12_ofLeg_8 ?_
  refine k_iadd hC dX12_ofLeg_9 ?_
  refine k_iload_n hC dX12_ofLeg_10 rfl 2 rfl ?_
  refine k_iadd hC dX12_ofLeg_11 ?_
  refine k_lald hC (kl hN (by decide)) hn (by omega) (by decide) dX12_ofLeg_12 ?_
  refine k_topv (vL (g (((33 + (3 * (k : Int))) + (q : Int)).toNat))) rfl ?_
  subst hQ
  exact k_lret hC hr ⟨by decide, by decide⟩ (⟨congrArg (fun z => some (vL z)) (show (g (33 + q + 3 * k) : Int) = g (((33 + (3 * (k : Int))) + (q : Int)).toNat) from congrArg g (by omega)), rfl, rfl⟩) dX12_ofLeg_13

set_option maxRecDepth 100000 in
set_option maxHeartbeats 4000000 in
theorem c_X12_ofSight (l : Launch) (hls : l.stackTraces = false) (G : kG) (hN : kN G = 150) (w : Nat → va_E) (fl : va_W) (u g : Nat → Int) (k q : Nat) (hk : k < 12) (hq : q < 3) (hm : w 133 = mdO G u) (hn : w 134 = lA G 93 g) : KM l G yX12_ofSight cX12_ofSight 3 (some (FieldType.long)) 0 0 0 [.ref (kad G 133), vI (k : Int), vI (q : Int)] w fl (kPure (vL (g (57 + q + 3 * k))) w fl) := by
  refine KM_of2 hls (by decide +kernel) rfl (lv0 := [(0, .ref (kad G 133)), (1, vI (k : Int)), (2, vI (q : Int))]) rfl (Nat.le_of_ble_eq_true rfl) (fun p e R s m args below meth c Q hC hr hQ => ?_)
  refine k_aload_n hC dX12_ofSight_0 rfl 0 rfl ?_
  refine k_get hC fd_X12_9 (kl hN (by decide)) hm rfl dX12_ofSight_1 ?_
  refine k_bipush hC dX12_ofSight_4 (by decide) ?_
  refine k_iconst hC dX12_ofSight_6 ?_
  refine k_iload_n hC dX12_ofSight_7 rfl 1 rfl ?_
  refine k_imul hC dX12_ofSight_8 ?_
  refine k_iadd hC dX12_ofSight_9 ?_
  refine k_iload_n hC dX12_ofSight_10 rfl 2 rfl ?_
  refine k_iadd hC dX12_ofSight_11 ?_
  refine k_lald hC (kl hN (by decide)) hn (by omega) (by decide) dX12_ofSight_12 ?_
  refine k_topv (vL (g (((57 + (3 * (k : Int))) + (q : Int)).toNat))) rfl ?_
  subst hQ
  exact k_lret hC hr ⟨by decide, by decide⟩ (⟨congrArg (fun z => some (vL z)) (show (g (57 + q + 3 * k) : Int) = g (((57 + (3 * (k : Int))) + (q : Int)).toNat) from congrArg g (by omega)), rfl, rfl⟩) dX12_ofSight_13

set_option maxRecDepth 100000 in
set_option maxHeartbeats 4000000 in
theorem c_X12_ofBody (l : Launch) (hls : l.stackTraces = false) (G : kG) (hN : kN G = 150) (w : Nat → va_E) (fl : va_W) (u g : Nat → Int) (b : Int) (q : Nat) (hb : 0 ≤ b ∧ b < 6) (hq : q < 4) (hm : w 133 = mdO G u) (hn : w 134 = lA G 93 g) : KM l G yX12_ofBody cX12_ofBody 4 (some (FieldType.long)) 0 0 0 [.ref (kad G 133), vL b, vI (q : Int)] w fl (kPure (vL (g (9 + q + 4 * b.toNat))) w fl) := by
  refine KM_of2 hls (by decide +kernel) rfl (lv0 := [(0, .ref (kad G 133)), (1, vL b), (3, vI (q : Int))]) rfl (Nat.le_of_ble_eq_true rfl) (fun p e R s m args below meth c Q hC hr hQ => ?_)
  refine k_aload_n hC dX12_ofBody_0 rfl 0 rfl ?_
  refine k_get hC fd_X12_9 (kl hN (by decide)) hm rfl dX12_ofBody_1 ?_
  refine k_bipush hC dX12_ofBody_4 (by decide) ?_
  refine k_iconst hC dX12_ofBody_6 ?_
  refine k_lload_n hC dX12_ofBody_7 rfl 1 rfl ?_
  refine k_l2i hC dX12_ofBody_8 ?_
  refine k_imul hC dX12_ofBody_9 ?_
  refine k_iadd hC dX12_ofBody_10 ?_
  refine k_iload_n hC dX12_ofBody_11 rfl 2 rfl ?_
  refine k_iadd hC dX12_ofBody_12 ?_
  refine k_lald hC (kl hN (by decide)) hn (by omega) (by decide) dX12_ofBody_13 ?_
  refine k_topv (vL (g (((9 + (4 * b)) + (q : Int)).toNat))) rfl ?_
  subst hQ
  exact k_lret hC hr ⟨by decide, by decide⟩ (⟨congrArg (fun z => some (vL z)) (show (g (9 + q + 4 * b.toNat) : Int) = g (((9 + (4 * b)) + (q : Int)).toNat) from congrArg g (by omega)), rfl, rfl⟩) dX12_ofBody_14

set_option maxRecDepth 100000 in
set_option maxHeartbeats 4000000 in
theorem c_X12_part (l : Launch) (hls : l.stackTraces = false) (G : kG) (hN : kN G = 150) (w : Nat → va_E) (fl : va_W) (sp mi co no : Int) (hsp : 0 ≤ sp ∧ sp ≤ 400) (hmi : 0 ≤ mi ∧ mi ≤ 5000) (hco : 0 ≤ co ∧ co ≤ 21599) (hno : no = 0 ∨ no = 1) : KM l G yX12_part cX12_part 9 (some (FieldType.long)) 5 0 0 [vL sp, vL mi, vL co, vI no] w fl (kPure (vL (partM sp mi co (bN no))) w fl) := by
  refine KM_of2 hls (by decide +kernel) rfl (lv0 := [(0, vL sp), (2, vL mi), (4, vL co), (6, vI no)]) rfl (Nat.le_of_ble_eq_true rfl) (fun p e R s m args below meth c Q hC hr hQ => ?_)
  refine k_lload_n hC dX12_part_0 rfl 0 rfl ?_
  refine k_lload_n hC dX12_part_1 rfl 1 rfl ?_
  refine k_lmul hC dX12_part_2 ?_
  have hw := way_b hsp hmi
  have hw2 : sp * mi ≤ 2000000 := by have := Int.mul_le_mul_of_nonneg_left hmi.2 hsp.1; omega
  refine k_ldc2 hC (x := 6) (v := 6) dX12_part_3 (by decide) wk_X12_115 ?_
  refine k_ldiv hC dX12_part_6 (by omega) (by omega) ?_
  refine k_topL (fun q_1 eq_1 => ?_)
  have eq_1 : q_1 = sp * mi / 6 := by rw [eq_1]; exact Int.tdiv_eq_ediv_of_nonneg (by omega)
  refine k_topL (fun wy ewy => ?_)
  refine k_lstore hC [(7, vL wy), (0, vL sp), (2, vL mi), (4, vL co), (6, vI no)] dX12_part_7 (by decide) rfl ?_
  have ewy2 : wy = sp * mi / 6 := by rw [ewy, eq_1]
  have hm1 := mul_le_abs (a := wy) (b := cosM co) (A := 400000) (B := 1000000) (by omega) (cosM_b co)
  have hm2 := mul_le_abs (a := wy) (b := sinM co) (A := 400000) (B := 1000000) (by omega) (sinM_b co)
  refine k_lload hC dX12_part_9 0 rfl ?_
  refine k_iload hC dX12_part_11 4 rfl ?_
  refine k_if_eq hC 24 dX12_part_13 rfl (by omega) (fun c_13 => ?_) (fun c_13 => ?_)
  · refine k_lload hC dX12_part_24 3 rfl ?_
    refine k_pureS hC (c_X12_sineOf l hls G hN w fl co (by omega)) yy_X12_sineOf wm_X12_101 rfl rfl (Nat.le_of_ble_eq_true rfl) (by decide) (by decide) ⟨by decide, by decide⟩ dX12_part_26 ?_
    have hb_2 := sinM_b co
    refine k_pureS hC (c_X12_product l hls G hN w fl wy (sinM co) (by omega)) yy_X12_product wm_X12_120 rfl rfl (Nat.le_of_ble_eq_true rfl) (by decide) (by decide) ⟨by decide, by decide⟩ dX12_part_29 ?_
    subst hQ
    exact k_lret hC hr ⟨by decide, by decide⟩ (⟨congrArg (fun z => some (vL z)) (show (partM sp mi co (bN no) : Int) = prodM wy (sinM co) from by unfold partM scM; rw [← ewy2, show no = 0 by omega]; rfl), rfl, rfl⟩) dX12_part_32
  · refine k_lload hC dX12_part_16 3 rfl ?_
    refine k_pureS hC (c_X12_cosineOf l hls G hN w fl co (by omega)) yy_X12_cosineOf wm_X12_117 rfl rfl (Nat.le_of_ble_eq_true rfl) (by decide) (by decide) ⟨by decide, by decide⟩ dX12_part_18 ?_
    refine k_topv (vL (cosM co)) rfl ?_
    have hb_3 := cosM_b co
    refine k_goto hC 29 dX12_part_21 rfl ?_
    refine k_pureS hC (c_X12_product l hls G hN w fl wy (cosM co) (by omega)) yy_X12_product wm_X12_120 rfl rfl (Nat.le_of_ble_eq_true rfl) (by decide) (by decide) ⟨by decide, by decide⟩ dX12_part_29 ?_
    subst hQ
    exact k_lret hC hr ⟨by decide, by decide⟩ (⟨congrArg (fun z => some (vL z)) (show (partM sp mi co (bN no) : Int) = prodM wy (cosM co) from by unfold partM scM; rw [← ewy2]; first | rw [show no = 1 by omega]; rfl), rfl, rfl⟩) dX12_part_32

theorem legS_stop {g : Nat → Int} (hI : Inv g) {t : Int} (no : Bool) {k : Nat} (hk : (k : Int) < g 1) (ht : t ≤ g (33 + 3 * k)) : legS g t no (g 1).toNat = legS g t no k := by
  have h0 := hI.c
  have h1 : ∀ m : Nat, (k : Int) + m < g 1 → t ≤ g (33 + 3 * (k + m)) := by
    intro m
    induction m with
    | zero => intro _; exact ht
    | succ m ih =>
      intro hm
      have h3 := ih (by omega)
      have h4 := hI.ord (k + m) (by omega)
      rw [show 36 + 3 * (k + m) = 33 + 3 * (k + (m + 1)) by omega] at h4
      omega
  have h2 : ∀ m : Nat, (k : Int) + m ≤ g 1 → legS g t no (k + m) = legS g t no k := by
    intro m
    induction m with
    | zero => intro _; rfl
    | succ m ih =>
      intro hm
      show legS g t no (k + m) + legP g t no (k + m) = _
      rw [ih (by omega)]
      have h3 := h1 m (by omega)
      have h4 : legU g t (k + m) ≤ t := by unfold legU; split <;> omega
      unfold legP
      rw [if_neg (by omega)]
      omega
  have h3 := h2 ((g 1).toNat - k) (by omega)
  rw [show k + ((g 1).toNat - k) = (g 1).toNat by omega] at h3
  exact h3
set_option maxRecDepth 100000 in
set_option maxHeartbeats 4000000 in
theorem c_X12_displaced (l : Launch) (hls : l.stackTraces = false) (G : kG) (hN : kN G = 150) (w : Nat → va_E) (fl : va_W) (u g : Nat → Int) (t no : Int) (hI : Inv g) (ht : 0 ≤ t ∧ t ≤ 5000) (hno : no = 0 ∨ no = 1) (hm : w 133 = mdO G u) (hn : w 134 = lA G 93 g) : KM l G yX12_displaced cX12_displaced 9 (some (FieldType.long)) 6 0 0 [.ref (kad G 133), vL t, vI no] w fl (kPure (vL (dispM g t (bN no))) w fl) := by
  refine KM_of2 hls (by decide +kernel) rfl (lv0 := [(0, .ref (kad G 133)), (1, vL t), (3, vI no)]) rfl (Nat.le_of_ble_eq_true rfl) (fun p e R s m args below meth c Q hC hr hQ => ?_)
  have h0 := hI.c
  refine k_aload_n hC dX12_displaced_0 rfl 0 rfl ?_
  refine k_get hC fd_X12_9 (kl hN (by decide)) hm rfl dX12_displaced_1 ?_
  refine k_bipush hC dX12_displaced_4 (by decide) ?_
  refine k_lald hC (kl hN (by decide)) hn (by omega) (by decide) dX12_displaced_6 ?_
  refine k_topv (vL (g 8)) rfl ?_
  refine k_lload_n hC dX12_displaced_7 rfl 1 rfl ?_
  refine k_aload_n hC dX12_displaced_8 rfl 0 rfl ?_
  refine k_get hC fd_X12_9 (kl hN (by decide)) hm rfl dX12_displaced_9 ?_
  refine k_bipush hC dX12_displaced_12 (by decide) ?_
  refine k_lald hC (kl hN (by decide)) hn (by omega) (by decide) dX12_displaced_14 ?_
  refine k_topv (vL (g 7)) rfl ?_
  refine k_iload_n hC dX12_displaced_15 rfl 2 rfl ?_
  refine k_pureS hC (c_X12_part l hls G hN w fl (g 8) t (g 7) no (by omega) (by omega) (by omega) (by omega)) yy_X12_part wm_X12_123 rfl rfl (Nat.le_of_ble_eq_true rfl) (by decide) (by decide) ⟨by decide, by decide⟩ dX12_displaced_16 ?_
  refine k_topv (vL (partM (g 8) t (g 7) (bN no))) rfl ?_
  refine k_lstore hC [(4, vL (partM (g 8) t (g 7) (bN no))), (0, .ref (kad G 133)), (1, vL t), (3, vI no)] dX12_displaced_19 (by decide) rfl ?_
  refine k_iconst hC dX12_displaced_21 ?_
  refine k_istore hC [(6, vI 0), (4, vL (partM (g 8) t (g 7) (bN no))), (0, .ref (kad G 133)), (1, vL t), (3, vI no)] dX12_displaced_22 (by decide) rfl ?_
  have loop : ∀ (n : Nat) (k : Nat) (su : Int), ((g 1).toNat < n + k) → ((k : Int) ≤ g 1) → (su = partM (g 8) t (g 7) (bN no) + legS g t (bN no) k) → KW p l e R s m args below meth c 9 G Q w fl 0 0 24 [(6, vI (k : Int)), (4, vL su), (0, .ref (kad G 133)), (1, vL t), (3, vI no)] [] := by
    intro n
    induction n with
    | zero =>
      intro k su hn_ hk hsu
      exact absurd hn_ (by omega)
    | succ n ih =>
      intro k su hn_ hk hsu
      refine k_iload hC dX12_displaced_24 0 rfl ?_
      refine k_i2l hC dX12_displaced_26 (by omega) ?_
      refine k_aload_n hC dX12_displaced_27 rfl 2 rfl ?_
      refine k_get hC fd_X12_9 (kl hN (by decide)) hm rfl dX12_displaced_28 ?_
      refine k_iconst hC dX12_displaced_31 ?_
      refine k_lald hC (kl hN (by decide)) hn (by omega) (by decide) dX12_displaced_32 ?_
      refine k_topv (vL (g 1)) rfl ?_
      refine k_lcmp_ge hC 122 dX12_displaced_33 dX12_displaced_34 rfl (by omega) (by omega) (fun c_33 => ?_) (fun c_33 => ?_)
      · refine k_lload hC dX12_displaced_122 1 rfl ?_
        subst hQ
        exact k_lret hC hr ⟨by decide, by decide⟩ (⟨congrArg (fun z => some (vL z)) (show (dispM g t (bN no) : Int) = su from by unfold dispM; rw [hsu]; first | (rw [legS_stop hI (bN no) (by omega) (show t ≤ g (33 + 3 * k) by omega)]; omega) | (rw [show (g 1).toNat = k by omega]; omega)), rfl, rfl⟩) dX12_displaced_124
      · refine k_aload_n hC dX12_displaced_37 rfl 2 rfl ?_
        refine k_iload hC dX12_displaced_38 0 rfl ?_
        refine k_iconst hC dX12_displaced_40 ?_
        refine k_pureV hC (c_X12_ofLeg l hls G hN w fl u g k 0 (by omega) (by decide) hm hn) yy_X12_ofLeg wm_X12_127 (kl hN (by decide)) hm rfl rfl rfl rfl (Nat.le_of_ble_eq_true rfl) (by decide) (by decide) ⟨by decide, by decide⟩ dX12_displaced_41 ?_
        refine k_topv (vL (g (33 + 3 * k))) rfl ?_
        have hlg := hI.leg k (by omega)
        refine k_lload_n hC dX12_displaced_44 rfl 3 rfl ?_
        refine k_lcmp_ge hC 122 dX12_displaced_45 dX12_displaced_46 rfl (by omega) (by omega) (fun c_45 => ?_) (fun c_45 => ?_)
        · refine k_lload hC dX12_displaced_122 1 rfl ?_
          subst hQ
          exact k_lret hC hr ⟨by decide, by decide⟩ (⟨congrArg (fun z => some (vL z)) (show (dispM g t (bN no) : Int) = su from by unfold dispM; rw [hsu]; first | (rw [legS_stop hI (bN no) (by omega) (show t ≤ g (33 + 3 * k) by omega)]; omega) | (rw [show (g 1).toNat = k by omega]; omega)), rfl, rfl⟩) dX12_displaced_124
        · refine k_iload hC dX12_displaced_49 0 rfl ?_
          refine k_iconst hC dX12_displaced_51 ?_
          refine k_iadd hC dX12_displaced_52 ?_
          refine k_i2l hC dX12_displaced_53 (by omega) ?_
          refine k_aload_n hC dX12_displaced_54 rfl 2 rfl ?_
          refine k_get hC fd_X12_9 (kl hN (by decide)) hm rfl dX12_displaced_55 ?_
          refine k_iconst hC dX12_displaced_58 ?_
          refine k_lald hC (kl hN (by decide)) hn (by omega) (by decide) dX12_displaced_59 ?_
          refine k_topv (vL (g 1)) rfl ?_
          refine k_lcmp_ge hC 80 dX12_displaced_60 dX12_displaced_61 rfl (by omega) (by omega) (fun c_60 => ?_) (fun c_60 => ?_)
          · have hun : t = legU g t k := by unfold legU; rw [if_neg (by omega)]
            refine k_lload_n hC dX12_displaced_80 rfl 3 rfl ?_
            refine k_lstore hC [(7, vL t), (6, vI (k : Int)), (4, vL su), (0, .ref (kad G 133)), (1, vL t), (3, vI no)] dX12_displaced_81 (by decide) rfl ?_
            refine k_lload hC dX12_displaced_83 2 rfl ?_
            refine k_aload_n hC dX12_displaced_85 rfl 3 rfl ?_
            refine k_iload hC dX12_displaced_86 1 rfl ?_
            refine k_iconst hC dX12_displaced_88 ?_
            refine k_pureV hC (c_X12_ofLeg l hls G hN w fl u g k 2 (by omega) (by decide) hm hn) yy_X12_ofLeg wm_X12_127 (kl hN (by decide)) hm rfl rfl rfl rfl (Nat.le_of_ble_eq_true rfl) (by decide) (by decide) ⟨by decide, by decide⟩ dX12_displaced_89 ?_
            refine k_topv (vL (g (35 + 3 * k))) rfl ?_
            refine k_lload hC dX12_displaced_92 0 rfl ?_
            refine k_aload_n hC dX12_displaced_94 rfl 3 rfl ?_
            refine k_iload hC dX12_displaced_95 1 rfl ?_
            refine k_iconst hC dX12_displaced_97 ?_
            refine k_pureV hC (c_X12_ofLeg l hls G hN w fl u g k 0 (by omega) (by decide) hm hn) yy_X12_ofLeg wm_X12_127 (kl hN (by decide)) hm rfl rfl rfl rfl (Nat.le_of_ble_eq_true rfl) (by decide) (by decide) ⟨by decide, by decide⟩ dX12_displaced_98 ?_
            refine k_topv (vL (g (33 + 3 * k))) rfl ?_
            refine k_lsub hC dX12_displaced_101 ?_
            refine k_aload_n hC dX12_displaced_102 rfl 3 rfl ?_
            refine k_iload hC dX12_displaced_103 1 rfl ?_
            refine k_iconst hC dX12_displaced_105 ?_
            refine k_pureV hC (c_X12_ofLeg l hls G hN w fl u g k 1 (by omega) (by decide) hm hn) yy_X12_ofLeg wm_X12_127 (kl hN (by decide)) hm rfl rfl rfl rfl (Nat.le_of_ble_eq_true rfl) (by decide) (by decide) ⟨by decide, by decide⟩ dX12_displaced_106 ?_
            refine k_topv (vL (g (34 + 3 * k))) rfl ?_
            refine k_iload_n hC dX12_displaced_109 rfl 5 rfl ?_
            refine k_pureS hC (c_X12_part l hls G hN w fl (g (35 + 3 * k)) (t - (g (33 + 3 * k))) (g (34 + 3 * k)) no (by omega) (by omega) (by omega) (by omega)) yy_X12_part wm_X12_123 rfl rfl (Nat.le_of_ble_eq_true rfl) (by decide) (by decide) ⟨by decide, by decide⟩ dX12_displaced_110 ?_
            refine k_topv (vL (partM (g (35 + 3 * k)) (t - (g (33 + 3 * k))) (g (34 + 3 * k)) (bN no))) rfl ?_
            refine k_ladd hC dX12_displaced_113 ?_
            refine k_topL (fun sn esn => ?_)
            refine k_lstore hC [(4, vL sn), (7, vL t), (6, vI (k : Int)), (0, .ref (kad G 133)), (1, vL t), (3, vI no)] dX12_displaced_114 (by decide) rfl ?_
            refine k_iinc hC (y := (k : Int) + 1) [(6, vI ((k : Int) + 1)), (4, vL sn), (7, vL t), (0, .ref (kad G 133)), (1, vL t), (3, vI no)] (j := 2) dX12_displaced_116 rfl (by omega) (by decide) rfl ?_
            refine k_goto hC 24 dX12_displaced_119 rfl ?_
            refine k_lvs (ls := [0, 1, 3, 4, 5]) [(6, vI ((k : Int) + 1)), (4, vL sn), (0, .ref (kad G 133)), (1, vL t), (3, vI no)] rfl ?_
            refine k_lvs (ls := [0, 1, 2, 3, 4]) [(6, vI ((k + 1 : Nat) : Int)), (4, vL sn), (0, .ref (kad G 133)), (1, vL t), (3, vI no)] (by simp only [lv_pick]; rfl) ?_
            exact ih (k + 1) sn  (by omega) (by omega) (by rw [esn, hsu]; show _ = _ + (legS g t (bN no) k + legP g t (bN no) k); unfold legP; rw [if_pos (by omega), ← hun]; omega)
          · have hlg1 := hI.leg (k + 1) (by omega)
            have hor := hI.ord k (by omega)
            rw [show 36 + 3 * k = 33 + 3 * (k + 1) by omega] at hor
            have hun : min t (g (33 + 3 * (k + 1))) = legU g t k := by unfold legU; rw [if_pos (by omega), show 36 + 3 * k = 33 + 3 * (k + 1) by omega]
            refine k_lload_n hC dX12_displaced_64 rfl 3 rfl ?_
            refine k_aload_n hC dX12_displaced_65 rfl 2 rfl ?_
            refine k_iload hC dX12_displaced_66 0 rfl ?_
            refine k_iconst hC dX12_displaced_68 ?_
            refine k_iadd hC dX12_displaced_69 ?_
            refine k_iconst hC dX12_displaced_70 ?_
            refine k_pureV hC (c_X12_ofLeg l hls G hN w fl u g (k + 1) 0 (by omega) (by decide) hm hn) yy_X12_ofLeg wm_X12_127 (kl hN (by decide)) hm rfl rfl rfl rfl (Nat.le_of_ble_eq_true rfl) (by decide) (by decide) ⟨by decide, by decide⟩ dX12_displaced_71 ?_
            refine k_topv (vL (g (33 + 3 * (k + 1)))) rfl ?_
            refine k_mminL hC wm_X12_77 wmath_mminL (by omega) (by omega) (by decide) (Nat.le_of_ble_eq_true rfl) ⟨by decide, by decide⟩ dX12_displaced_74 ?_
            refine k_goto hC 81 dX12_displaced_77 rfl ?_
            refine k_lstore hC [(7, vL (min t (g (33 + 3 * (k + 1))))), (6, vI (k : Int)), (4, vL su), (0, .ref (kad G 133)), (1, vL t), (3, vI no)] dX12_displaced_81 (by decide) rfl ?_
            refine k_lload hC dX12_displaced_83 2 rfl ?_
            refine k_aload_n hC dX12_displaced_85 rfl 3 rfl ?_
            refine k_iload hC dX12_displaced_86 1 rfl ?_
            refine k_iconst hC dX12_displaced_88 ?_
            refine k_pureV hC (c_X12_ofLeg l hls G hN w fl u g k 2 (by omega) (by decide) hm hn) yy_X12_ofLeg wm_X12_127 (kl hN (by decide)) hm rfl rfl rfl rfl (Nat.le_of_ble_eq_true rfl) (by decide) (by decide) ⟨by decide, by decide⟩ dX12_displaced_89 ?_
            refine k_topv (vL (g (35 + 3 * k))) rfl ?_
            refine k_lload hC dX12_displaced_92 0 rfl ?_
            refine k_aload_n hC dX12_displaced_94 rfl 3 rfl ?_
            refine k_iload hC dX12_displaced_95 1 rfl ?_
            refine k_iconst hC dX12_displaced_97 ?_
            refine k_pureV hC (c_X12_ofLeg l hls G hN w fl u g k 0 (by omega) (by decide) hm hn) yy_X12_ofLeg wm_X12_127 (kl hN (by decide)) hm rfl rfl rfl rfl (Nat.le_of_ble_eq_true rfl) (by decide) (by decide) ⟨by decide, by decide⟩ dX12_displaced_98 ?_
            refine k_topv (vL (g (33 + 3 * k))) rfl ?_
            refine k_lsub hC dX12_displaced_101 ?_
            refine k_aload_n hC dX12_displaced_102 rfl 3 rfl ?_
            refine k_iload hC dX12_displaced_103 1 rfl ?_
            refine k_iconst hC dX12_displaced_105 ?_
            refine k_pureV hC (c_X12_ofLeg l hls G hN w fl u g k 1 (by omega) (by decide) hm hn) yy_X12_ofLeg wm_X12_127 (kl hN (by decide)) hm rfl rfl rfl rfl (Nat.le_of_ble_eq_true rfl) (by decide) (by decide) ⟨by decide, by decide⟩ dX12_displaced_106 ?_
            refine k_topv (vL (g (34 + 3 * k))) rfl ?_
            refine k_iload_n hC dX12_displaced_109 rfl 5 rfl ?_
            refine k_pureS hC (c_X12_part l hls G hN w fl (g (35 + 3 * k)) ((min t (g (33 + 3 * (k + 1)))) - (g (33 + 3 * k))) (g (34 + 3 * k)) no (by omega) (by omega) (by omega) (by omega)) yy_X12_part wm_X12_123 rfl rfl (Nat.le_of_ble_eq_true rfl) (by decide) (by decide) ⟨by decide, by decide⟩ dX12_displaced_110 ?_
            refine k_topv (vL (partM (g (35 + 3 * k)) ((min t (g (33 + 3 * (k + 1)))) - (g (33 + 3 * k))) (g (34 + 3 * k)) (bN no))) rfl ?_
            refine k_ladd hC dX12_displaced_113 ?_
            refine k_topL (fun sn esn => ?_)
            refine k_lstore hC [(4, vL sn), (7, vL (min t (g (33 + 3 * (k + 1))))), (6, vI (k : Int)), (0, .ref (kad G 133)), (1, vL t), (3, vI no)] dX12_displaced_114 (by decide) rfl ?_
            refine k_iinc hC (y := (k : Int) + 1) [(6, vI ((k : Int) + 1)), (4, vL sn), (7, vL (min t (g (33 + 3 * (k + 1))))), (0, .ref (kad G 133)), (1, vL t), (3, vI no)] (j := 2) dX12_displaced_116 rfl (by omega) (by decide) rfl ?_
            refine k_goto hC 24 dX12_displaced_119 rfl ?_
            refine k_lvs (ls := [0, 1, 3, 4, 5]) [(6, vI ((k : Int) + 1)), (4, vL sn), (0, .ref (kad G 133)), (1, vL t), (3, vI no)] rfl ?_
            refine k_lvs (ls := [0, 1, 2, 3, 4]) [(6, vI ((k + 1 : Nat) : Int)), (4, vL sn), (0, .ref (kad G 133)), (1, vL t), (3, vI no)] (by simp only [lv_pick]; rfl) ?_
            exact ih (k + 1) sn  (by omega) (by omega) (by rw [esn, hsu]; show _ = _ + (legS g t (bN no) k + legP g t (bN no) k); unfold legP; rw [if_pos (by omega), ← hun]; omega)
  refine k_lvs (ls := [0, 1, 2, 3, 4]) [(6, vI ((0 : Nat) : Int)), (4, vL (partM (g 8) t (g 7) (bN no))), (0, .ref (kad G 133)), (1, vL t), (3, vI no)] (by simp only [lv_pick]; rfl) ?_
  exact loop 9 0 (partM (g 8) t (g 7) (bN no))  (by omega) (by omega) (by show _ = _ + (0 : Int); omega)

set_option maxRecDepth 100000 in
set_option maxHeartbeats 4000000 in
theorem c_X12_within (l : Launch) (hls : l.stackTraces = false) (G : kG) (hN : kN G = 150) (w : Nat → va_E) (fl : va_W) (a : Int) (ha : -4611686018427300000 ≤ a ∧ a ≤ 4611686018427300000) : KM l G yX12_within cX12_within 2 (some (FieldType.long)) 2 0 0 [vL a] w fl (kPure (vL (lonM a)) w fl) := by
  refine KM_of2 hls (by decide +kernel) rfl (lv0 := [(0, vL a)]) rfl (Nat.le_of_ble_eq_true rfl) (fun p e R s m args below meth c Q hC hr hQ => ?_)
  refine k_lload_n hC dX12_within_0 rfl 0 rfl ?_
  refine k_ldc2 hC (x := 10800) (v := 10800) dX12_within_1 (by decide) wk_X12_99 ?_
  refine k_ladd hC dX12_within_4 ?_
  refine k_pureS hC (c_X12_turned l hls G hN w fl (a + 10800) (by omega)) yy_X12_turned wm_X12_95 rfl rfl (Nat.le_of_ble_eq_true rfl) (by decide) (by decide) ⟨by decide, by decide⟩ dX12_within_5 ?_
  refine k_ldc2 hC (x := 10800) (v := 10800) dX12_within_8 (by decide) wk_X12_99 ?_
  refine k_lsub hC dX12_within_11 ?_
  subst hQ
  exact k_lret hC hr ⟨by decide, by decide⟩ (⟨congrArg (fun z => some (vL z)) (show (lonM a : Int) = ((a + 10800) % 21600) - 10800 from rfl), rfl, rfl⟩) dX12_within_12

set_option maxRecDepth 100000 in
set_option maxHeartbeats 4000000 in
theorem c_X12_latitudeAt (l : Launch) (hls : l.stackTraces = false) (G : kG) (hN : kN G = 150) (w : Nat → va_E) (fl : va_W) (u g : Nat → Int) (t : Int) (hI : Inv g) (ht : 0 ≤ t ∧ t ≤ 5000) (hm : w 133 = mdO G u) (hn : w 134 = lA G 93 g) : KM l G yX12_latitudeAt cX12_latitudeAt 3 (some (FieldType.long)) 7 0 0 [.ref (kad G 133), vL t] w fl (kPure (vL (latM g t)) w fl) := by
  refine KM_of2 hls (by decide +kernel) rfl (lv0 := [(0, .ref (kad G 133)), (1, vL t)]) rfl (Nat.le_of_ble_eq_true rfl) (fun p e R s m args below meth c Q hC hr hQ => ?_)
  have h0 := hI.c
  refine k_aload_n hC dX12_latitudeAt_0 rfl 0 rfl ?_
  refine k_get hC fd_X12_9 (kl hN (by decide)) hm rfl dX12_latitudeAt_1 ?_
  refine k_iconst hC dX12_latitudeAt_4 ?_
  refine k_lald hC (kl hN (by decide)) hn (by omega) (by decide) dX12_latitudeAt_5 ?_
  refine k_topv (vL (g 3)) rfl ?_
  refine k_aload_n hC dX12_latitudeAt_6 rfl 0 rfl ?_
  refine k_lload_n hC dX12_latitudeAt_7 rfl 1 rfl ?_
  refine k_iconst hC dX12_latitudeAt_8 ?_
  refine k_pureV hC (c_X12_displaced l hls G hN w fl u g t 1 hI (by omega) (by omega) hm hn) yy_X12_displaced wm_X12_131 (kl hN (by decide)) hm rfl rfl rfl rfl (Nat.le_of_ble_eq_true rfl) (by decide) (by decide) ⟨by decide, by decide⟩ dX12_latitudeAt_9 ?_
  refine k_topv (vL (dispM g t true)) rfl ?_
  have hb_1 := dispM_b hI (t := t) (by omega) true
  refine k_ldc2 hC (x := 100) (v := 100) dX12_latitudeAt_12 (by decide) wk_X12_135 ?_
  refine k_pureS hC (c_X12_floor l hls G hN w fl (dispM g t true) 100 (by omega) (by omega)) yy_X12_floor wm_X12_92 rfl rfl (Nat.le_of_ble_eq_true rfl) (by decide) (by decide) ⟨by decide, by decide⟩ dX12_latitudeAt_15 ?_
  refine k_ladd hC dX12_latitudeAt_18 ?_
  subst hQ
  exact k_lret hC hr ⟨by decide, by decide⟩ (⟨congrArg (fun z => some (vL z)) (show (latM g t : Int) = (g 3) + ((dispM g t true).fdiv 100) from by unfold latM; rw [Int.fdiv_eq_ediv_of_nonneg _ (by decide)]), rfl, rfl⟩) dX12_latitudeAt_19

set_option maxRecDepth 100000 in
set_option maxHeartbeats 4000000 in
theorem c_X12_longitudeAt (l : Launch) (hls : l.stackTraces = false) (G : kG) (hN : kN G = 150) (w : Nat → va_E) (fl : va_W) (u g : Nat → Int) (t : Int) (hI : Inv g) (ht : 0 ≤ t ∧ t ≤ 5000) (hm : w 133 = mdO G u) (hn : w 134 = lA G 93 g) : KM l G yX12_longitudeAt cX12_longitudeAt 3 (some (FieldType.long)) 7 0 0 [.ref (kad G 133), vL t] w fl (kPure (vL (lonT g t)) w fl) := by
  refine KM_of2 hls (by decide +kernel) rfl (lv0 := [(0, .ref (kad G 133)), (1, vL t)]) rfl (Nat.le_of_ble_eq_true rfl) (fun p e R s m args below meth c Q hC hr hQ => ?_)
  have h0 := hI.c
  refine k_aload_n hC dX12_longitudeAt_0 rfl 0 rfl ?_
  refine k_get hC fd_X12_9 (kl hN (by decide)) hm rfl dX12_longitudeAt_1 ?_
  refine k_iconst hC dX12_longitudeAt_4 ?_
  refine k_lald hC (kl hN (by decide)) hn (by omega) (by decide) dX12_longitudeAt_5 ?_
  refine k_topv (vL (g 4)) rfl ?_
  refine k_aload_n hC dX12_longitudeAt_6 rfl 0 rfl ?_
  refine k_lload_n hC dX12_longitudeAt_7 rfl 1 rfl ?_
  refine k_iconst hC dX12_longitudeAt_8 ?_
  refine k_pureV hC (c_X12_displaced l hls G hN w fl u g t 0 hI (by omega) (by omega) hm hn) yy_X12_displaced wm_X12_131 (kl hN (by decide)) hm rfl rfl rfl rfl (Nat.le_of_ble_eq_true rfl) (by decide) (by decide) ⟨by decide, by decide⟩ dX12_longitudeAt_9 ?_
  refine k_topv (vL (dispM g t false)) rfl ?_
  have hb_1 := dispM_b hI (t := t) (by omega) false
  refine k_ldc2 hC (x := 10000) (v := 10000) dX12_longitudeAt_12 (by decide) wk_X12_137 ?_
  refine k_lmul hC dX12_longitudeAt_15 ?_
  refine k_aload_n hC dX12_longitudeAt_16 rfl 0 rfl ?_
  refine k_get hC fd_X12_9 (kl hN (by decide)) hm rfl dX12_longitudeAt_17 ?_
  refine k_iconst hC dX12_longitudeAt_20 ?_
  refine k_lald hC (kl hN (by decide)) hn (by omega) (by decide) dX12_longitudeAt_21 ?_
  refine k_topv (vL (g 3)) rfl ?_
  refine k_pureS hC (c_X12_cosineOf l hls G hN w fl (g 3) (by omega)) yy_X12_cosineOf wm_X12_117 rfl rfl (Nat.le_of_ble_eq_true rfl) (by decide) (by decide) ⟨by decide, by decide⟩ dX12_longitudeAt_22 ?_
  refine k_topv (vL (cosM (g 3))) rfl ?_
  have hb_2 := cosM_b (g 3)
  have hcp := cosM_pos (p := g 3) h0.2.2.2.1
  have hfd := k_fdivb (a := dispM g t false * 10000) (b := cosM (g 3)) (by omega)
  refine k_pureS hC (c_X12_floor l hls G hN w fl ((dispM g t false) * 10000) (cosM (g 3)) (by omega) (by omega)) yy_X12_floor wm_X12_92 rfl rfl (Nat.le_of_ble_eq_true rfl) (by decide) (by decide) ⟨by decide, by decide⟩ dX12_longitudeAt_25 ?_
  refine k_ladd hC dX12_longitudeAt_28 ?_
  refine k_pureS hC (c_X12_within l hls G hN w fl ((g 4) + (((dispM g t false) * 10000).fdiv (cosM (g 3)))) (by omega)) yy_X12_within wm_X12_139 rfl rfl (Nat.le_of_ble_eq_true rfl) (by decide) (by decide) ⟨by decide, by decide⟩ dX12_longitudeAt_29 ?_
  refine k_topv (vL (lonM ((g 4) + (((dispM g t false) * 10000).fdiv (cosM (g 3)))))) rfl ?_
  have hb_3 := k_lonb ((g 4) + (((dispM g t false) * 10000).fdiv (cosM (g 3))))
  subst hQ
  exact k_lret hC hr ⟨by decide, by decide⟩ (⟨congrArg (fun z => some (vL z)) (show (lonT g t : Int) = lonM ((g 4) + (((dispM g t false) * 10000).fdiv (cosM (g 3)))) from rfl), rfl, rfl⟩) dX12_longitudeAt_32

set_option maxRecDepth 100000 in
set_option maxHeartbeats 4000000 in
theorem c_X12_dip (l : Launch) (hls : l.stackTraces = false) (G : kG) (hN : kN G = 150) (w : Nat → va_E) (fl : va_W) (u g : Nat → Int) (hI : Inv g) (hm : w 133 = mdO G u) (hn : w 134 = lA G 93 g) : KM l G yX12_dip cX12_dip 1 (some (FieldType.long)) 1 0 0 [.ref (kad G 133)] w fl (kPure (vL (dipM g)) w fl) := by
  refine KM_of2 hls (by decide +kernel) rfl (lv0 := [(0, .ref (kad G 133))]) rfl (Nat.le_of_ble_eq_true rfl) (fun p e R s m args below meth c Q hC hr hQ => ?_)
  have h0 := hI.c
  refine k_ldc2 hC (x := 3) (v := 3) dX12_dip_0 (by decide) wk_X12_142 ?_
  refine k_aload_n hC dX12_dip_3 rfl 0 rfl ?_
  refine k_get hC fd_X12_9 (kl hN (by decide)) hm rfl dX12_dip_4 ?_
  refine k_iconst hC dX12_dip_7 ?_
  refine k_lald hC (kl hN (by decide)) hn (by omega) (by decide) dX12_dip_8 ?_
  refine k_topv (vL (g 5)) rfl ?_
  refine k_lmul hC dX12_dip_9 ?_
  refine k_pureS hC (c_X12_root l hls G hN w fl (3 * (g 5)) (by omega)) yy_X12_root wm_X12_144 rfl rfl (Nat.le_of_ble_eq_true rfl) (by decide) (by decide) ⟨by decide, by decide⟩ dX12_dip_10 ?_
  subst hQ
  exact k_lret hC hr ⟨by decide, by decide⟩ (⟨congrArg (fun z => some (vL z)) (show (dipM g : Int) = rootM (3 * (g 5)) from rfl), rfl, rfl⟩) dX12_dip_13

set_option maxRecDepth 100000 in
set_option maxHeartbeats 4000000 in
theorem c_X12_apparent (l : Launch) (hls : l.stackTraces = false) (G : kG) (hN : kN G = 150) (w : Nat → va_E) (fl : va_W) (u g : Nat → Int) (i : Nat) (hI : Inv g) (hi : (i : Int) < g 2) (hm : w 133 = mdO G u) (hn : w 134 = lA G 93 g) : KM l G yX12_apparent cX12_apparent 2 (some (FieldType.long)) 2 0 0 [.ref (kad G 133), vI (i : Int)] w fl (kPure (vL (apM g i)) w fl) := by
  refine KM_of2 hls (by decide +kernel) rfl (lv0 := [(0, .ref (kad G 133)), (1, vI (i : Int))]) rfl (Nat.le_of_ble_eq_true rfl) (fun p e R s m args below meth c Q hC hr hQ => ?_)
  have h0 := hI.c
  have hsi := hI.sight i hi
  have hbi := hI.body (g (57 + 3 * i)).toNat (by omega)
  refine k_aload_n hC dX12_apparent_0 rfl 0 rfl ?_
  refine k_iload_n hC dX12_apparent_1 rfl 1 rfl ?_
  refine k_iconst hC dX12_apparent_2 ?_
  refine k_pureV hC (c_X12_ofSight l hls G hN w fl u g i 2 (by omega) (by decide) hm hn) yy_X12_ofSight wm_X12_147 (kl hN (by decide)) hm rfl rfl rfl rfl (Nat.le_of_ble_eq_true rfl) (by decide) (by decide) ⟨by decide, by decide⟩ dX12_apparent_3 ?_
  refine k_topv (vL (g (59 + 3 * i))) rfl ?_
  refine k_aload_n hC dX12_apparent_6 rfl 0 rfl ?_
  refine k_get hC fd_X12_9 (kl hN (by decide)) hm rfl dX12_apparent_7 ?_
  refine k_bipush hC dX12_apparent_10 (by decide) ?_
  refine k_lald hC (kl hN (by decide)) hn (by omega) (by decide) dX12_apparent_12 ?_
  refine k_topv (vL (g 6)) rfl ?_
  refine k_ladd hC dX12_apparent_13 ?_
  refine k_aload_n hC dX12_apparent_14 rfl 0 rfl ?_
  refine k_pureV hC (c_X12_dip l hls G hN w fl u g  hI  hm hn) yy_X12_dip wm_X12_150 (kl hN (by decide)) hm rfl rfl rfl rfl (Nat.le_of_ble_eq_true rfl) (by decide) (by decide) ⟨by decide, by decide⟩ dX12_apparent_15 ?_
  refine k_topv (vL (dipM g)) rfl ?_
  refine k_lsub hC dX12_apparent_18 ?_
  subst hQ
  exact k_lret hC hr ⟨by decide, by decide⟩ (⟨congrArg (fun z => some (vL z)) (show (apM g i : Int) = ((g (59 + 3 * i)) + (g 6)) - (dipM g) from rfl), rfl, rfl⟩) dX12_apparent_19

set_option maxRecDepth 100000 in
set_option maxHeartbeats 4000000 in
theorem c_X12_observed (l : Launch) (hls : l.stackTraces = false) (G : kG) (hN : kN G = 150) (w : Nat → va_E) (fl : va_W) (u g : Nat → Int) (i : Nat) (hI : Inv g) (hi : (i : Int) < g 2) (hm : w 133 = mdO G u) (hn : w 134 = lA G 93 g) : KM l G yX12_observed cX12_observed 4 (some (FieldType.long)) 5 0 0 [.ref (kad G 133), vI (i : Int)] w fl (kPure (vL (obsM g i)) w fl) := by
  refine KM_of2 hls (by decide +kernel) rfl (lv0 := [(0, .ref (kad G 133)), (1, vI (i : Int))]) rfl (Nat.le_of_ble_eq_true rfl) (fun p e R s m args below meth c Q hC hr hQ => ?_)
  have h0 := hI.c
  have hsi := hI.sight i hi
  have hbi := hI.body (g (57 + 3 * i)).toNat (by omega)
  have hap := apM_b hI i hi
  have hob := obsO_b hap
  refine k_aload_n hC dX12_observed_0 rfl 0 rfl ?_
  refine k_iload_n hC dX12_observed_1 rfl 1 rfl ?_
  refine k_pureV hC (c_X12_apparent l hls G hN w fl u g i hI (by omega) hm hn) yy_X12_apparent wm_X12_154 (kl hN (by decide)) hm rfl rfl rfl rfl (Nat.le_of_ble_eq_true rfl) (by decide) (by decide) ⟨by decide, by decide⟩ dX12_observed_2 ?_
  refine k_topv (vL (apM g i)) rfl ?_
  have hb_1 := apM_b hI i (by omega)
  refine k_lstore_n hC [(2, vL (apM g i)), (0, .ref (kad G 133)), (1, vI (i : Int))] dX12_observed_5 rfl (by decide) rfl ?_
  refine k_lload_n hC dX12_observed_6 rfl 0 rfl ?_
  refine k_lload_n hC dX12_observed_7 rfl 0 rfl ?_
  refine k_pureS hC (c_X12_cosineOf l hls G hN w fl (apM g i) (by omega)) yy_X12_cosineOf wm_X12_117 rfl rfl (Nat.le_of_ble_eq_true rfl) (by decide) (by decide) ⟨by decide, by decide⟩ dX12_observed_8 ?_
  refine k_topv (vL (cosM (apM g i))) rfl ?_
  have hb_2 := cosM_b (apM g i)
  refine k_lload_n hC dX12_observed_11 rfl 0 rfl ?_
  refine k_pureS hC (c_X12_sineOf l hls G hN w fl (apM g i) (by omega)) yy_X12_sineOf wm_X12_101 rfl rfl (Nat.le_of_ble_eq_true rfl) (by decide) (by decide) ⟨by decide, by decide⟩ dX12_observed_12 ?_
  have hb_3 := sinM_b (apM g i)
  refine k_pureS hC (c_X12_floor l hls G hN w fl (cosM (apM g i)) (sinM (apM g i)) (by omega) (by omega)) yy_X12_floor wm_X12_92 rfl rfl (Nat.le_of_ble_eq_true rfl) (by decide) (by decide) ⟨by decide, by decide⟩ dX12_observed_15 ?_
  refine k_lsub hC dX12_observed_18 ?_
  subst hQ
  exact k_lret hC hr ⟨by decide, by decide⟩ (⟨congrArg (fun z => some (vL z)) (show (obsM g i : Int) = (apM g i) - ((cosM (apM g i)).fdiv (sinM (apM g i))) from rfl), rfl, rfl⟩) dX12_observed_19

set_option maxRecDepth 100000 in
set_option maxHeartbeats 4000000 in
theorem c_X12_localAngle (l : Launch) (hls : l.stackTraces = false) (G : kG) (hN : kN G = 150) (w : Nat → va_E) (fl : va_W) (u g : Nat → Int) (i : Nat) (hI : Inv g) (hi : (i : Int) < g 2) (hm : w 133 = mdO G u) (hn : w 134 = lA G 93 g) : KM l G yX12_localAngle cX12_localAngle 4 (some (FieldType.long)) 8 0 0 [.ref (kad G 133), vI (i : Int)] w fl (kPure (vL (angM g i)) w fl) := by
  refine KM_of2 hls (by decide +kernel) rfl (lv0 := [(0, .ref (kad G 133)), (1, vI (i : Int))]) rfl (Nat.le_of_ble_eq_true rfl) (fun p e R s m args below meth c Q hC hr hQ => ?_)
  have h0 := hI.c
  have hsi := hI.sight i hi
  have hbi := hI.body (g (57 + 3 * i)).toNat (by omega)
  refine k_aload_n hC dX12_localAngle_0 rfl 0 rfl ?_
  refine k_iload_n hC dX12_localAngle_1 rfl 1 rfl ?_
  refine k_iconst hC dX12_localAngle_2 ?_
  refine k_pureV hC (c_X12_ofSight l hls G hN w fl u g i 1 (by omega) (by decide) hm hn) yy_X12_ofSight wm_X12_147 (kl hN (by decide)) hm rfl rfl rfl rfl (Nat.le_of_ble_eq_true rfl) (by decide) (by decide) ⟨by decide, by decide⟩ dX12_localAngle_3 ?_
  refine k_topv (vL (g (58 + 3 * i))) rfl ?_
  refine k_lstore_n hC [(2, vL (g (58 + 3 * i))), (0, .ref (kad G 133)), (1, vI (i : Int))] dX12_localAngle_6 rfl (by decide) rfl ?_
  refine k_aload_n hC dX12_localAngle_7 rfl 1 rfl ?_
  refine k_aload_n hC dX12_localAngle_8 rfl 1 rfl ?_
  refine k_iload_n hC dX12_localAngle_9 rfl 2 rfl ?_
  refine k_iconst hC dX12_localAngle_10 ?_
  refine k_pureV hC (c_X12_ofSight l hls G hN w fl u g i 0 (by omega) (by decide) hm hn) yy_X12_ofSight wm_X12_147 (kl hN (by decide)) hm rfl rfl rfl rfl (Nat.le_of_ble_eq_true rfl) (by decide) (by decide) ⟨by decide, by decide⟩ dX12_localAngle_11 ?_
  refine k_topv (vL (g (57 + 3 * i))) rfl ?_
  refine k_iconst hC dX12_localAngle_14 ?_
  refine k_pureV hC (c_X12_ofBody l hls G hN w fl u g (g (57 + 3 * i)) 1 (by omega) (by decide) hm hn) yy_X12_ofBody wm_X12_158 (kl hN (by decide)) hm rfl rfl rfl rfl (Nat.le_of_ble_eq_true rfl) (by decide) (by decide) ⟨by decide, by decide⟩ dX12_localAngle_15 ?_
  refine k_topv (vL (g (10 + 4 * (g (57 + 3 * i)).toNat))) rfl ?_
  refine k_ldc2 hC (x := 15) (v := 15) dX12_localAngle_18 (by decide) wk_X12_162 ?_
  refine k_lload_n hC dX12_localAngle_21 rfl 0 rfl ?_
  refine k_lmul hC dX12_localAngle_22 ?_
  refine k_ladd hC dX12_localAngle_23 ?_
  refine k_aload_n hC dX12_localAngle_24 rfl 1 rfl ?_
  refine k_lload_n hC dX12_localAngle_25 rfl 0 rfl ?_
  refine k_pureV hC (c_X12_longitudeAt l hls G hN w fl u g (g (58 + 3 * i)) hI (by omega) hm hn) yy_X12_longitudeAt wm_X12_164 (kl hN (by decide)) hm rfl rfl rfl rfl (Nat.le_of_ble_eq_true rfl) (by decide) (by decide) ⟨by decide, by decide⟩ dX12_localAngle_26 ?_
  refine k_topv (vL (lonT g (g (58 + 3 * i)))) rfl ?_
  have hb_1 := lonT_b g (g (58 + 3 * i))
  refine k_ladd hC dX12_localAngle_29 ?_
  subst hQ
  exact k_lret hC hr ⟨by decide, by decide⟩ (⟨congrArg (fun z => some (vL z)) (show (angM g i : Int) = ((g (10 + 4 * (g (57 + 3 * i)).toNat)) + (15 * (g (58 + 3 * i)))) + (lonT g (g (58 + 3 * i))) from rfl), rfl, rfl⟩) dX12_localAngle_30

set_option maxRecDepth 100000 in
set_option maxHeartbeats 4000000 in
theorem c_X12_declination (l : Launch) (hls : l.stackTraces = false) (G : kG) (hN : kN G = 150) (w : Nat → va_E) (fl : va_W) (u g : Nat → Int) (i : Nat) (hI : Inv g) (hi : (i : Int) < g 2) (hm : w 133 = mdO G u) (hn : w 134 = lA G 93 g) : KM l G yX12_declination cX12_declination 2 (some (FieldType.long)) 1 0 0 [.ref (kad G 133), vI (i : Int)] w fl (kPure (vL (decM g i)) w fl) := by
  refine KM_of2 hls (by decide +kernel) rfl (lv0 := [(0, .ref (kad G 133)), (1, vI (i : Int))]) rfl (Nat.le_of_ble_eq_true rfl) (fun p e R s m args below meth c Q hC hr hQ => ?_)
  have h0 := hI.c
  have hsi := hI.sight i hi
  have hbi := hI.body (g (57 + 3 * i)).toNat (by omega)
  refine k_aload_n hC dX12_declination_0 rfl 0 rfl ?_
  refine k_aload_n hC dX12_declination_1 rfl 0 rfl ?_
  refine k_iload_n hC dX12_declination_2 rfl 1 rfl ?_
  refine k_iconst hC dX12_declination_3 ?_
  refine k_pureV hC (c_X12_ofSight l hls G hN w fl u g i 0 (by omega) (by decide) hm hn) yy_X12_ofSight wm_X12_147 (kl hN (by decide)) hm rfl rfl rfl rfl (Nat.le_of_ble_eq_true rfl) (by decide) (by decide) ⟨by decide, by decide⟩ dX12_declination_4 ?_
  refine k_topv (vL (g (57 + 3 * i))) rfl ?_
  refine k_iconst hC dX12_declination_7 ?_
  refine k_pureV hC (c_X12_ofBody l hls G hN w fl u g (g (57 + 3 * i)) 0 (by omega) (by decide) hm hn) yy_X12_ofBody wm_X12_158 (kl hN (by decide)) hm rfl rfl rfl rfl (Nat.le_of_ble_eq_true rfl) (by decide) (by decide) ⟨by decide, by decide⟩ dX12_declination_8 ?_
  refine k_topv (vL (g (9 + 4 * (g (57 + 3 * i)).toNat))) rfl ?_
  subst hQ
  exact k_lret hC hr ⟨by decide, by decide⟩ (⟨congrArg (fun z => some (vL z)) (show (decM g i : Int) = g (9 + 4 * (g (57 + 3 * i)).toNat) from rfl), rfl, rfl⟩) dX12_declination_11

theorem angM_b {g : Nat → Int} (hI : Inv g) (i : Nat) (hi : (i : Int) < g 2) : -10800 ≤ angM g i ∧ angM g i ≤ 107398 := by
  have h0 := hI.c
  have hsi := hI.sight i hi
  have hbi := hI.body (g (57 + 3 * i)).toNat (by omega)
  have h1 := lonT_b g (g (58 + 3 * i))
  unfold angM; omega
theorem decM_b {g : Nat → Int} (hI : Inv g) (i : Nat) (hi : (i : Int) < g 2) : -3600 ≤ decM g i ∧ decM g i ≤ 3600 := by
  have h0 := hI.c
  have hsi := hI.sight i hi
  have hbi := hI.body (g (57 + 3 * i)).toNat (by omega)
  unfold decM; omega
set_option maxRecDepth 100000 in
set_option maxHeartbeats 4000000 in
theorem c_X12_expected (l : Launch) (hls : l.stackTraces = false) (G : kG) (hN : kN G = 150) (w : Nat → va_E) (fl : va_W) (u g : Nat → Int) (i : Nat) (hI : Inv g) (hi : (i : Int) < g 2) (hm : w 133 = mdO G u) (hn : w 134 = lA G 93 g) : KM l G yX12_expected cX12_expected 8 (some (FieldType.long)) 9 0 0 [.ref (kad G 133), vI (i : Int)] w fl (kPure (vL (expM g i)) w fl) := by
  refine KM_of2 hls (by decide +kernel) rfl (lv0 := [(0, .ref (kad G 133)), (1, vI (i : Int))]) rfl (Nat.le_of_ble_eq_true rfl) (fun p e R s m args below meth c Q hC hr hQ => ?_)
  have h0 := hI.c
  have hsi := hI.sight i hi
  have hbi := hI.body (g (57 + 3 * i)).toNat (by omega)
  have hla := latM_b hI hsi.2.1
  have hde := decM_b hI i hi
  have han := angM_b hI i hi
  have hm1 := mul_le_abs (a := sinM (latM g (g (58 + 3 * i)))) (b := sinM (decM g i)) (A := 1000000) (B := 1000000) (sinM_b _) (sinM_b _)
  have hp1 := prodM_u (a := sinM (latM g (g (58 + 3 * i)))) (s := sinM (decM g i)) 1000000 (sinM_b _) (sinM_b _)
  have hm2 := mul_le_abs (a := cosM (latM g (g (58 + 3 * i)))) (b := cosM (decM g i)) (A := 1000000) (B := 1000000) (cosM_b _) (cosM_b _)
  have hp2 := prodM_u (a := cosM (latM g (g (58 + 3 * i)))) (s := cosM (decM g i)) 1000000 (cosM_b _) (cosM_b _)
  have hm3 := mul_le_abs (a := prodM (cosM (latM g (g (58 + 3 * i)))) (cosM (decM g i))) (b := cosM (angM g i)) (A := 1000000) (B := 1000000) (by omega) (cosM_b _)
  have hp3 := prodM_u (a := prodM (cosM (latM g (g (58 + 3 * i)))) (cosM (decM g i))) (s := cosM (angM g i)) 1000000 (by omega) (cosM_b _)
  refine k_aload_n hC dX12_expected_0 rfl 0 rfl ?_
  refine k_aload_n hC dX12_expected_1 rfl 0 rfl ?_
  refine k_iload_n hC dX12_expected_2 rfl 1 rfl ?_
  refine k_iconst hC dX12_expected_3 ?_
  refine k_pureV hC (c_X12_ofSight l hls G hN w fl u g i 1 (by omega) (by decide) hm hn) yy_X12_ofSight wm_X12_147 (kl hN (by decide)) hm rfl rfl rfl rfl (Nat.le_of_ble_eq_true rfl) (by decide) (by decide) ⟨by decide, by decide⟩ dX12_expected_4 ?_
  refine k_topv (vL (g (58 + 3 * i))) rfl ?_
  refine k_pureV hC (c_X12_latitudeAt l hls G hN w fl u g (g (58 + 3 * i)) hI (by omega) hm hn) yy_X12_latitudeAt wm_X12_167 (kl hN (by decide)) hm rfl rfl rfl rfl (Nat.le_of_ble_eq_true rfl) (by decide) (by decide) ⟨by decide, by decide⟩ dX12_expected_7 ?_
  refine k_topv (vL (latM g (g (58 + 3 * i)))) rfl ?_
  have hb_1 := latM_b hI (t := g (58 + 3 * i)) (by omega)
  refine k_lstore_n hC [(2, vL (latM g (g (58 + 3 * i)))), (0, .ref (kad G 133)), (1, vI (i : Int))] dX12_expected_10 rfl (by decide) rfl ?_
  refine k_aload_n hC dX12_expected_11 rfl 1 rfl ?_
  refine k_iload_n hC dX12_expected_12 rfl 2 rfl ?_
  refine k_pureV hC (c_X12_declination l hls G hN w fl u g i hI (by omega) hm hn) yy_X12_declination wm_X12_170 (kl hN (by decide)) hm rfl rfl rfl rfl (Nat.le_of_ble_eq_true rfl) (by decide) (by decide) ⟨by decide, by decide⟩ dX12_expected_13 ?_
  refine k_topv (vL (decM g i)) rfl ?_
  refine k_lstore hC [(4, vL (decM g i)), (2, vL (latM g (g (58 + 3 * i)))), (0, .ref (kad G 133)), (1, vI (i : Int))] dX12_expected_16 (by decide) rfl ?_
  refine k_lload_n hC dX12_expected_18 rfl 1 rfl ?_
  refine k_pureS hC (c_X12_sineOf l hls G hN w fl (latM g (g (58 + 3 * i))) (by omega)) yy_X12_sineOf wm_X12_101 rfl rfl (Nat.le_of_ble_eq_true rfl) (by decide) (by decide) ⟨by decide, by decide⟩ dX12_expected_19 ?_
  have hb_2 := sinM_b (latM g (g (58 + 3 * i)))
  refine k_lload hC dX12_expected_22 0 rfl ?_
  refine k_pureS hC (c_X12_sineOf l hls G hN w fl (decM g i) (by omega)) yy_X12_sineOf wm_X12_101 rfl rfl (Nat.le_of_ble_eq_true rfl) (by decide) (by decide) ⟨by decide, by decide⟩ dX12_expected_24 ?_
  have hb_3 := sinM_b (decM g i)
  refine k_pureS hC (c_X12_product l hls G hN w fl (sinM (latM g (g (58 + 3 * i)))) (sinM (decM g i)) (by omega)) yy_X12_product wm_X12_120 rfl rfl (Nat.le_of_ble_eq_true rfl) (by decide) (by decide) ⟨by decide, by decide⟩ dX12_expected_27 ?_
  refine k_lload_n hC dX12_expected_30 rfl 1 rfl ?_
  refine k_pureS hC (c_X12_cosineOf l hls G hN w fl (latM g (g (58 + 3 * i))) (by omega)) yy_X12_cosineOf wm_X12_117 rfl rfl (Nat.le_of_ble_eq_true rfl) (by decide) (by decide) ⟨by decide, by decide⟩ dX12_expected_31 ?_
  refine k_topv (vL (cosM (latM g (g (58 + 3 * i))))) rfl ?_
  have hb_4 := cosM_b (latM g (g (58 + 3 * i)))
  refine k_lload hC dX12_expected_34 0 rfl ?_
  refine k_pureS hC (c_X12_cosineOf l hls G hN w fl (decM g i) (by omega)) yy_X12_cosineOf wm_X12_117 rfl rfl (Nat.le_of_ble_eq_true rfl) (by decide) (by decide) ⟨by decide, by decide⟩ dX12_expected_36 ?_
  refine k_topv (vL (cosM (decM g i))) rfl ?_
  have hb_5 := cosM_b (decM g i)
  refine k_pureS hC (c_X12_product l hls G hN w fl (cosM (latM g (g (58 + 3 * i)))) (cosM (decM g i)) (by omega)) yy_X12_product wm_X12_120 rfl rfl (Nat.le_of_ble_eq_true rfl) (by decide) (by decide) ⟨by decide, by decide⟩ dX12_expected_39 ?_
  refine k_aload_n hC dX12_expected_42 rfl 2 rfl ?_
  refine k_iload_n hC dX12_expected_43 rfl 3 rfl ?_
  refine k_pureV hC (c_X12_localAngle l hls G hN w fl u g i hI (by omega) hm hn) yy_X12_localAngle wm_X12_173 (kl hN (by decide)) hm rfl rfl rfl rfl (Nat.le_of_ble_eq_true rfl) (by decide) (by decide) ⟨by decide, by decide⟩ dX12_expected_44 ?_
  refine k_topv (vL (angM g i)) rfl ?_
  refine k_pureS hC (c_X12_cosineOf l hls G hN w fl (angM g i) (by omega)) yy_X12_cosineOf wm_X12_117 rfl rfl (Nat.le_of_ble_eq_true rfl) (by decide) (by decide) ⟨by decide, by decide⟩ dX12_expected_47 ?_
  refine k_topv (vL (cosM (angM g i))) rfl ?_
  have hb_6 := cosM_b (angM g i)
  refine k_pureS hC (c_X12_product l hls G hN w fl (prodM (cosM (latM g (g (58 + 3 * i)))) (cosM (decM g i))) (cosM (angM g i)) (by omega)) yy_X12_product wm_X12_120 rfl rfl (Nat.le_of_ble_eq_true rfl) (by decide) (by decide) ⟨by decide, by decide⟩ dX12_expected_50 ?_
  refine k_ladd hC dX12_expected_53 ?_
  refine k_lstore hC [(6, vL ((prodM (sinM (latM g (g (58 + 3 * i)))) (sinM (decM g i))) + (prodM (prodM (cosM (latM g (g (58 + 3 * i)))) (cosM (decM g i))) (cosM (angM g i))))), (4, vL (decM g i)), (2, vL (latM g (g (58 + 3 * i)))), (0, .ref (kad G 133)), (1, vI (i : Int))] dX12_expected_54 (by decide) rfl ?_
  refine k_lload hC dX12_expected_56 0 rfl ?_
  refine k_ldc2 hC (x := 1000000) (v := 1000000) dX12_expected_58 (by decide) wk_X12_113 ?_
  refine k_pureS hC (c_X12_bounded l hls G hN w fl ((prodM (sinM (latM g (g (58 + 3 * i)))) (sinM (decM g i))) + (prodM (prodM (cosM (latM g (g (58 + 3 * i)))) (cosM (decM g i))) (cosM (angM g i)))) 1000000 (by omega) (by omega)) yy_X12_bounded wm_X12_176 rfl rfl (Nat.le_of_ble_eq_true rfl) (by decide) (by decide) ⟨by decide, by decide⟩ dX12_expected_61 ?_
  refine k_topv (vL (limM ((prodM (sinM (latM g (g (58 + 3 * i)))) (sinM (decM g i))) + (prodM (prodM (cosM (latM g (g (58 + 3 * i)))) (cosM (decM g i))) (cosM (angM g i)))))) rfl ?_
  have hb_7 := limM_b ((prodM (sinM (latM g (g (58 + 3 * i)))) (sinM (decM g i))) + (prodM (prodM (cosM (latM g (g (58 + 3 * i)))) (cosM (decM g i))) (cosM (angM g i))))
  refine k_pureS hC (c_X12_arcOf l hls G hN w fl (limM ((prodM (sinM (latM g (g (58 + 3 * i)))) (sinM (decM g i))) + (prodM (prodM (cosM (latM g (g (58 + 3 * i)))) (cosM (decM g i))) (cosM (angM g i))))) (by omega)) yy_X12_arcOf wm_X12_110 rfl rfl (Nat.le_of_ble_eq_true rfl) (by decide) (by decide) ⟨by decide, by decide⟩ dX12_expected_64 ?_
  have hb_8 := arcM_b (limM ((prodM (sinM (latM g (g (58 + 3 * i)))) (sinM (decM g i))) + (prodM (prodM (cosM (latM g (g (58 + 3 * i)))) (cosM (decM g i))) (cosM (angM g i)))))
  subst hQ
  exact k_lret hC hr ⟨by decide, by decide⟩ (⟨congrArg (fun z => some (vL z)) (show (expM g i : Int) = arcM (limM ((prodM (sinM (latM g (g (58 + 3 * i)))) (sinM (decM g i))) + (prodM (prodM (cosM (latM g (g (58 + 3 * i)))) (cosM (decM g i))) (cosM (angM g i))))) from rfl), rfl, rfl⟩) dX12_expected_67

theorem expM_b (g : Nat → Int) (i : Nat) : -5400 ≤ expM g i ∧ expM g i ≤ 5400 := arcM_b _
set_option maxRecDepth 100000 in
set_option maxHeartbeats 4000000 in
theorem c_X12_azimuth (l : Launch) (hls : l.stackTraces = false) (G : kG) (hN : kN G = 150) (w : Nat → va_E) (fl : va_W) (u g : Nat → Int) (i : Nat) (hI : Inv g) (hi : (i : Int) < g 2) (hm : w 133 = mdO G u) (hn : w 134 = lA G 93 g) : KM l G yX12_azimuth cX12_azimuth 12 (some (FieldType.long)) 10 0 0 [.ref (kad G 133), vI (i : Int)] w fl (kPure (vL (aziM g i)) w fl) := by
  refine KM_of2 hls (by decide +kernel) rfl (lv0 := [(0, .ref (kad G 133)), (1, vI (i : Int))]) rfl (Nat.le_of_ble_eq_true rfl) (fun p e R s m args below meth c Q hC hr hQ => ?_)
  have h0 := hI.c
  have hsi := hI.sight i hi
  have hbi := hI.body (g (57 + 3 * i)).toNat (by omega)
  have hla := latM_b hI hsi.2.1
  have hde := decM_b hI i hi
  have han := angM_b hI i hi
  have hex := expM_b g i
  have hm1 := mul_le_abs (a := cosM (latM g (g (58 + 3 * i)))) (b := cosM (expM g i)) (A := 1000000) (B := 1000000) (cosM_b _) (cosM_b _)
  have hp1 := prodM_u (a := cosM (latM g (g (58 + 3 * i)))) (s := cosM (expM g i)) 1000000 (cosM_b _) (cosM_b _)
  have hm2 := mul_le_abs (a := sinM (latM g (g (58 + 3 * i)))) (b := sinM (expM g i)) (A := 1000000) (B := 1000000) (sinM_b _) (sinM_b _)
  have hp2 := prodM_u (a := sinM (latM g (g (58 + 3 * i)))) (s := sinM (expM g i)) 1000000 (sinM_b _) (sinM_b _)
  refine k_aload_n hC dX12_azimuth_0 rfl 0 rfl ?_
  refine k_aload_n hC dX12_azimuth_1 rfl 0 rfl ?_
  refine k_iload_n hC dX12_azimuth_2 rfl 1 rfl ?_
  refine k_iconst hC dX12_azimuth_3 ?_
  refine k_pureV hC (c_X12_ofSight l hls G hN w fl u g i 1 (by omega) (by decide) hm hn) yy_X12_ofSight wm_X12_147 (kl hN (by decide)) hm rfl rfl rfl rfl (Nat.le_of_ble_eq_true rfl) (by decide) (by decide) ⟨by decide, by decide⟩ dX12_azimuth_4 ?_
  refine k_topv (vL (g (58 + 3 * i))) rfl ?_
  refine k_pureV hC (c_X12_latitudeAt l hls G hN w fl u g (g (58 + 3 * i)) hI (by omega) hm hn) yy_X12_latitudeAt wm_X12_167 (kl hN (by decide)) hm rfl rfl rfl rfl (Nat.le_of_ble_eq_true rfl) (by decide) (by decide) ⟨by decide, by decide⟩ dX12_azimuth_7 ?_
  refine k_topv (vL (latM g (g (58 + 3 * i)))) rfl ?_
  have hb_1 := latM_b hI (t := g (58 + 3 * i)) (by omega)
  refine k_lstore_n hC [(2, vL (latM g (g (58 + 3 * i)))), (0, .ref (kad G 133)), (1, vI (i : Int))] dX12_azimuth_10 rfl (by decide) rfl ?_
  refine k_aload_n hC dX12_azimuth_11 rfl 1 rfl ?_
  refine k_iload_n hC dX12_azimuth_12 rfl 2 rfl ?_
  refine k_pureV hC (c_X12_expected l hls G hN w fl u g i hI (by omega) hm hn) yy_X12_expected wm_X12_179 (kl hN (by decide)) hm rfl rfl rfl rfl (Nat.le_of_ble_eq_true rfl) (by decide) (by decide) ⟨by decide, by decide⟩ dX12_azimuth_13 ?_
  refine k_topv (vL (expM g i)) rfl ?_
  have hb_2 := expM_b g i
  refine k_lstore hC [(4, vL (expM g i)), (2, vL (latM g (g (58 + 3 * i)))), (0, .ref (kad G 133)), (1, vI (i : Int))] dX12_azimuth_16 (by decide) rfl ?_
  refine k_lload_n hC dX12_azimuth_18 rfl 1 rfl ?_
  refine k_pureS hC (c_X12_cosineOf l hls G hN w fl (latM g (g (58 + 3 * i))) (by omega)) yy_X12_cosineOf wm_X12_117 rfl rfl (Nat.le_of_ble_eq_true rfl) (by decide) (by decide) ⟨by decide, by decide⟩ dX12_azimuth_19 ?_
  refine k_topv (vL (cosM (latM g (g (58 + 3 * i))))) rfl ?_
  have hb_3 := cosM_b (latM g (g (58 + 3 * i)))
  refine k_lload hC dX12_azimuth_22 0 rfl ?_
  refine k_pureS hC (c_X12_cosineOf l hls G hN w fl (expM g i) (by omega)) yy_X12_cosineOf wm_X12_117 rfl rfl (Nat.le_of_ble_eq_true rfl) (by decide) (by decide) ⟨by decide, by decide⟩ dX12_azimuth_24 ?_
  refine k_topv (vL (cosM (expM g i))) rfl ?_
  have hb_4 := cosM_b (expM g i)
  refine k_pureS hC (c_X12_product l hls G hN w fl (cosM (latM g (g (58 + 3 * i)))) (cosM (expM g i)) (by omega)) yy_X12_product wm_X12_120 rfl rfl (Nat.le_of_ble_eq_true rfl) (by decide) (by decide) ⟨by decide, by decide⟩ dX12_azimuth_27 ?_
  refine k_topL (fun dv edv => ?_)
  refine k_lstore hC [(6, vL dv), (4, vL (expM g i)), (2, vL (latM g (g (58 + 3 * i)))), (0, .ref (kad G 133)), (1, vI (i : Int))] dX12_azimuth_30 (by decide) rfl ?_
  have hdv : -1000000 ≤ dv ∧ dv ≤ 1000000 := by omega
  refine k_lload hC dX12_azimuth_32 0 rfl ?_
  refine k_lconst (x := 0) hC dX12_azimuth_34 (by decide) ?_
  refine k_lcmp_gt hC 45 dX12_azimuth_35 dX12_azimuth_36 rfl (by omega) (by omega) (fun c_35 => ?_) (fun c_35 => ?_)
  · refine k_aload_n hC dX12_azimuth_45 rfl 3 rfl ?_
    refine k_iload_n hC dX12_azimuth_46 rfl 4 rfl ?_
    refine k_pureV hC (c_X12_declination l hls G hN w fl u g i hI (by omega) hm hn) yy_X12_declination wm_X12_170 (kl hN (by decide)) hm rfl rfl rfl rfl (Nat.le_of_ble_eq_true rfl) (by decide) (by decide) ⟨by decide, by decide⟩ dX12_azimuth_47 ?_
    refine k_topv (vL (decM g i)) rfl ?_
    refine k_pureS hC (c_X12_sineOf l hls G hN w fl (decM g i) (by omega)) yy_X12_sineOf wm_X12_101 rfl rfl (Nat.le_of_ble_eq_true rfl) (by decide) (by decide) ⟨by decide, by decide⟩ dX12_azimuth_50 ?_
    have hb_5 := sinM_b (decM g i)
    have hsd := sinM_b (decM g i)
    refine k_lload_n hC dX12_azimuth_53 rfl 2 rfl ?_
    refine k_pureS hC (c_X12_sineOf l hls G hN w fl (latM g (g (58 + 3 * i))) (by omega)) yy_X12_sineOf wm_X12_101 rfl rfl (Nat.le_of_ble_eq_true rfl) (by decide) (by decide) ⟨by decide, by decide⟩ dX12_azimuth_54 ?_
    have hb_6 := sinM_b (latM g (g (58 + 3 * i)))
    refine k_lload hC dX12_azimuth_57 1 rfl ?_
    refine k_pureS hC (c_X12_sineOf l hls G hN w fl (expM g i) (by omega)) yy_X12_sineOf wm_X12_101 rfl rfl (Nat.le_of_ble_eq_true rfl) (by decide) (by decide) ⟨by decide, by decide⟩ dX12_azimuth_59 ?_
    have hb_7 := sinM_b (expM g i)
    refine k_pureS hC (c_X12_product l hls G hN w fl (sinM (latM g (g (58 + 3 * i)))) (sinM (expM g i)) (by omega)) yy_X12_product wm_X12_120 rfl rfl (Nat.le_of_ble_eq_true rfl) (by decide) (by decide) ⟨by decide, by decide⟩ dX12_azimuth_62 ?_
    refine k_lsub hC dX12_azimuth_65 ?_
    refine k_ldc2 hC (x := 1000000) (v := 1000000) dX12_azimuth_66 (by decide) wk_X12_113 ?_
    refine k_lmul hC dX12_azimuth_69 ?_
    have hfd := k_fdivb (a := (sinM (decM g i) - prodM (sinM (latM g (g (58 + 3 * i)))) (sinM (expM g i))) * 1000000) (b := dv) (by omega)
    refine k_lload hC dX12_azimuth_70 0 rfl ?_
    refine k_pureS hC (c_X12_floor l hls G hN w fl (((sinM (decM g i)) - (prodM (sinM (latM g (g (58 + 3 * i)))) (sinM (expM g i)))) * 1000000) dv (by omega) (by omega)) yy_X12_floor wm_X12_92 rfl rfl (Nat.le_of_ble_eq_true rfl) (by decide) (by decide) ⟨by decide, by decide⟩ dX12_azimuth_72 ?_
    refine k_ldc2 hC (x := 1000000) (v := 1000000) dX12_azimuth_75 (by decide) wk_X12_113 ?_
    refine k_pureS hC (c_X12_bounded l hls G hN w fl ((((sinM (decM g i)) - (prodM (sinM (latM g (g (58 + 3 * i)))) (sinM (expM g i)))) * 1000000).fdiv dv) 1000000 (by omega) (by omega)) yy_X12_bounded wm_X12_176 rfl rfl (Nat.le_of_ble_eq_true rfl) (by decide) (by decide) ⟨by decide, by decide⟩ dX12_azimuth_78 ?_
    refine k_topv (vL (limM ((((sinM (decM g i)) - (prodM (sinM (latM g (g (58 + 3 * i)))) (sinM (expM g i)))) * 1000000).fdiv dv))) rfl ?_
    have hb_8 := limM_b ((((sinM (decM g i)) - (prodM (sinM (latM g (g (58 + 3 * i)))) (sinM (expM g i)))) * 1000000).fdiv dv)
    refine k_topL (fun cc ecc => ?_)
    refine k_lstore hC [(8, vL cc), (6, vL dv), (4, vL (expM g i)), (2, vL (latM g (g (58 + 3 * i)))), (0, .ref (kad G 133)), (1, vI (i : Int))] dX12_azimuth_81 (by decide) rfl ?_
    have ecc2 : cc = aziC (latM g (g (58 + 3 * i))) (decM g i) (expM g i) := by unfold aziC; rw [← edv]; first | (rw [if_neg (by omega)]; exact ecc) | (rw [if_pos (by omega)]; exact ecc)
    have hcc : -1000000 ≤ cc ∧ cc ≤ 1000000 := by first | omega | (rw [ecc]; exact limM_b _)
    refine k_ldc2 hC (x := 5400) (v := 5400) dX12_azimuth_83 (by decide) wk_X12_108 ?_
    refine k_lload hC dX12_azimuth_86 0 rfl ?_
    refine k_pureS hC (c_X12_arcOf l hls G hN w fl cc (by omega)) yy_X12_arcOf wm_X12_110 rfl rfl (Nat.le_of_ble_eq_true rfl) (by decide) (by decide) ⟨by decide, by decide⟩ dX12_azimuth_88 ?_
    have hb_9 := arcM_b cc
    refine k_lsub hC dX12_azimuth_91 ?_
    refine k_topL (fun zz ezz => ?_)
    refine k_lstore hC [(10, vL zz), (8, vL cc), (6, vL dv), (4, vL (expM g i)), (2, vL (latM g (g (58 + 3 * i)))), (0, .ref (kad G 133)), (1, vI (i : Int))] dX12_azimuth_92 (by decide) rfl ?_
    have hzb := arcM_b cc
    have ezz2 : zz = 5400 - arcM (aziC (latM g (g (58 + 3 * i))) (decM g i) (expM g i)) := by rw [ezz, ecc2]
    refine k_aload_n hC dX12_azimuth_94 rfl 5 rfl ?_
    refine k_iload_n hC dX12_azimuth_95 rfl 6 rfl ?_
    refine k_pureV hC (c_X12_localAngle l hls G hN w fl u g i hI (by omega) hm hn) yy_X12_localAngle wm_X12_173 (kl hN (by decide)) hm rfl rfl rfl rfl (Nat.le_of_ble_eq_true rfl) (by decide) (by decide) ⟨by decide, by decide⟩ dX12_azimuth_96 ?_
    refine k_topv (vL (angM g i)) rfl ?_
    refine k_pureS hC (c_X12_sineOf l hls G hN w fl (angM g i) (by omega)) yy_X12_sineOf wm_X12_101 rfl rfl (Nat.le_of_ble_eq_true rfl) (by decide) (by decide) ⟨by decide, by decide⟩ dX12_azimuth_99 ?_
    have hb_10 := sinM_b (angM g i)
    refine k_lconst (x := 0) hC dX12_azimuth_102 (by decide) ?_
    refine k_lcmp_gt hC 112 dX12_azimuth_103 dX12_azimuth_104 rfl (by omega) (by omega) (fun c_103 => ?_) (fun c_103 => ?_)
    · refine k_ldc2 hC (x := 21600) (v := 21600) dX12_azimuth_112 (by decide) wk_X12_90 ?_
      refine k_lload hC dX12_azimuth_115 0 rfl ?_
      refine k_lsub hC dX12_azimuth_117 ?_
      refine k_pureS hC (c_X12_turned l hls G hN w fl (21600 - zz) (by omega)) yy_X12_turned wm_X12_95 rfl rfl (Nat.le_of_ble_eq_true rfl) (by decide) (by decide) ⟨by decide, by decide⟩ dX12_azimuth_118 ?_
      subst hQ
      exact k_lret hC hr ⟨by decide, by decide⟩ (⟨congrArg (fun z => some (vL z)) (show (aziM g i : Int) = (21600 - zz) % 21600 from by show aziO (latM g (g (58 + 3 * i))) (decM g i) (angM g i) (expM g i) = _; unfold aziO; rw [← ezz2]; first | (rw [if_pos (by omega)]; done) | (rw [if_neg (by omega)]; by_cases hz0 : zz = 0; (rw [if_pos hz0]; omega); (rw [if_neg hz0]; omega))), rfl, rfl⟩) dX12_azimuth_121
    · refine k_lload hC dX12_azimuth_107 0 rfl ?_
      refine k_goto hC 121 dX12_azimuth_109 rfl ?_
      subst hQ
      exact k_lret hC hr ⟨by decide, by decide⟩ (⟨congrArg (fun z => some (vL z)) (show (aziM g i : Int) = zz from by show aziO (latM g (g (58 + 3 * i))) (decM g i) (angM g i) (expM g i) = _; unfold aziO; rw [← ezz2]; first | (rw [if_pos (by omega)]; done) | (rw [if_neg (by omega)]; by_cases hz0 : zz = 0; (rw [if_pos hz0]; omega); (rw [if_neg hz0]; omega))), rfl, rfl⟩) dX12_azimuth_121
  · refine k_ldc2 hC (x := 1000000) (v := 1000000) dX12_azimuth_39 (by decide) wk_X12_113 ?_
    refine k_goto hC 81 dX12_azimuth_42 rfl ?_
    refine k_topL (fun cc ecc => ?_)
    refine k_lstore hC [(8, vL cc), (6, vL dv), (4, vL (expM g i)), (2, vL (latM g (g (58 + 3 * i)))), (0, .ref (kad G 133)), (1, vI (i : Int))] dX12_azimuth_81 (by decide) rfl ?_
    have ecc2 : cc = aziC (latM g (g (58 + 3 * i))) (decM g i) (expM g i) := by unfold aziC; rw [← edv]; first | (rw [if_neg (by omega)]; exact ecc) | (rw [if_pos (by omega)]; exact ecc)
    have hcc : -1000000 ≤ cc ∧ cc ≤ 1000000 := by first | omega | (rw [ecc]; exact limM_b _)
    refine k_ldc2 hC (x := 5400) (v := 5400) dX12_azimuth_83 (by decide) wk_X12_108 ?_
    refine k_lload hC dX12_azimuth_86 0 rfl ?_
    refine k_pureS hC (c_X12_arcOf l hls G hN w fl cc (by omega)) yy_X12_arcOf wm_X12_110 rfl rfl (Nat.le_of_ble_eq_true rfl) (by decide) (by decide) ⟨by decide, by decide⟩ dX12_azimuth_88 ?_
    have hb_11 := arcM_b cc
    refine k_lsub hC dX12_azimuth_91 ?_
    refine k_topL (fun zz ezz => ?_)
    refine k_lstore hC [(10, vL zz), (8, vL cc), (6, vL dv), (4, vL (expM g i)), (2, vL (latM g (g (58 + 3 * i)))), (0, .ref (kad G 133)), (1, vI (i : Int))] dX12_azimuth_92 (by decide) rfl ?_
    have hzb := arcM_b cc
    have ezz2 : zz = 5400 - arcM (aziC (latM g (g (58 + 3 * i))) (decM g i) (expM g i)) := by rw [ezz, ecc2]
    refine k_aload_n hC dX12_azimuth_94 rfl 5 rfl ?_
    refine k_iload_n hC dX12_azimuth_95 rfl 6 rfl ?_
    refine k_pureV hC (c_X12_localAngle l hls G hN w fl u g i hI (by omega) hm hn) yy_X12_localAngle wm_X12_173 (kl hN (by decide)) hm rfl rfl rfl rfl (Nat.le_of_ble_eq_true rfl) (by decide) (by decide) ⟨by decide, by decide⟩ dX12_azimuth_96 ?_
    refine k_topv (vL (angM g i)) rfl ?_
    refine k_pureS hC (c_X12_sineOf l hls G hN w fl (angM g i) (by omega)) yy_X12_sineOf wm_X12_101 rfl rfl (Nat.le_of_ble_eq_true rfl) (by decide) (by decide) ⟨by decide, by decide⟩ dX12_azimuth_99 ?_
    have hb_12 := sinM_b (angM g i)
    refine k_lconst (x := 0) hC dX12_azimuth_102 (by decide) ?_
    refine k_lcmp_gt hC 112 dX12_azimuth_103 dX12_azimuth_104 rfl (by omega) (by omega) (fun c_103 => ?_) (fun c_103 => ?_)
    · refine k_ldc2 hC (x := 21600) (v := 21600) dX12_azimuth_112 (by decide) wk_X12_90 ?_
      refine k_lload hC dX12_azimuth_115 0 rfl ?_
      refine k_lsub hC dX12_azimuth_117 ?_
      refine k_pureS hC (c_X12_turned l hls G hN w fl (21600 - zz) (by omega)) yy_X12_turned wm_X12_95 rfl rfl (Nat.le_of_ble_eq_true rfl) (by decide) (by decide) ⟨by decide, by decide⟩ dX12_azimuth_118 ?_
      subst hQ
      exact k_lret hC hr ⟨by decide, by decide⟩ (⟨congrArg (fun z => some (vL z)) (show (aziM g i : Int) = (21600 - zz) % 21600 from by show aziO (latM g (g (58 + 3 * i))) (decM g i) (angM g i) (expM g i) = _; unfold aziO; rw [← ezz2]; first | (rw [if_pos (by omega)]; done) | (rw [if_neg (by omega)]; by_cases hz0 : zz = 0; (rw [if_pos hz0]; omega); (rw [if_neg hz0]; omega))), rfl, rfl⟩) dX12_azimuth_121
    · refine k_lload hC dX12_azimuth_107 0 rfl ?_
      refine k_goto hC 121 dX12_azimuth_109 rfl ?_
      subst hQ
      exact k_lret hC hr ⟨by decide, by decide⟩ (⟨congrArg (fun z => some (vL z)) (show (aziM g i : Int) = zz from by show aziO (latM g (g (58 + 3 * i))) (decM g i) (angM g i) (expM g i) = _; unfold aziO; rw [← ezz2]; first | (rw [if_pos (by omega)]; done) | (rw [if_neg (by omega)]; by_cases hz0 : zz = 0; (rw [if_pos hz0]; omega); (rw [if_neg hz0]; omega))), rfl, rfl⟩) dX12_azimuth_121

theorem aziM_b (g : Nat → Int) (i : Nat) : 0 ≤ aziM g i ∧ aziM g i ≤ 21599 := aziO_b _ _ _ _
set_option maxRecDepth 100000 in
set_option maxHeartbeats 4000000 in
theorem c_X12_intercept (l : Launch) (hls : l.stackTraces = false) (G : kG) (hN : kN G = 150) (w : Nat → va_E) (fl : va_W) (u g : Nat → Int) (i : Nat) (hI : Inv g) (hi : (i : Int) < g 2) (hm : w 133 = mdO G u) (hn : w 134 = lA G 93 g) : KM l G yX12_intercept cX12_intercept 2 (some (FieldType.long)) 10 0 0 [.ref (kad G 133), vI (i : Int)] w fl (kPure (vL (intM g i)) w fl) := by
  refine KM_of2 hls (by decide +kernel) rfl (lv0 := [(0, .ref (kad G 133)), (1, vI (i : Int))]) rfl (Nat.le_of_ble_eq_true rfl) (fun p e R s m args below meth c Q hC hr hQ => ?_)
  have h0 := hI.c
  have hsi := hI.sight i hi
  have hbi := hI.body (g (57 + 3 * i)).toNat (by omega)
  refine k_aload_n hC dX12_intercept_0 rfl 0 rfl ?_
  refine k_iload_n hC dX12_intercept_1 rfl 1 rfl ?_
  refine k_pureV hC (c_X12_observed l hls G hN w fl u g i hI (by omega) hm hn) yy_X12_observed wm_X12_181 (kl hN (by decide)) hm rfl rfl rfl rfl (Nat.le_of_ble_eq_true rfl) (by decide) (by decide) ⟨by decide, by decide⟩ dX12_intercept_2 ?_
  refine k_topv (vL (obsM g i)) rfl ?_
  have hb_1 := obsM_b hI i (by omega)
  refine k_aload_n hC dX12_intercept_5 rfl 0 rfl ?_
  refine k_iload_n hC dX12_intercept_6 rfl 1 rfl ?_
  refine k_pureV hC (c_X12_expected l hls G hN w fl u g i hI (by omega) hm hn) yy_X12_expected wm_X12_179 (kl hN (by decide)) hm rfl rfl rfl rfl (Nat.le_of_ble_eq_true rfl) (by decide) (by decide) ⟨by decide, by decide⟩ dX12_intercept_7 ?_
  refine k_topv (vL (expM g i)) rfl ?_
  have hb_2 := expM_b g i
  refine k_lsub hC dX12_intercept_10 ?_
  subst hQ
  exact k_lret hC hr ⟨by decide, by decide⟩ (⟨congrArg (fun z => some (vL z)) (show (intM g i : Int) = (obsM g i) - (expM g i) from rfl), rfl, rfl⟩) dX12_intercept_11

set_option maxRecDepth 100000 in
set_option maxHeartbeats 4000000 in
theorem c_X12_along (l : Launch) (hls : l.stackTraces = false) (G : kG) (hN : kN G = 150) (w : Nat → va_E) (fl : va_W) (x y sa ca : Int) (hx : -10000000 ≤ x ∧ x ≤ 10000000) (hy : -10000000 ≤ y ∧ y ≤ 10000000) (hsa : -1000000 ≤ sa ∧ sa ≤ 1000000) (hca : -1000000 ≤ ca ∧ ca ≤ 1000000) : KM l G yX12_along cX12_along 8 (some (FieldType.long)) 1 0 0 [vL x, vL y, vL sa, vL ca] w fl (kPure (vL (along x y sa ca)) w fl) := by
  refine KM_of2 hls (by decide +kernel) rfl (lv0 := [(0, vL x), (2, vL y), (4, vL sa), (6, vL ca)]) rfl (Nat.le_of_ble_eq_true rfl) (fun p e R s m args below meth c Q hC hr hQ => ?_)
  have hm1 := mul_le_abs (a := x) (b := sa) (A := 10000000) (B := 1000000) (by omega) (by omega)
  have hm2 := mul_le_abs (a := y) (b := ca) (A := 10000000) (B := 1000000) (by omega) (by omega)
  refine k_lload_n hC dX12_along_0 rfl 0 rfl ?_
  refine k_lload hC dX12_along_1 2 rfl ?_
  refine k_lmul hC dX12_along_3 ?_
  refine k_lload_n hC dX12_along_4 rfl 1 rfl ?_
  refine k_lload hC dX12_along_5 3 rfl ?_
  refine k_lmul hC dX12_along_7 ?_
  refine k_ladd hC dX12_along_8 ?_
  refine k_ldc2 hC (x := 1000000) (v := 1000000) dX12_along_9 (by decide) wk_X12_113 ?_
  refine k_pureS hC (c_X12_floor l hls G hN w fl ((x * sa) + (y * ca)) 1000000 (by omega) (by omega)) yy_X12_floor wm_X12_92 rfl rfl (Nat.le_of_ble_eq_true rfl) (by decide) (by decide) ⟨by decide, by decide⟩ dX12_along_12 ?_
  subst hQ
  exact k_lret hC hr ⟨by decide, by decide⟩ (⟨congrArg (fun z => some (vL z)) (show (along x y sa ca : Int) = ((x * sa) + (y * ca)).fdiv 1000000 from by unfold along; rw [Int.fdiv_eq_ediv_of_nonneg _ (by decide)]), rfl, rfl⟩) dX12_along_15

