set_option maxRecDepth 100000 in
set_option maxHeartbeats 4000000 in
theorem c_L_most (l : Launch) (hls : l.stackTraces = false) (G : kG) (hN : 133 ≤ kN G) (w : Nat → va_E) (fl : va_W) (v q : Int) (hq : 0 < q ∧ q ≤ 2147483647) : KM l G yL_most cL_most 2 (some (FieldType.int)) 0 0 0 [vI v, vI q] w fl (fun v1 w1 fl1 => ∃ r : Int, 0 ≤ r ∧ r < q ∧ some (vI r) = v1 ∧ w = w1 ∧ fl = fl1) := by
  refine KM_of2 hls (by decide +kernel) rfl (lv0 := [(0, vI v), (1, vI q)]) rfl (Nat.le_of_ble_eq_true rfl) (fun p e R s m args below meth c Q hC hr hQ => ?_)
  refine k_iload_n hC dL_most_0 rfl 0 rfl ?_
  refine k_ldc hC (x := 2147483647) (v := 2147483647) dL_most_1 (by decide) wk_L_7 ?_
  refine k_iandA hC dL_most_3 (fun y_1 hy_1 => ?_)
  refine k_iload_n hC dL_most_4 rfl 1 rfl ?_
  refine k_irem hC dL_most_5 (by omega) (by omega) ?_
  subst hQ
  exact k_iret hC hr ⟨by decide, by decide⟩ (⟨_, (Int.tmod_nonneg _ (by omega)), (Int.tmod_lt_of_pos _ (by omega)), rfl, rfl, rfl⟩) dL_most_6

set_option maxRecDepth 100000 in
set_option maxHeartbeats 4000000 in
theorem c_L_cell (l : Launch) (hls : l.stackTraces = false) (G : kG) (hN : 133 ≤ kN G) (w : Nat → va_E) (fl : va_W) (k : Int) (hL9 : kL G ≤ 260) (hk : 0 ≤ k ∧ k ≤ 10000) : KM l G yL_cell cL_cell 2 (some (FieldType.int)) 0 0 0 [.ref (kb G), vI k] w fl (fun v1 w1 fl1 => ∃ r : Int, (-2147483648 ≤ r ∧ r ≤ 2147483647) ∧ some (vI r) = v1 ∧ w = w1 ∧ fl = fl1) := by
  refine KM_of2 hls (by decide +kernel) rfl (lv0 := [(0, .ref (kb G)), (1, vI k)]) rfl (Nat.le_of_ble_eq_true rfl) (fun p e R s m args below meth c Q hC hr hQ => ?_)
  refine k_iload_n hC dL_cell_0 rfl 1 rfl ?_
  refine k_aload_n hC dL_cell_1 rfl 0 rfl ?_
  refine k_slen hC dL_cell_2 ?_
  refine k_icmp_ge hC 12 dL_cell_3 rfl (by omega) (by omega) (fun c_3 => ?_) (fun c_3 => ?_)
  · refine k_bipush hC dL_cell_12 (by decide) ?_
    refine k_iload_n hC dL_cell_14 rfl 1 rfl ?_
    refine k_imul hC dL_cell_15 ?_
    subst hQ
    exact k_iret hC hr ⟨by decide, by decide⟩ (⟨_, (by omega), rfl, rfl, rfl⟩) dL_cell_16
  · refine k_aload_n hC dL_cell_6 rfl 0 rfl ?_
    refine k_iload_n hC dL_cell_7 rfl 1 rfl ?_
    refine k_scr hC hL9 (by omega) dL_cell_8 ?_
    have hx_8 := xI_r G (k).toNat
    refine k_goto hC 16 dL_cell_9 rfl ?_
    subst hQ
    exact k_iret hC hr ⟨by decide, by decide⟩ (⟨_, (by omega), rfl, rfl, rfl⟩) dL_cell_16

set_option maxRecDepth 100000 in
set_option maxHeartbeats 4000000 in
theorem c_L_far (l : Launch) (hls : l.stackTraces = false) (G : kG) (hN : 133 ≤ kN G) (w : Nat → va_E) (fl : va_W) (g nl : Nat → Int) (sv : Int) (k : Nat) (T e9 n9 : Int) (hk : (k : Int) < g 2) (ht : 0 ≤ T ∧ T ≤ 5000) (he : -1000000 ≤ e9 ∧ e9 ≤ 1000000) (hn : -1000000 ≤ n9 ∧ n9 ≤ 1000000) (hI : Inv g) (h00 : w 0 = srO G sv) (hL : kLog G w 3 g) (hP : kPlan G w 32 g nl) (hCt : kCht G w) : KM l G yL_far cL_far 8 (some (FieldType.long)) 7 0 0 [.ref (kad G 0), vI (k : Int), vI T, vL e9, vL n9] w fl (kOk True (vL (farM g k T e9 n9)) fl (kCP G w)) := by
  refine KM_of2 hls (by decide +kernel) rfl (lv0 := [(0, .ref (kad G 0)), (1, vI (k : Int)), (2, vI T), (3, vL e9), (5, vL n9)]) rfl (Nat.le_of_ble_eq_true rfl) (fun p e R s m args below meth c Q hC hr hQ => ?_)
  have hz := aziM_b g k
  have hs1 := sinM_b (aziM g k)
  have hs2 := sinM_b (aziM g k + 5400)
  have hm1 := mul_le_abs he hs1
  have hm2 := mul_le_abs hn hs2
  have hc9 := carM_b hI k hk ht
  have hal := along_b 1000000 1000000 he hn (sinM_b (aziM g k)) (cosM_b (aziM g k))
  have h0 := hI.c
  refine k_aload_n hC dL_far_0 rfl 0 rfl ?_
  refine k_iload_n hC dL_far_1 rfl 1 rfl ?_
  refine k_bipush hC dL_far_2 (by decide) ?_
  refine k_callV hC (n_X11_sight l hls G hN w fl g nl sv (k : Int) 6 (by omega) (by omega) hI h00 hL hP hCt (by omega)) yy_X11_sight wm_L_133 (kl hN (by decide)) h00 rfl rfl rfl rfl (Nat.le_of_ble_eq_true rfl) (by decide) (by decide) ⟨by decide, by decide⟩ dL_far_4 (fun v1 w1 fl1 hp1 => ?_)
  obtain ⟨-, q1, q2, hp1⟩ := hp1
  subst q1
  subst q2
  obtain ⟨hCt1, hf1⟩ := hp1
  show KW p l e R s m args below meth c 8 G Q w1 fl 0 0 7 [(0, .ref (kad G 0)), (1, vI (k : Int)), (2, vI T), (3, vL e9), (5, vL n9)] [vI (sightV g (k : Int).toNat 6)]
  refine k_topv (vI (aziM g k)) rfl ?_
  refine k_istore hC [(7, vI (aziM g k)), (0, .ref (kad G 0)), (1, vI (k : Int)), (2, vI T), (3, vL e9), (5, vL n9)] dL_far_7 (by decide) rfl ?_
  refine k_lload_n hC dL_far_9 rfl 4 rfl ?_
  refine k_aload_n hC dL_far_10 rfl 1 rfl ?_
  refine k_iload hC dL_far_11 0 rfl ?_
  have h_2 : w1 0 = .inr (11, [.ref (kad G 1), .ref (kad G 32), .ref (kad G 3), .ref (kad G 37), vI sv, .ref (kad G 44), .ref (kad G 10), .ref (kad G 116), .ref (kad G 129), .ref (kad G 132)]) := (hf1 0 (by omega)).trans h00
  have hB_3 : kLog G w1 3 g := hL.fr (fun j q1 q2 => (hf1 j (by omega)))
  have hB_4 : kPlan G w1 32 g nl := hP.fr (fun j q1 q2 => (hf1 j (by omega)))
  refine k_callV hC (c_X11_sine l hls G hN w1 fl g nl sv (aziM g k) (by omega) hI h_2 hB_3 hB_4 hCt1) yy_X11_sine wm_L_158 (kl hN (by decide)) h_2 rfl rfl rfl rfl (Nat.le_of_ble_eq_true rfl) (by decide) (by decide) ⟨by decide, by decide⟩ dL_far_13 (fun v5 w5 fl5 hp5 => ?_)
  obtain ⟨-, q1, q2, hp5⟩ := hp5
  subst q1
  subst q2
  obtain ⟨hCt5, hf5⟩ := hp5
  show KW p l e R s m args below meth c 8 G Q w5 fl 0 0 16 [(7, vI (aziM g k)), (0, .ref (kad G 0)), (1, vI (k : Int)), (2, vI T), (3, vL e9), (5, vL n9)] [vI (sinM (aziM g k)), vL e9]
  refine k_i2l hC dL_far_16 (by omega) ?_
  refine k_lmul hC dL_far_17 ?_
  refine k_lload hC dL_far_18 5 rfl ?_
  refine k_aload_n hC dL_far_20 rfl 1 rfl ?_
  refine k_iload hC dL_far_21 0 rfl ?_
  refine k_sipush hC dL_far_23 (by decide) ?_
  refine k_iadd hC dL_far_26 ?_
  have h_6 : w5 0 = .inr (11, [.ref (kad G 1), .ref (kad G 32), .ref (kad G 3), .ref (kad G 37), vI sv, .ref (kad G 44), .ref (kad G 10), .ref (kad G 116), .ref (kad G 129), .ref (kad G 132)]) := (hf5 0 (by omega)).trans h_2
  have hB_7 : kLog G w5 3 g := hB_3.fr (fun j q1 q2 => (hf5 j (by omega)))
  have hB_8 : kPlan G w5 32 g nl := hB_4.fr (fun j q1 q2 => (hf5 j (by omega)))
  refine k_callV hC (c_X11_sine l hls G hN w5 fl g nl sv ((aziM g k) + 5400) (by omega) hI h_6 hB_7 hB_8 hCt5) yy_X11_sine wm_L_158 (kl hN (by decide)) h_6 rfl rfl rfl rfl (Nat.le_of_ble_eq_true rfl) (by decide) (by decide) ⟨by decide, by decide⟩ dL_far_27 (fun v9 w9 fl9 hp9 => ?_)
  obtain ⟨-, q1, q2, hp9⟩ := hp9
  subst q1
  subst q2
  obtain ⟨hCt9, hf9⟩ := hp9
  show KW p l e R s m args below meth c 8 G Q w9 fl 0 0 30 [(7, vI (aziM g k)), (0, .ref (kad G 0)), (1, vI (k : Int)), (2, vI T), (3, vL e9), (5, vL n9)] [vI (sinM ((aziM g k) + 5400)), vL n9, vL (e9 * (sinM (aziM g k)))]
  refine k_i2l hC dL_far_30 (by omega) ?_
  refine k_lmul hC dL_far_31 ?_
  refine k_ladd hC dL_far_32 ?_
  refine k_ldc2 hC (x := 1000000) (v := 1000000) dL_far_33 (by decide) wk_L_161 ?_
  refine k_pureS hC (c_J9_floorDiv_f86c9 l hls G hN w9 fl ((e9 * (sinM (aziM g k))) + (n9 * (sinM ((aziM g k) + 5400)))) 1000000 (by omega) (by omega)) yy_J9_floorDiv_f86c9 wm_L_163 rfl rfl (Nat.le_of_ble_eq_true rfl) (by decide) (by decide) ⟨by decide, by decide⟩ dL_far_36 ?_
  refine k_topv (vL (along e9 n9 (sinM (aziM g k)) (cosM (aziM g k)))) (congrArg vL (Int.fdiv_eq_ediv_of_nonneg _ (by decide))) ?_
  refine k_aload_n hC dL_far_39 rfl 1 rfl ?_
  refine k_iload_n hC dL_far_40 rfl 2 rfl ?_
  refine k_iload_n hC dL_far_41 rfl 3 rfl ?_
  have h_10 : w9 0 = .inr (11, [.ref (kad G 1), .ref (kad G 32), .ref (kad G 3), .ref (kad G 37), vI sv, .ref (kad G 44), .ref (kad G 10), .ref (kad G 116), .ref (kad G 129), .ref (kad G 132)]) := (hf9 0 (by omega)).trans h_6
  have hB_11 : kLog G w9 3 g := hB_7.fr (fun j q1 q2 => (hf9 j (by omega)))
  have hB_12 : kPlan G w9 32 g nl := hB_8.fr (fun j q1 q2 => (hf9 j (by omega)))
  refine k_callV hC (n_X11_carried l hls G hN w9 fl g nl sv (k : Int) T (by omega) (by omega) hI h_10 hB_11 hB_12 hCt9 (by omega)) yy_X11_carried wm_L_167 (kl hN (by decide)) h_10 rfl rfl rfl rfl (Nat.le_of_ble_eq_true rfl) (by decide) (by decide) ⟨by decide, by decide⟩ dL_far_42 (fun v13 w13 fl13 hp13 => ?_)
  obtain ⟨-, q1, q2, hp13⟩ := hp13
  subst q1
  subst q2
  obtain ⟨hCt13, hf13⟩ := hp13
  show KW p l e R s m args below meth c 8 G Q w13 fl 0 0 45 [(7, vI (aziM g k)), (0, .ref (kad G 0)), (1, vI (k : Int)), (2, vI T), (3, vL e9), (5, vL n9)] [vI (carM g (k : Int).toNat T), vL (along e9 n9 (sinM (aziM g k)) (cosM (aziM g k)))]
  refine k_topv (vI (carM g k T)) rfl ?_
  refine k_i2l hC dL_far_45 (by omega) ?_
  refine k_lsub hC dL_far_46 ?_
  refine k_mabsL hC wm_L_170 wmath_mabsL (by omega) (by decide) (Nat.le_of_ble_eq_true rfl) ⟨by decide, by decide⟩ dL_far_47 ?_
  subst hQ
  exact k_lret hC hr ⟨by decide, by decide⟩ (⟨trivial, rfl, rfl, ⟨hCt13, fun j hj => (hf13 j (by omega)).trans ((hf9 j (by omega)).trans ((hf5 j (by omega)).trans (hf1 j (by omega))))⟩⟩) dL_far_50

def al1 (g : Nat → Int) : Nat → Int
  | 0 => 0
  | k + 1 => 31 * al1 g k + g k
def al2 (g : Nat → Int) : Nat → Int
  | 0 => al1 g 9
  | k + 1 => 31 * al2 g k + g (9 + 4 * k) + 7 * g (10 + 4 * k) + cntM g k (g 2).toNat
def al3i (g : Nat → Int) (k : Nat) (v : Int) : Nat → Int
  | 0 => v
  | i + 1 => 31 * al3i g k v i + legV g k i
def al3 (g : Nat → Int) : Nat → Int
  | 0 => al2 g (g 0).toNat
  | k + 1 => al3i g k (al3 g k) 3
noncomputable def al4i (g : Nat → Int) (k : Nat) (v : Int) : Nat → Int
  | 0 => v
  | i + 1 => 31 * al4i g k v i + sightV g k i
noncomputable def al4 (g : Nat → Int) : Nat → Int
  | 0 => al3 g (g 1).toNat
  | k + 1 => al4i g k (al4 g k) 9
noncomputable def allM (g : Nat → Int) : Int := al4 g (g 2).toNat
