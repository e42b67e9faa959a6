theorem k_bI (P : Prop) [Decidable P] : ∃ z : Int, (if P then (1 : Int) else 0) = z ∧ ((z = 1 ∧ P) ∨ (z = 0 ∧ ¬ P)) := by
  by_cases h : P
  · exact ⟨1, if_pos h, Or.inl ⟨rfl, h⟩⟩
  · exact ⟨0, if_neg h, Or.inr ⟨rfl, h⟩⟩
def turnM (fx fy tx ty x y : Int) : Int := (tx - fx) * (y - fy) - (x - fx) * (ty - fy)
theorem turnM_b {fx fy tx ty x y : Int} (h1 : -1000000 ≤ fx ∧ fx ≤ 1000000) (h2 : -1000000 ≤ fy ∧ fy ≤ 1000000) (h3 : -1000000 ≤ tx ∧ tx ≤ 1000000) (h4 : -1000000 ≤ ty ∧ ty ≤ 1000000) (h5 : -1000000 ≤ x ∧ x ≤ 1000000) (h6 : -1000000 ≤ y ∧ y ≤ 1000000) : -8000000000000 ≤ turnM fx fy tx ty x y ∧ turnM fx fy tx ty x y ≤ 8000000000000 := by
  have g1 := mul_le_abs (a := tx - fx) (b := y - fy) (A := 2000000) (B := 2000000) (by omega) (by omega)
  have g2 := mul_le_abs (a := x - fx) (b := ty - fy) (A := 2000000) (B := 2000000) (by omega) (by omega)
  unfold turnM; omega
def areaM (x0 y0 x1 y1 x2 y2 : Int) : Int := ((turnM x0 y0 x1 y1 x2 y2).natAbs : Int) / 20000
abbrev besP (fx fy tx ty lx ly x y : Int) : Prop := turnM fx fy tx ty x y = 0 ∨ turnM fx fy tx ty lx ly = 0 ∨ (0 < turnM fx fy tx ty x y ↔ 0 < turnM fx fy tx ty lx ly)
abbrev holP (x0 y0 x1 y1 x2 y2 x y : Int) : Prop := besP x0 y0 x1 y1 x2 y2 x y ∧ besP x0 y0 x2 y2 x1 y1 x y ∧ besP x1 y1 x2 y2 x0 y0 x y
abbrev hatO (G : kG) (z : Int) : va_E := .inr (1, [vI z, .ref (kad G 17), .ref (kad G 18), .ref (kad G 19)])
set_option maxRecDepth 100000 in
set_option maxHeartbeats 4000000 in
theorem c_X1_turn (l : Launch) (hls : l.stackTraces = false) (G : kG) (hN : 133 ≤ kN G) (w : Nat → va_E) (fl : va_W) (a b : Nat) (z0 fx fy z1 tx ty x y : Int) (ha : a < 133) (hb : b < 133) (h_fx : -1000000 ≤ fx ∧ fx ≤ 1000000) (h_fy : -1000000 ≤ fy ∧ fy ≤ 1000000) (h_tx : -1000000 ≤ tx ∧ tx ≤ 1000000) (h_ty : -1000000 ≤ ty ∧ ty ≤ 1000000) (h_x : -1000000 ≤ x ∧ x ≤ 1000000) (h_y : -1000000 ≤ y ∧ y ≤ 1000000) (hw : w a = .inr (5, [vI z0, vI fx, vI fy])) (hv : w b = .inr (5, [vI z1, vI tx, vI ty])) : KM l G yX1_turn cX1_turn 4 (some (FieldType.long)) 0 0 0 [.ref (kad G a), .ref (kad G b), vI x, vI y] w fl (kPure (vL (turnM fx fy tx ty x y)) w fl) := by
  refine KM_of2 hls (by decide +kernel) rfl (lv0 := [(0, .ref (kad G a)), (1, .ref (kad G b)), (2, vI x), (3, vI y)]) rfl (Nat.le_of_ble_eq_true rfl) (fun p e R s m args below meth c Q hC hr hQ => ?_)
  refine k_aload_n hC dX1_turn_0 rfl 1 rfl ?_
  refine k_get hC fd_X1_31 (kl hN (by omega)) hv rfl dX1_turn_1 ?_
  refine k_aload_n hC dX1_turn_4 rfl 0 rfl ?_
  refine k_get hC fd_X1_31 (kl hN (by omega)) hw rfl dX1_turn_5 ?_
  refine k_isub hC dX1_turn_8 ?_
  refine k_i2l hC dX1_turn_9 (by omega) ?_
  refine k_iload_n hC dX1_turn_10 rfl 3 rfl ?_
  refine k_aload_n hC dX1_turn_11 rfl 0 rfl ?_
  refine k_get hC fd_X1_35 (kl hN (by omega)) hw rfl dX1_turn_12 ?_
  refine k_isub hC dX1_turn_15 ?_
  refine k_i2l hC dX1_turn_16 (by omega) ?_
  refine k_lmul hC dX1_turn_17 ?_
  refine k_iload_n hC dX1_turn_18 rfl 2 rfl ?_
  refine k_aload_n hC dX1_turn_19 rfl 0 rfl ?_
  refine k_get hC fd_X1_31 (kl hN (by omega)) hw rfl dX1_turn_20 ?_
  refine k_isub hC dX1_turn_23 ?_
  refine k_i2l hC dX1_turn_24 (by omega) ?_
  refine k_aload_n hC dX1_turn_25 rfl 1 rfl ?_
  refine k_get hC fd_X1_35 (kl hN (by omega)) hv rfl dX1_turn_26 ?_
  refine k_aload_n hC dX1_turn_29 rfl 0 rfl ?_
  refine k_get hC fd_X1_35 (kl hN (by omega)) hw rfl dX1_turn_30 ?_
  refine k_isub hC dX1_turn_33 ?_
  refine k_i2l hC dX1_turn_34 (by omega) ?_
  refine k_lmul hC dX1_turn_35 ?_
  refine k_lsub hC dX1_turn_36 ?_
  subst hQ
  exact k_lret hC hr ⟨by decide, by decide⟩ (⟨congrArg (fun z => some (vL z)) (show (turnM fx fy tx ty x y : Int) = ((tx - fx) * (y - fy)) - ((x - fx) * (ty - fy)) from rfl), rfl, rfl⟩) dX1_turn_37

set_option maxRecDepth 100000 in
set_option maxHeartbeats 4000000 in
theorem c_X1_squareMiles (l : Launch) (hls : l.stackTraces = false) (G : kG) (hN : 133 ≤ kN G) (w : Nat → va_E) (fl : va_W) (z z0 x0 y0 z1 x1 y1 z2 x2 y2 : Int) (h_x0 : -1000000 ≤ x0 ∧ x0 ≤ 1000000) (h_y0 : -1000000 ≤ y0 ∧ y0 ≤ 1000000) (h_x1 : -1000000 ≤ x1 ∧ x1 ≤ 1000000) (h_y1 : -1000000 ≤ y1 ∧ y1 ≤ 1000000) (h_x2 : -1000000 ≤ x2 ∧ x2 ≤ 1000000) (h_y2 : -1000000 ≤ y2 ∧ y2 ≤ 1000000) (h16 : w 16 = .inr (1, [vI z, .ref (kad G 17), .ref (kad G 18), .ref (kad G 19)])) (h17 : w 17 = .inr (5, [vI z0, vI x0, vI y0])) (h18 : w 18 = .inr (5, [vI z1, vI x1, vI y1])) (h19 : w 19 = .inr (5, [vI z2, vI x2, vI y2])) : KM l G yX1_squareMiles cX1_squareMiles 1 (some (FieldType.int)) 2 0 0 [.ref (kad G 16)] w fl (kPure (vI (areaM x0 y0 x1 y1 x2 y2)) w fl) := by
  refine KM_of2 hls (by decide +kernel) rfl (lv0 := [(0, .ref (kad G 16))]) rfl (Nat.le_of_ble_eq_true rfl) (fun p e R s m args below meth c Q hC hr hQ => ?_)
  refine k_aload_n hC dX1_squareMiles_0 rfl 0 rfl ?_
  refine k_get hC fd_X1_10 (kl hN (by decide)) h16 rfl dX1_squareMiles_1 ?_
  refine k_aload_n hC dX1_squareMiles_4 rfl 0 rfl ?_
  refine k_get hC fd_X1_16 (kl hN (by decide)) h16 rfl dX1_squareMiles_5 ?_
  refine k_aload_n hC dX1_squareMiles_8 rfl 0 rfl ?_
  refine k_get hC fd_X1_19 (kl hN (by decide)) h16 rfl dX1_squareMiles_9 ?_
  refine k_get hC fd_X1_31 (kl hN (by decide)) h19 rfl dX1_squareMiles_12 ?_
  refine k_aload_n hC dX1_squareMiles_15 rfl 0 rfl ?_
  refine k_get hC fd_X1_19 (kl hN (by decide)) h16 rfl dX1_squareMiles_16 ?_
  refine k_get hC fd_X1_35 (kl hN (by decide)) h19 rfl dX1_squareMiles_19 ?_
  refine k_pureS hC (c_X1_turn l hls G hN w fl 17 18 z0 x0 y0 z1 x1 y1 x2 y2 (by decide) (by decide) (by omega) (by omega) (by omega) (by omega) (by omega) (by omega) h17 h18) yy_X1_turn wm_X1_38 rfl rfl (Nat.le_of_ble_eq_true rfl) (by decide) (by decide) ⟨by decide, by decide⟩ dX1_squareMiles_22 ?_
  have hb_1 := turnM_b (fx := x0) (fy := y0) (tx := x1) (ty := y1) (x := x2) (y := y2) (by omega) (by omega) (by omega) (by omega) (by omega) (by omega)
  refine k_mabsL hC wm_X1_42 wmath_mabsL (by omega) (by decide) (Nat.le_of_ble_eq_true rfl) ⟨by decide, by decide⟩ dX1_squareMiles_25 ?_
  refine k_ldc2 hC (x := 20000) (v := 20000) dX1_squareMiles_28 (by decide) wk_X1_48 ?_
  refine k_pureSN hC (c_X11_down l hls G hN w fl ((turnM x0 y0 x1 y1 x2 y2).natAbs : Int) 20000 (by omega) (by omega)) yy_X11_down wm_X1_50 rfl rfl (Nat.le_of_ble_eq_true rfl) (by decide) (by decide) ⟨by decide, by decide⟩ dX1_squareMiles_31 ?_
  refine k_l2i hC dX1_squareMiles_34 ?_
  subst hQ
  exact k_iret hC hr ⟨by decide, by decide⟩ (⟨congrArg (fun z => some (vI z)) (show (areaM x0 y0 x1 y1 x2 y2 : Int) = (((turnM x0 y0 x1 y1 x2 y2).natAbs : Int)).fdiv 20000 from by unfold areaM; rw [Int.fdiv_eq_ediv_of_nonneg _ (by decide)]), rfl, rfl⟩) dX1_squareMiles_35

set_option maxRecDepth 100000 in
set_option maxHeartbeats 4000000 in
theorem c_X1_middleEast (l : Launch) (hls : l.stackTraces = false) (G : kG) (hN : 133 ≤ kN G) (w : Nat → va_E) (fl : va_W) (z z0 x0 y0 z1 x1 y1 z2 x2 y2 : Int) (h_x0 : -1000000 ≤ x0 ∧ x0 ≤ 1000000) (h_y0 : -1000000 ≤ y0 ∧ y0 ≤ 1000000) (h_x1 : -1000000 ≤ x1 ∧ x1 ≤ 1000000) (h_y1 : -1000000 ≤ y1 ∧ y1 ≤ 1000000) (h_x2 : -1000000 ≤ x2 ∧ x2 ≤ 1000000) (h_y2 : -1000000 ≤ y2 ∧ y2 ≤ 1000000) (h16 : w 16 = .inr (1, [vI z, .ref (kad G 17), .ref (kad G 18), .ref (kad G 19)])) (h17 : w 17 = .inr (5, [vI z0, vI x0, vI y0])) (h18 : w 18 = .inr (5, [vI z1, vI x1, vI y1])) (h19 : w 19 = .inr (5, [vI z2, vI x2, vI y2])) : KM l G yX1_middleEast cX1_middleEast 1 (some (FieldType.int)) 2 0 0 [.ref (kad G 16)] w fl (kPure (vI ((x0 + x1 + x2) / 3)) w fl) := by
  refine KM_of2 hls (by decide +kernel) rfl (lv0 := [(0, .ref (kad G 16))]) rfl (Nat.le_of_ble_eq_true rfl) (fun p e R s m args below meth c Q hC hr hQ => ?_)
  refine k_aload_n hC dX1_middleEast_0 rfl 0 rfl ?_
  refine k_get hC fd_X1_10 (kl hN (by decide)) h16 rfl dX1_middleEast_1 ?_
  refine k_get hC fd_X1_31 (kl hN (by decide)) h17 rfl dX1_middleEast_4 ?_
  refine k_i2l hC dX1_middleEast_7 (by omega) ?_
  refine k_aload_n hC dX1_middleEast_8 rfl 0 rfl ?_
  refine k_get hC fd_X1_16 (kl hN (by decide)) h16 rfl dX1_middleEast_9 ?_
  refine k_get hC fd_X1_31 (kl hN (by decide)) h18 rfl dX1_middleEast_12 ?_
  refine k_i2l hC dX1_middleEast_15 (by omega) ?_
  refine k_ladd hC dX1_middleEast_16 ?_
  refine k_aload_n hC dX1_middleEast_17 rfl 0 rfl ?_
  refine k_get hC fd_X1_19 (kl hN (by decide)) h16 rfl dX1_middleEast_18 ?_
  refine k_get hC fd_X1_31 (kl hN (by decide)) h19 rfl dX1_middleEast_21 ?_
  refine k_i2l hC dX1_middleEast_24 (by omega) ?_
  refine k_ladd hC dX1_middleEast_25 ?_
  refine k_ldc2 hC (x := 3) (v := 3) dX1_middleEast_26 (by decide) wk_X1_56 ?_
  refine k_pureSN hC (c_X11_down l hls G hN w fl ((x0 + x1) + x2) 3 (by omega) (by omega)) yy_X11_down wm_X1_50 rfl rfl (Nat.le_of_ble_eq_true rfl) (by decide) (by decide) ⟨by decide, by decide⟩ dX1_middleEast_29 ?_
  refine k_l2i hC dX1_middleEast_32 ?_
  subst hQ
  exact k_iret hC hr ⟨by decide, by decide⟩ (⟨congrArg (fun z => some (vI z)) (show ((x0 + x1 + x2) / 3 : Int) = ((x0 + x1) + x2).fdiv 3 from by rw [Int.fdiv_eq_ediv_of_nonneg _ (by decide)]), rfl, rfl⟩) dX1_middleEast_33

set_option maxRecDepth 100000 in
set_option maxHeartbeats 4000000 in
theorem c_X1_middleNorth (l : Launch) (hls : l.stackTraces = false) (G : kG) (hN : 133 ≤ kN G) (w : Nat → va_E) (fl : va_W) (z z0 x0 y0 z1 x1 y1 z2 x2 y2 : Int) (h_x0 : -1000000 ≤ x0 ∧ x0 ≤ 1000000) (h_y0 : -1000000 ≤ y0 ∧ y0 ≤ 1000000) (h_x1 : -1000000 ≤ x1 ∧ x1 ≤ 1000000) (h_y1 : -1000000 ≤ y1 ∧ y1 ≤ 1000000) (h_x2 : -1000000 ≤ x2 ∧ x2 ≤ 1000000) (h_y2 : -1000000 ≤ y2 ∧ y2 ≤ 1000000) (h16 : w 16 = .inr (1, [vI z, .ref (kad G 17), .ref (kad G 18), .ref (kad G 19)])) (h17 : w 17 = .inr (5, [vI z0, vI x0, vI y0])) (h18 : w 18 = .inr (5, [vI z1, vI x1, vI y1])) (h19 : w 19 = .inr (5, [vI z2, vI x2, vI y2])) : KM l G yX1_middleNorth cX1_middleNorth 1 (some (FieldType.int)) 2 0 0 [.ref (kad G 16)] w fl (kPure (vI ((y0 + y1 + y2) / 3)) w fl) := by
  refine KM_of2 hls (by decide +kernel) rfl (lv0 := [(0, .ref (kad G 16))]) rfl (Nat.le_of_ble_eq_true rfl) (fun p e R s m args below meth c Q hC hr hQ => ?_)
  refine k_aload_n hC dX1_middleNorth_0 rfl 0 rfl ?_
  refine k_get hC fd_X1_10 (kl hN (by decide)) h16 rfl dX1_middleNorth_1 ?_
  refine k_get hC fd_X1_35 (kl hN (by decide)) h17 rfl dX1_middleNorth_4 ?_
  refine k_i2l hC dX1_middleNorth_7 (by omega) ?_
  refine k_aload_n hC dX1_middleNorth_8 rfl 0 rfl ?_
  refine k_get hC fd_X1_16 (kl hN (by decide)) h16 rfl dX1_middleNorth_9 ?_
  refine k_get hC fd_X1_35 (kl hN (by decide)) h18 rfl dX1_middleNorth_12 ?_
  refine k_i2l hC dX1_middleNorth_15 (by omega) ?_
  refine k_ladd hC dX1_middleNorth_16 ?_
  refine k_aload_n hC dX1_middleNorth_17 rfl 0 rfl ?_
  refine k_get hC fd_X1_19 (kl hN (by decide)) h16 rfl dX1_middleNorth_18 ?_
  refine k_get hC fd_X1_35 (kl hN (by decide)) h19 rfl dX1_middleNorth_21 ?_
  refine k_i2l hC dX1_middleNorth_24 (by omega) ?_
  refine k_ladd hC dX1_middleNorth_25 ?_
  refine k_ldc2 hC (x := 3) (v := 3) dX1_middleNorth_26 (by decide) wk_X1_56 ?_
  refine k_pureSN hC (c_X11_down l hls G hN w fl ((y0 + y1) + y2) 3 (by omega) (by omega)) yy_X11_down wm_X1_50 rfl rfl (Nat.le_of_ble_eq_true rfl) (by decide) (by decide) ⟨by decide, by decide⟩ dX1_middleNorth_29 ?_
  refine k_l2i hC dX1_middleNorth_32 ?_
  subst hQ
  exact k_iret hC hr ⟨by decide, by decide⟩ (⟨congrArg (fun z => some (vI z)) (show ((y0 + y1 + y2) / 3 : Int) = ((y0 + y1) + y2).fdiv 3 from by rw [Int.fdiv_eq_ediv_of_nonneg _ (by decide)]), rfl, rfl⟩) dX1_middleNorth_33

set_option maxRecDepth 100000 in
set_option maxHeartbeats 4000000 in
theorem c_X1_isBeside (l : Launch) (hls : l.stackTraces = false) (G : kG) (hN : 133 ≤ kN G) (w : Nat → va_E) (fl : va_W) (a b d : Nat) (z0 fx fy z1 tx ty z2 lx ly x y : Int) (ha : a < 133) (hb : b < 133) (hd : d < 133) (h_fx : -1000000 ≤ fx ∧ fx ≤ 1000000) (h_fy : -1000000 ≤ fy ∧ fy ≤ 1000000) (h_tx : -1000000 ≤ tx ∧ tx ≤ 1000000) (h_ty : -1000000 ≤ ty ∧ ty ≤ 1000000) (h_lx : -1000000 ≤ lx ∧ lx ≤ 1000000) (h_ly : -1000000 ≤ ly ∧ ly ≤ 1000000) (h_x : -1000000 ≤ x ∧ x ≤ 1000000) (h_y : -1000000 ≤ y ∧ y ≤ 1000000) (hw : w a = .inr (5, [vI z0, vI fx, vI fy])) (hv : w b = .inr (5, [vI z1, vI tx, vI ty])) (hu : w d = .inr (5, [vI z2, vI lx, vI ly])) : KM l G yX1_isBeside cX1_isBeside 9 (some (FieldType.boolean)) 1 0 0 [.ref (kad G a), .ref (kad G b), .ref (kad G d), vI x, vI y] w fl (kPure (vI (if besP fx fy tx ty lx ly x y then 1 else 0)) w fl) := by
  refine KM_of2 hls (by decide +kernel) rfl (lv0 := [(0, .ref (kad G a)), (1, .ref (kad G b)), (2, .ref (kad G d)), (3, vI x), (4, vI y)]) rfl (Nat.le_of_ble_eq_true rfl) (fun p e R s m args below meth c Q hC hr hQ => ?_)
  refine k_aload_n hC dX1_isBeside_0 rfl 0 rfl ?_
  refine k_aload_n hC dX1_isBeside_1 rfl 1 rfl ?_
  refine k_iload_n hC dX1_isBeside_2 rfl 3 rfl ?_
  refine k_iload hC dX1_isBeside_3 4 rfl ?_
  refine k_pureS hC (c_X1_turn l hls G hN w fl a b z0 fx fy z1 tx ty x y (by omega) (by omega) (by omega) (by omega) (by omega) (by omega) (by omega) (by omega) hw hv) yy_X1_turn wm_X1_38 rfl rfl (Nat.le_of_ble_eq_true rfl) (by decide) (by decide) ⟨by decide, by decide⟩ dX1_isBeside_5 ?_
  have hb_1 := turnM_b (fx := fx) (fy := fy) (tx := tx) (ty := ty) (x := x) (y := y) (by omega) (by omega) (by omega) (by omega) (by omega) (by omega)
  refine k_topL (fun tp etp => ?_)
  refine k_lstore hC [(5, vL tp), (0, .ref (kad G a)), (1, .ref (kad G b)), (2, .ref (kad G d)), (3, vI x), (4, vI y)] dX1_isBeside_8 (by decide) rfl ?_
  refine k_aload_n hC dX1_isBeside_10 rfl 1 rfl ?_
  refine k_aload_n hC dX1_isBeside_11 rfl 2 rfl ?_
  refine k_aload_n hC dX1_isBeside_12 rfl 3 rfl ?_
  refine k_get hC fd_X1_31 (kl hN (by omega)) hu rfl dX1_isBeside_13 ?_
  refine k_aload_n hC dX1_isBeside_16 rfl 3 rfl ?_
  refine k_get hC fd_X1_35 (kl hN (by omega)) hu rfl dX1_isBeside_17 ?_
  refine k_pureS hC (c_X1_turn l hls G hN w fl a b z0 fx fy z1 tx ty lx ly (by omega) (by omega) (by omega) (by omega) (by omega) (by omega) (by omega) (by omega) hw hv) yy_X1_turn wm_X1_38 rfl rfl (Nat.le_of_ble_eq_true rfl) (by decide) (by decide) ⟨by decide, by decide⟩ dX1_isBeside_20 ?_
  have hb_2 := turnM_b (fx := fx) (fy := fy) (tx := tx) (ty := ty) (x := lx) (y := ly) (by omega) (by omega) (by omega) (by omega) (by omega) (by omega)
  refine k_topL (fun tl etl => ?_)
  refine k_lstore hC [(7, vL tl), (5, vL tp), (0, .ref (kad G a)), (1, .ref (kad G b)), (2, .ref (kad G d)), (3, vI x), (4, vI y)] dX1_isBeside_23 (by decide) rfl ?_
  refine k_lload hC dX1_isBeside_25 1 rfl ?_
  refine k_lconst (x := 0) hC dX1_isBeside_27 (by decide) ?_
  refine k_lcmp_eq hC 66 dX1_isBeside_28 dX1_isBeside_29 rfl (by omega) (by omega) (fun c_28 => ?_) (fun c_28 => ?_)
  · refine k_iconst hC dX1_isBeside_66 ?_
    refine k_goto hC 71 dX1_isBeside_67 rfl ?_
    subst hQ
    exact k_zret hC (by omega) hr ⟨by decide, by decide⟩ (⟨congrArg (fun z => some (vI z)) (show (if besP fx fy tx ty lx ly x y then 1 else 0 : Int) = 1 from by unfold besP; rw [← etp, ← etl]; first | rw [if_pos (by omega)] | rw [if_neg (by omega)]), rfl, rfl⟩) dX1_isBeside_71
  · refine k_lload hC dX1_isBeside_32 0 rfl ?_
    refine k_lconst (x := 0) hC dX1_isBeside_34 (by decide) ?_
    refine k_lcmp_eq hC 66 dX1_isBeside_35 dX1_isBeside_36 rfl (by omega) (by omega) (fun c_35 => ?_) (fun c_35 => ?_)
    · refine k_iconst hC dX1_isBeside_66 ?_
      refine k_goto hC 71 dX1_isBeside_67 rfl ?_
      subst hQ
      exact k_zret hC (by omega) hr ⟨by decide, by decide⟩ (⟨congrArg (fun z => some (vI z)) (show (if besP fx fy tx ty lx ly x y then 1 else 0 : Int) = 1 from by unfold besP; rw [← etp, ← etl]; first | rw [if_pos (by omega)] | rw [if_neg (by omega)]), rfl, rfl⟩) dX1_isBeside_71
    · refine k_lload hC dX1_isBeside_39 1 rfl ?_
      refine k_lconst (x := 0) hC dX1_isBeside_41 (by decide) ?_
      refine k_lcmp_le hC 50 dX1_isBeside_42 dX1_isBeside_43 rfl (by omega) (by omega) (fun c_42 => ?_) (fun c_42 => ?_)
      · refine k_iconst hC dX1_isBeside_50 ?_
        refine k_lload hC dX1_isBeside_51 0 rfl ?_
        refine k_lconst (x := 0) hC dX1_isBeside_53 (by decide) ?_
        refine k_lcmp_le hC 62 dX1_isBeside_54 dX1_isBeside_55 rfl (by omega) (by omega) (fun c_54 => ?_) (fun c_54 => ?_)
        · refine k_iconst hC dX1_isBeside_62 ?_
          refine k_icmp_ne hC 70 dX1_isBeside_63 rfl (by omega) (by omega) (fun c_63 => absurd c_63 (by omega)) (fun c_63 => ?_)
          refine k_iconst hC dX1_isBeside_66 ?_
          refine k_goto hC 71 dX1_isBeside_67 rfl ?_
          subst hQ
          exact k_zret hC (by omega) hr ⟨by decide, by decide⟩ (⟨congrArg (fun z => some (vI z)) (show (if besP fx fy tx ty lx ly x y then 1 else 0 : Int) = 1 from by unfold besP; rw [← etp, ← etl]; first | rw [if_pos (by omega)] | rw [if_neg (by omega)]), rfl, rfl⟩) dX1_isBeside_71
        · refine k_iconst hC dX1_isBeside_58 ?_
          refine k_goto hC 63 dX1_isBeside_59 rfl ?_
          refine k_icmp_ne hC 70 dX1_isBeside_63 rfl (by omega) (by omega) (fun c_63 => ?_) (fun c_63 => absurd c_63 (by omega))
          refine k_iconst hC dX1_isBeside_70 ?_
          subst hQ
          exact k_zret hC (by omega) hr ⟨by decide, by decide⟩ (⟨congrArg (fun z => some (vI z)) (show (if besP fx fy tx ty lx ly x y then 1 else 0 : Int) = 0 from by unfold besP; rw [← etp, ← etl]; first | rw [if_pos (by omega)] | rw [if_neg (by omega)]), rfl, rfl⟩) dX1_isBeside_71
      · refine k_iconst hC dX1_isBeside_46 ?_
        refine k_goto hC 51 dX1_isBeside_47 rfl ?_
        refine k_lload hC dX1_isBeside_51 0 rfl ?_
        refine k_lconst (x := 0) hC dX1_isBeside_53 (by decide) ?_
        refine k_lcmp_le hC 62 dX1_isBeside_54 dX1_isBeside_55 rfl (by omega) (by omega) (fun c_54 => ?_) (fun c_54 => ?_)
        · refine k_iconst hC dX1_isBeside_62 ?_
          refine k_icmp_ne hC 70 dX1_isBeside_63 rfl (by omega) (by omega) (fun c_63 => ?_) (fun c_63 => absurd c_63 (by omega))
          refine k_iconst hC dX1_isBeside_70 ?_
          subst hQ
          exact k_zret hC (by omega) hr ⟨by decide, by decide⟩ (⟨congrArg (fun z => some (vI z)) (show (if besP fx fy tx ty lx ly x y then 1 else 0 : Int) = 0 from by unfold besP; rw [← etp, ← etl]; first | rw [if_pos (by omega)] | rw [if_neg (by omega)]), rfl, rfl⟩) dX1_isBeside_71
        · refine k_iconst hC dX1_isBeside_58 ?_
          refine k_goto hC 63 dX1_isBeside_59 rfl ?_
          refine k_icmp_ne hC 70 dX1_isBeside_63 rfl (by omega) (by omega) (fun c_63 => absurd c_63 (by omega)) (fun c_63 => ?_)
          refine k_iconst hC dX1_isBeside_66 ?_
          refine k_goto hC 71 dX1_isBeside_67 rfl ?_
          subst hQ
          exact k_zret hC (by omega) hr ⟨by decide, by decide⟩ (⟨congrArg (fun z => some (vI z)) (show (if besP fx fy tx ty lx ly x y then 1 else 0 : Int) = 1 from by unfold besP; rw [← etp, ← etl]; first | rw [if_pos (by omega)] | rw [if_neg (by omega)]), rfl, rfl⟩) dX1_isBeside_71

set_option maxRecDepth 100000 in
set_option maxHeartbeats 4000000 in
theorem c_X1_holds (l : Launch) (hls : l.stackTraces = false) (G : kG) (hN : 133 ≤ kN G) (w : Nat → va_E) (fl : va_W) (z z0 x0 y0 z1 x1 y1 z2 x2 y2 x y : Int) (h_x0 : -1000000 ≤ x0 ∧ x0 ≤ 1000000) (h_y0 : -1000000 ≤ y0 ∧ y0 ≤ 1000000) (h_x1 : -1000000 ≤ x1 ∧ x1 ≤ 1000000) (h_y1 : -1000000 ≤ y1 ∧ y1 ≤ 1000000) (h_x2 : -1000000 ≤ x2 ∧ x2 ≤ 1000000) (h_y2 : -1000000 ≤ y2 ∧ y2 ≤ 1000000) (h_x : -1000000 ≤ x ∧ x ≤ 1000000) (h_y : -1000000 ≤ y ∧ y ≤ 1000000) (h16 : w 16 = .inr (1, [vI z, .ref (kad G 17), .ref (kad G 18), .ref (kad G 19)])) (h17 : w 17 = .inr (5, [vI z0, vI x0, vI y0])) (h18 : w 18 = .inr (5, [vI z1, vI x1, vI y1])) (h19 : w 19 = .inr (5, [vI z2, vI x2, vI y2])) : KM l G yX1_holds cX1_holds 3 (some (FieldType.boolean)) 2 0 0 [.ref (kad G 16), vI x, vI y] w fl (kPure (vI (if holP x0 y0 x1 y1 x2 y2 x y then 1 else 0)) w fl) := by
  refine KM_of2 hls (by decide +kernel) rfl (lv0 := [(0, .ref (kad G 16)), (1, vI x), (2, vI y)]) rfl (Nat.le_of_ble_eq_true rfl) (fun p e R s m args below meth c Q hC hr hQ => ?_)
  refine k_aload_n hC dX1_holds_0 rfl 0 rfl ?_
  refine k_get hC fd_X1_10 (kl hN (by decide)) h16 rfl dX1_holds_1 ?_
  refine k_aload_n hC dX1_holds_4 rfl 0 rfl ?_
  refine k_get hC fd_X1_16 (kl hN (by decide)) h16 rfl dX1_holds_5 ?_
  refine k_aload_n hC dX1_holds_8 rfl 0 rfl ?_
  refine k_get hC fd_X1_19 (kl hN (by decide)) h16 rfl dX1_holds_9 ?_
  refine k_iload_n hC dX1_holds_12 rfl 1 rfl ?_
  refine k_iload_n hC dX1_holds_13 rfl 2 rfl ?_
  refine k_pureS hC (c_X1_isBeside l hls G hN w fl 17 18 19 z0 x0 y0 z1 x1 y1 z2 x2 y2 x y (by decide) (by decide) (by decide) (by omega) (by omega) (by omega) (by omega) (by omega) (by omega) (by omega) (by omega) h17 h18 h19 ) yy_X1_isBeside wm_X1_58 rfl rfl (Nat.le_of_ble_eq_true rfl) (by decide) (by decide) ⟨by decide, by decide⟩ dX1_holds_14 ?_
  obtain ⟨z_1, ez_1, hz_1⟩ := k_bI (besP x0 y0 x1 y1 x2 y2 x y)
  refine k_topv (vI z_1) (by rw [ez_1]) ?_
  refine k_if_eq hC 64 dX1_holds_17 rfl (by omega) (fun c_17 => ?_) (fun c_17 => ?_)
  · refine k_iconst hC dX1_holds_64 ?_
    subst hQ
    exact k_zret hC (by omega) hr ⟨by decide, by decide⟩ (⟨congrArg (fun z => some (vI z)) (show (if holP x0 y0 x1 y1 x2 y2 x y then 1 else 0 : Int) = 0 from by first | exact if_pos ⟨(hz_1.resolve_right (fun q => c_17 q.1)).2, (hz_2.resolve_right (fun q => c_37 q.1)).2, (hz_3.resolve_right (fun q => c_57 q.1)).2⟩ | exact if_neg (fun q => (hz_3.resolve_left (fun q1 => by omega)).2 q.2.2) | exact if_neg (fun q => (hz_2.resolve_left (fun q1 => by omega)).2 q.2.1) | exact if_neg (fun q => (hz_1.resolve_left (fun q1 => by omega)).2 q.1)), rfl, rfl⟩) dX1_holds_65
  · refine k_aload_n hC dX1_holds_20 rfl 0 rfl ?_
    refine k_get hC fd_X1_10 (kl hN (by decide)) h16 rfl dX1_holds_21 ?_
    refine k_aload_n hC dX1_holds_24 rfl 0 rfl ?_
    refine k_get hC fd_X1_19 (kl hN (by decide)) h16 rfl dX1_holds_25 ?_
    refine k_aload_n hC dX1_holds_28 rfl 0 rfl ?_
    refine k_get hC fd_X1_16 (kl hN (by decide)) h16 rfl dX1_holds_29 ?_
    refine k_iload_n hC dX1_holds_32 rfl 1 rfl ?_
    refine k_iload_n hC dX1_holds_33 rfl 2 rfl ?_
    refine k_pureS hC (c_X1_isBeside l hls G hN w fl 17 19 18 z0 x0 y0 z2 x2 y2 z1 x1 y1 x y (by decide) (by decide) (by decide) (by omega) (by omega) (by omega) (by omega) (by omega) (by omega) (by omega) (by omega) h17 h19 h18 ) yy_X1_isBeside wm_X1_58 rfl rfl (Nat.le_of_ble_eq_true rfl) (by decide) (by decide) ⟨by decide, by decide⟩ dX1_holds_34 ?_
    obtain ⟨z_2, ez_2, hz_2⟩ := k_bI (besP x0 y0 x2 y2 x1 y1 x y)
    refine k_topv (vI z_2) (by rw [ez_2]) ?_
    refine k_if_eq hC 64 dX1_holds_37 rfl (by omega) (fun c_37 => ?_) (fun c_37 => ?_)
    · refine k_iconst hC dX1_holds_64 ?_
      subst hQ
      exact k_zret hC (by omega) hr ⟨by decide, by decide⟩ (⟨congrArg (fun z => some (vI z)) (show (if holP x0 y0 x1 y1 x2 y2 x y then 1 else 0 : Int) = 0 from by first | exact if_pos ⟨(hz_1.resolve_right (fun q => c_17 q.1)).2, (hz_2.resolve_right (fun q => c_37 q.1)).2, (hz_3.resolve_right (fun q => c_57 q.1)).2⟩ | exact if_neg (fun q => (hz_3.resolve_left (fun q1 => by omega)).2 q.2.2) | exact if_neg (fun q => (hz_2.resolve_left (fun q1 => by omega)).2 q.2.1) | exact if_neg (fun q => (hz_1.resolve_left (fun q1 => by omega)).2 q.1)), rfl, rfl⟩) dX1_holds_65
    · refine k_aload_n hC dX1_holds_40 rfl 0 rfl ?_
      refine k_get hC fd_X1_16 (kl hN (by decide)) h16 rfl dX1_holds_41 ?_
      refine k_aload_n hC dX1_holds_44 rfl 0 rfl ?_
      refine k_get hC fd_X1_19 (kl hN (by decide)) h16 rfl dX1_holds_45 ?_
      refine k_aload_n hC dX1_holds_48 rfl 0 rfl ?_
      refine k_get hC fd_X1_10 (kl hN (by decide)) h16 rfl dX1_holds_49 ?_
      refine k_iload_n hC dX1_holds_52 rfl 1 rfl ?_
      refine k_iload_n hC dX1_holds_53 rfl 2 rfl ?_
      refine k_pureS hC (c_X1_isBeside l hls G hN w fl 18 19 17 z1 x1 y1 z2 x2 y2 z0 x0 y0 x y (by decide) (by decide) (by decide) (by omega) (by omega) (by omega) (by omega) (by omega) (by omega) (by omega) (by omega) h18 h19 h17 ) yy_X1_isBeside wm_X1_58 rfl rfl (Nat.le_of_ble_eq_true rfl) (by decide) (by decide) ⟨by decide, by decide⟩ dX1_holds_54 ?_
      obtain ⟨z_3, ez_3, hz_3⟩ := k_bI (besP x1 y1 x2 y2 x0 y0 x y)
      refine k_topv (vI z_3) (by rw [ez_3]) ?_
      refine k_if_eq hC 64 dX1_holds_57 rfl (by omega) (fun c_57 => ?_) (fun c_57 => ?_)
      · refine k_iconst hC dX1_holds_64 ?_
        subst hQ
        exact k_zret hC (by omega) hr ⟨by decide, by decide⟩ (⟨congrArg (fun z => some (vI z)) (show (if holP x0 y0 x1 y1 x2 y2 x y then 1 else 0 : Int) = 0 from by first | exact if_pos ⟨(hz_1.resolve_right (fun q => c_17 q.1)).2, (hz_2.resolve_right (fun q => c_37 q.1)).2, (hz_3.resolve_right (fun q => c_57 q.1)).2⟩ | exact if_neg (fun q => (hz_3.resolve_left (fun q1 => by omega)).2 q.2.2) | exact if_neg (fun q => (hz_2.resolve_left (fun q1 => by omega)).2 q.2.1) | exact if_neg (fun q => (hz_1.resolve_left (fun q1 => by omega)).2 q.1)), rfl, rfl⟩) dX1_holds_65
      · refine k_iconst hC dX1_holds_60 ?_
        refine k_goto hC 65 dX1_holds_61 rfl ?_
        subst hQ
        exact k_zret hC (by omega) hr ⟨by decide, by decide⟩ (⟨congrArg (fun z => some (vI z)) (show (if holP x0 y0 x1 y1 x2 y2 x y then 1 else 0 : Int) = 1 from by first | exact if_pos ⟨(hz_1.resolve_right (fun q => c_17 q.1)).2, (hz_2.resolve_right (fun q => c_37 q.1)).2, (hz_3.resolve_right (fun q => c_57 q.1)).2⟩ | exact if_neg (fun q => (hz_3.resolve_left (fun q1 => by omega)).2 q.2.2) | exact if_neg (fun q => (hz_2.resolve_left (fun q1 => by omega)).2 q.2.1) | exact if_neg (fun q => (hz_1.resolve_left (fun q1 => by omega)).2 q.1)), rfl, rfl⟩) dX1_holds_65

set_option maxRecDepth 100000 in
set_option maxHeartbeats 4000000 in
theorem c_X1_span (l : Launch) (hls : l.stackTraces = false) (G : kG) (hN : 133 ≤ kN G) (w : Nat → va_E) (fl : va_W) (k1 k2 k3 : Nat) (z z0 x0 y0 z1 x1 y1 z2 x2 y2 a0 a1 a2 a3 a4 a5 v sa ca b0 b1 b2 b3 b4 b5 u sb cb d0 d1 d2 d3 d4 d5 t sd cd : Int) (hk1 : 20 ≤ k1 ∧ k1 < 133) (hk2 : 20 ≤ k2 ∧ k2 < 133) (hk3 : 20 ≤ k3 ∧ k3 < 133) (hb0 : -4300000 ≤ v ∧ v ≤ 4300000) (hb1 : -4300000 ≤ u ∧ u ≤ 4300000) (hb2 : -4300000 ≤ t ∧ t ≤ 4300000) (h_sa : -1000000 ≤ sa ∧ sa ≤ 1000000) (h_ca : -1000000 ≤ ca ∧ ca ≤ 1000000) (h_sb : -1000000 ≤ sb ∧ sb ≤ 1000000) (h_cb : -1000000 ≤ cb ∧ cb ≤ 1000000) (h_sd : -1000000 ≤ sd ∧ sd ≤ 1000000) (h_cd : -1000000 ≤ cd ∧ cd ≤ 1000000) (h16 : w 16 = .inr (1, [vI z, .ref (kad G 17), .ref (kad G 18), .ref (kad G 19)])) (h17 : w 17 = .inr (5, [vI z0, vI x0, vI y0])) (h18 : w 18 = .inr (5, [vI z1, vI x1, vI y1])) (h19 : w 19 = .inr (5, [vI z2, vI x2, vI y2])) (g1 : w k1 = .inr (3, [vI a0, vI a1, vI a2, vI a3, vI a4, vI a5, vI v, vI sa, vI ca])) (g2 : w k2 = .inr (3, [vI b0, vI b1, vI b2, vI b3, vI b4, vI b5, vI u, vI sb, vI cb])) (g3 : w k3 = .inr (3, [vI d0, vI d1, vI d2, vI d3, vI d4, vI d5, vI t, vI sd, vI cd])) : KM l G yX1_span cX1_span 4 (none) 4 0 0 [.ref (kad G 16), .ref (kad G k1), .ref (kad G k2), .ref (kad G k3)] w fl (kMuv fl (fun w1 => w1 16 = hatO G (if crOK (crDet sa ca sb cb) ∧ crOK (crDet sa ca sd cd) ∧ crOK (crDet sb cb sd cd) then 1 else 0) ∧ w1 17 = plO v sa ca u sb cb z0 x0 y0 ∧ w1 18 = plO v sa ca t sd cd z1 x1 y1 ∧ w1 19 = plO u sb cb t sd cd z2 x2 y2 ∧ ∀ j, (j < 16 ∨ 19 < j) → w1 j = w j)) := by
  refine KM_of2 hls (by decide +kernel) rfl (lv0 := [(0, .ref (kad G 16)), (1, .ref (kad G k1)), (2, .ref (kad G k2)), (3, .ref (kad G k3))]) rfl (Nat.le_of_ble_eq_true rfl) (fun p e R s m args below meth c Q hC hr hQ => ?_)
  refine k_aload_n hC dX1_span_0 rfl 0 rfl ?_
  refine k_get hC fd_X1_10 (kl hN (by decide)) h16 rfl dX1_span_1 ?_
  refine k_aload_n hC dX1_span_4 rfl 1 rfl ?_
  refine k_aload_n hC dX1_span_5 rfl 2 rfl ?_
  refine k_muvV hC (c_X5_cross l hls G hN w fl 17 k1 k2 z0 x0 y0 a0 a1 a2 a3 a4 a5 v sa ca b0 b1 b2 b3 b4 b5 u sb cb (by decide) (by omega) (by omega) (by omega) (by omega) (by omega) (by omega) (by omega) (by omega) h17 g1 g2) yy_X5_cross wm_X1_22 (kl hN (by decide)) h17 rfl rfl rfl rfl (Nat.le_of_ble_eq_true rfl) (by decide) (by decide) ⟨by decide, by decide⟩ dX1_span_6 (fun w1 hp1 => ?_)
  obtain ⟨hs1, hf1⟩ := hp1
  refine k_aload_n hC dX1_span_9 rfl 0 rfl ?_
  have h_2 : w1 16 = .inr (1, [vI z, .ref (kad G 17), .ref (kad G 18), .ref (kad G 19)]) := (hf1 16 (by decide)).trans h16
  refine k_get hC fd_X1_16 (kl hN (by decide)) h_2 rfl dX1_span_10 ?_
  refine k_aload_n hC dX1_span_13 rfl 1 rfl ?_
  refine k_aload_n hC dX1_span_14 rfl 3 rfl ?_
  have h_3 : w1 18 = .inr (5, [vI z1, vI x1, vI y1]) := (hf1 18 (by decide)).trans h18
  have h_4 : w1 k1 = .inr (3, [vI a0, vI a1, vI a2, vI a3, vI a4, vI a5, vI v, vI sa, vI ca]) := (hf1 k1 (by omega)).trans g1
  have h_5 : w1 k3 = .inr (3, [vI d0, vI d1, vI d2, vI d3, vI d4, vI d5, vI t, vI sd, vI cd]) := (hf1 k3 (by omega)).trans g3
  refine k_muvV hC (c_X5_cross l hls G hN w1 fl 18 k1 k3 z1 x1 y1 a0 a1 a2 a3 a4 a5 v sa ca d0 d1 d2 d3 d4 d5 t sd cd (by decide) (by omega) (by omega) (by omega) (by omega) (by omega) (by omega) (by omega) (by omega) h_3 h_4 h_5) yy_X5_cross wm_X1_22 (kl hN (by decide)) h_3 rfl rfl rfl rfl (Nat.le_of_ble_eq_true rfl) (by decide) (by decide) ⟨by decide, by decide⟩ dX1_span_15 (fun w6 hp6 => ?_)
  obtain ⟨hs6, hf6⟩ := hp6
  refine k_aload_n hC dX1_span_18 rfl 0 rfl ?_
  have h_7 : w6 16 = .inr (1, [vI z, .ref (kad G 17), .ref (kad G 18), .ref (kad G 19)]) := (hf6 16 (by decide)).trans h_2
  refine k_get hC fd_X1_19 (kl hN (by decide)) h_7 rfl dX1_span_19 ?_
  refine k_aload_n hC dX1_span_22 rfl 2 rfl ?_
  refine k_aload_n hC dX1_span_23 rfl 3 rfl ?_
  have h_8 : w6 19 = .inr (5, [vI z2, vI x2, vI y2]) := (hf6 19 (by decide)).trans ((hf1 19 (by decide)).trans h19)
  have h_9 : w6 k2 = .inr (3, [vI b0, vI b1, vI b2, vI b3, vI b4, vI b5, vI u, vI sb, vI cb]) := (hf6 k2 (by omega)).trans ((hf1 k2 (by omega)).trans g2)
  have h_10 : w6 k3 = .inr (3, [vI d0, vI d1, vI d2, vI d3, vI d4, vI d5, vI t, vI sd, vI cd]) := (hf6 k3 (by omega)).trans h_5
  refine k_muvV hC (c_X5_cross l hls G hN w6 fl 19 k2 k3 z2 x2 y2 b0 b1 b2 b3 b4 b5 u sb cb d0 d1 d2 d3 d4 d5 t sd cd (by decide) (by omega) (by omega) (by omega) (by omega) (by omega) (by omega) (by omega) (by omega) h_8 h_9 h_10) yy_X5_cross wm_X1_22 (kl hN (by decide)) h_8 rfl rfl rfl rfl (Nat.le_of_ble_eq_true rfl) (by decide) (by decide) ⟨by decide, by decide⟩ dX1_span_24 (fun w11 hp11 => ?_)
  obtain ⟨hs11, hf11⟩ := hp11
  refine k_aload_n hC dX1_span_27 rfl 0 rfl ?_
  refine k_aload_n hC dX1_span_28 rfl 0 rfl ?_
  have h_12 : w11 16 = .inr (1, [vI z, .ref (kad G 17), .ref (kad G 18), .ref (kad G 19)]) := (hf11 16 (by decide)).trans h_7
  refine k_get hC fd_X1_10 (kl hN (by decide)) h_12 rfl dX1_span_29 ?_
  have h_13 : w11 17 = .inr (5, [vI (if crOK (crDet sa ca sb cb) then 1 else 0), vI (if crOK (crDet sa ca sb cb) then crE v sa ca u sb cb else x0), vI (if crOK (crDet sa ca sb cb) then crN v sa ca u sb cb else y0)]) := (hf11 17 (by decide)).trans ((hf6 17 (by decide)).trans hs1)
  refine k_get hC fd_X1_26 (kl hN (by decide)) h_13 rfl dX1_span_32 ?_
  obtain ⟨z_14, ez_14, hz_14⟩ := k_bI (crOK (crDet sa ca sb cb))
  refine k_topv (vI z_14) (by rw [ez_14]) ?_
  refine k_if_eq hC 62 dX1_span_35 rfl (by omega) (fun c_35 => ?_) (fun c_35 => ?_)
  · have nok_1 := (hz_14.resolve_left (fun q1 => by omega)).2
    refine k_iconst hC dX1_span_62 ?_
    refine k_put hC fd_X1_30 (kl hN (by decide)) h_12 [vI 0, .ref (kad G 17), .ref (kad G 18), .ref (kad G 19)] rfl (Nat.le_of_ble_eq_true rfl) rfl rfl dX1_span_63 (fun w15 hw15 hf15 => ?_)
    have h_16 : w15 17 = .inr (5, [vI (if crOK (crDet sa ca sb cb) then 1 else 0), vI (if crOK (crDet sa ca sb cb) then crE v sa ca u sb cb else x0), vI (if crOK (crDet sa ca sb cb) then crN v sa ca u sb cb else y0)]) := (hf15 17 (by decide)).trans h_13
    have h_17 : w15 18 = .inr (5, [vI (if crOK (crDet sa ca sd cd) then 1 else 0), vI (if crOK (crDet sa ca sd cd) then crE v sa ca t sd cd else x1), vI (if crOK (crDet sa ca sd cd) then crN v sa ca t sd cd else y1)]) := (hf15 18 (by decide)).trans ((hf11 18 (by decide)).trans hs6)
    have h_18 : w15 19 = .inr (5, [vI (if crOK (crDet sb cb sd cd) then 1 else 0), vI (if crOK (crDet sb cb sd cd) then crE u sb cb t sd cd else x2), vI (if crOK (crDet sb cb sd cd) then crN u sb cb t sd cd else y2)]) := (hf15 19 (by decide)).trans hs11
    subst hQ
    exact k_vret hC hr ⟨by decide, by decide⟩ (⟨rfl, rfl, (by rw [hw15]; first | exact congrArg (hatO G) (if_pos ⟨ok_1, ok_2, ok_3⟩).symm | exact congrArg (hatO G) (if_neg (fun q => nok_1 q.1)).symm | exact congrArg (hatO G) (if_neg (fun q => nok_2 q.2.1)).symm | exact congrArg (hatO G) (if_neg (fun q => nok_3 q.2.2)).symm), h_16, h_17, h_18, fun j hj => (hf15 j (by omega)).trans ((hf11 j (by omega)).trans ((hf6 j (by omega)).trans (hf1 j (by omega))))⟩) dX1_span_66
  · have ok_1 := (hz_14.resolve_right (fun q1 => by omega)).2
    refine k_aload_n hC dX1_span_38 rfl 0 rfl ?_
    refine k_get hC fd_X1_16 (kl hN (by decide)) h_12 rfl dX1_span_39 ?_
    have h_19 : w11 18 = .inr (5, [vI (if crOK (crDet sa ca sd cd) then 1 else 0), vI (if crOK (crDet sa ca sd cd) then crE v sa ca t sd cd else x1), vI (if crOK (crDet sa ca sd cd) then crN v sa ca t sd cd else y1)]) := (hf11 18 (by decide)).trans hs6
    refine k_get hC fd_X1_26 (kl hN (by decide)) h_19 rfl dX1_span_42 ?_
    obtain ⟨z_20, ez_20, hz_20⟩ := k_bI (crOK (crDet sa ca sd cd))
    refine k_topv (vI z_20) (by rw [ez_20]) ?_
    refine k_if_eq hC 62 dX1_span_45 rfl (by omega) (fun c_45 => ?_) (fun c_45 => ?_)
    · have nok_2 := (hz_20.resolve_left (fun q1 => by omega)).2
      refine k_iconst hC dX1_span_62 ?_
      refine k_put hC fd_X1_30 (kl hN (by decide)) h_12 [vI 0, .ref (kad G 17), .ref (kad G 18), .ref (kad G 19)] rfl (Nat.le_of_ble_eq_true rfl) rfl rfl dX1_span_63 (fun w21 hw21 hf21 => ?_)
      have h_22 : w21 17 = .inr (5, [vI (if crOK (crDet sa ca sb cb) then 1 else 0), vI (if crOK (crDet sa ca sb cb) then crE v sa ca u sb cb else x0), vI (if crOK (crDet sa ca sb cb) then crN v sa ca u sb cb else y0)]) := (hf21 17 (by decide)).trans h_13
      have h_23 : w21 18 = .inr (5, [vI (if crOK (crDet sa ca sd cd) then 1 else 0), vI (if crOK (crDet sa ca sd cd) then crE v sa ca t sd cd else x1), vI (if crOK (crDet sa ca sd cd) then crN v sa ca t sd cd else y1)]) := (hf21 18 (by decide)).trans h_19
      have h_24 : w21 19 = .inr (5, [vI (if crOK (crDet sb cb sd cd) then 1 else 0), vI (if crOK (crDet sb cb sd cd) then crE u sb cb t sd cd else x2), vI (if crOK (crDet sb cb sd cd) then crN u sb cb t sd cd else y2)]) := (hf21 19 (by decide)).trans hs11
      subst hQ
      exact k_vret hC hr ⟨by decide, by decide⟩ (⟨rfl, rfl, (by rw [hw21]; first | exact congrArg (hatO G) (if_pos ⟨ok_1, ok_2, ok_3⟩).symm | exact congrArg (hatO G) (if_neg (fun q => nok_1 q.1)).symm | exact congrArg (hatO G) (if_neg (fun q => nok_2 q.2.1)).symm | exact congrArg (hatO G) (if_neg (fun q => nok_3 q.2.2)).symm), h_22, h_23, h_24, fun j hj => (hf21 j (by omega)).trans ((hf11 j (by omega)).trans ((hf6 j (by omega)).trans (hf1 j (by omega))))⟩) dX1_span_66
    · have ok_2 := (hz_20.resolve_right (fun q1 => by omega)).2
      refine k_aload_n hC dX1_span_48 rfl 0 rfl ?_
      refine k_get hC fd_X1_19 (kl hN (by decide)) h_12 rfl dX1_span_49 ?_
      refine k_get hC fd_X1_26 (kl hN (by decide)) hs11 rfl dX1_span_52 ?_
      obtain ⟨z_25, ez_25, hz_25⟩ := k_bI (crOK (crDet sb cb sd cd))
      refine k_topv (vI z_25) (by rw [ez_25]) ?_
      refine k_if_eq hC 62 dX1_span_55 rfl (by omega) (fun c_55 => ?_) (fun c_55 => ?_)
      · have nok_3 := (hz_25.resolve_left (fun q1 => by omega)).2
        refine k_iconst hC dX1_span_62 ?_
        refine k_put hC fd_X1_30 (kl hN (by decide)) h_12 [vI 0, .ref (kad G 17), .ref (kad G 18), .ref (kad G 19)] rfl (Nat.le_of_ble_eq_true rfl) rfl rfl dX1_span_63 (fun w26 hw26 hf26 => ?_)
        have h_27 : w26 17 = .inr (5, [vI (if crOK (crDet sa ca sb cb) then 1 else 0), vI (if crOK (crDet sa ca sb cb) then crE v sa ca u sb cb else x0), vI (if crOK (crDet sa ca sb cb) then crN v sa ca u sb cb else y0)]) := (hf26 17 (by decide)).trans h_13
        have h_28 : w26 18 = .inr (5, [vI (if crOK (crDet sa ca sd cd) then 1 else 0), vI (if crOK (crDet sa ca sd cd) then crE v sa ca t sd cd else x1), vI (if crOK (crDet sa ca sd cd) then crN v sa ca t sd cd else y1)]) := (hf26 18 (by decide)).trans h_19
        have h_29 : w26 19 = .inr (5, [vI (if crOK (crDet sb cb sd cd) then 1 else 0), vI (if crOK (crDet sb cb sd cd) then crE u sb cb t sd cd else x2), vI (if crOK (crDet sb cb sd cd) then crN u sb cb t sd cd else y2)]) := (hf26 19 (by decide)).trans hs11
        subst hQ
        exact k_vret hC hr ⟨by decide, by decide⟩ (⟨rfl, rfl, (by rw [hw26]; first | exact congrArg (hatO G) (if_pos ⟨ok_1, ok_2, ok_3⟩).symm | exact congrArg (hatO G) (if_neg (fun q => nok_1 q.1)).symm | exact congrArg (hatO G) (if_neg (fun q => nok_2 q.2.1)).symm | exact congrArg (hatO G) (if_neg (fun q => nok_3 q.2.2)).symm), h_27, h_28, h_29, fun j hj => (hf26 j (by omega)).trans ((hf11 j (by omega)).trans ((hf6 j (by omega)).trans (hf1 j (by omega))))⟩) dX1_span_66
      · have ok_3 := (hz_25.resolve_right (fun q1 => by omega)).2
        refine k_iconst hC dX1_span_58 ?_
        refine k_goto hC 63 dX1_span_59 rfl ?_
        refine k_put hC fd_X1_30 (kl hN (by decide)) h_12 [vI 1, .ref (kad G 17), .ref (kad G 18), .ref (kad G 19)] rfl (Nat.le_of_ble_eq_true rfl) rfl rfl dX1_span_63 (fun w30 hw30 hf30 => ?_)
        have h_31 : w30 17 = .inr (5, [vI (if crOK (crDet sa ca sb cb) then 1 else 0), vI (if crOK (crDet sa ca sb cb) then crE v sa ca u sb cb else x0), vI (if crOK (crDet sa ca sb cb) then crN v sa ca u sb cb else y0)]) := (hf30 17 (by decide)).trans h_13
        have h_32 : w30 18 = .inr (5, [vI (if crOK (crDet sa ca sd cd) then 1 else 0), vI (if crOK (crDet sa ca sd cd) then crE v sa ca t sd cd else x1), vI (if crOK (crDet sa ca sd cd) then crN v sa ca t sd cd else y1)]) := (hf30 18 (by decide)).trans h_19
        have h_33 : w30 19 = .inr (5, [vI (if crOK (crDet sb cb sd cd) then 1 else 0), vI (if crOK (crDet sb cb sd cd) then crE u sb cb t sd cd else x2), vI (if crOK (crDet sb cb sd cd) then crN u sb cb t sd cd else y2)]) := (hf30 19 (by decide)).trans hs11
        subst hQ
        exact k_vret hC hr ⟨by decide, by decide⟩ (⟨rfl, rfl, (by rw [hw30]; first | exact congrArg (hatO G) (if_pos ⟨ok_1, ok_2, ok_3⟩).symm | exact congrArg (hatO G) (if_neg (fun q => nok_1 q.1)).symm | exact congrArg (hatO G) (if_neg (fun q => nok_2 q.2.1)).symm | exact congrArg (hatO G) (if_neg (fun q => nok_3 q.2.2)).symm), h_31, h_32, h_33, fun j hj => (hf30 j (by omega)).trans ((hf11 j (by omega)).trans ((hf6 j (by omega)).trans (hf1 j (by omega))))⟩) dX1_span_66

