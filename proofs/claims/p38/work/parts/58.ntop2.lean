set_option maxRecDepth 100000 in
set_option maxHeartbeats 4000000 in
theorem n_X11_hat (l : Launch) (hls : l.stackTraces = false) (G : kG) (hN : 133 ≤ kN G) (w : Nat → va_E) (fl : va_W) (g nl : Nat → Int) (sv : Int) (i j k T q : Int) (hi : -2147483648 ≤ i ∧ i ≤ 2147483647) (hj : -2147483648 ≤ j ∧ j ≤ 2147483647) (hk : -2147483648 ≤ k ∧ k ≤ 2147483647) (hT : -2147483648 ≤ T ∧ T ≤ 2147483647) (hq : -2147483648 ≤ q ∧ q ≤ 2147483647) (hI : Inv g) (h00 : w 0 = srO G sv) (hL : kLog G w 3 g) (hP : kPlan G w 32 g nl) (hCt : kCht G w) (hcd : (((0 ≤ i ∧ i < g 2) ∧ (0 ≤ j ∧ j < g 2) ∧ (0 ≤ k ∧ k < g 2)) ∧ (0 ≤ T ∧ T ≤ 5000)) ∧ (0 ≤ q ∧ q ≤ 2)) : KM l G yX11_hat cX11_hat 6 (some (FieldType.int)) 7 0 0 [.ref (kad G 0), vI i, vI j, vI k, vI T, vI q] w fl (kOk ((((0 ≤ i ∧ i < g 2) ∧ (0 ≤ j ∧ j < g 2) ∧ (0 ≤ k ∧ k < g 2)) ∧ (0 ≤ T ∧ T ≤ 5000)) ∧ (0 ≤ q ∧ q ≤ 2)) (vI (hatV g i.toNat j.toNat k.toNat T q)) fl (kCP G w)) := by
  refine KM_of2 hls (by decide +kernel) rfl (lv0 := [(0, .ref (kad G 0)), (1, vI i), (2, vI j), (3, vI k), (4, vI T), (5, vI q)]) rfl (Nat.le_of_ble_eq_true rfl) (fun p e R s m args below meth c Q hC hr hQ => ?_)
  obtain ⟨⟨h10, h11⟩, hLn, hSh, hH, h14, h15⟩ := hCt
  have h0 := hI.c
  refine k_aload_n hC dX11_hat_0 rfl 0 rfl ?_
  refine k_iload_n hC dX11_hat_1 rfl 1 rfl ?_
  refine k_iload_n hC dX11_hat_2 rfl 2 rfl ?_
  refine k_iload_n hC dX11_hat_3 rfl 3 rfl ?_
  refine k_callV hC (n_X11_needThreeSights l hls G hN w fl g sv i j k (by omega) (by omega) (by omega) hI h00 hL (by omega)) yy_X11_needThreeSights wm_X11_310 (kl hN (by decide)) h00 rfl rfl rfl rfl (Nat.le_of_ble_eq_true rfl) (by decide) (by decide) ⟨by decide, by decide⟩ dX11_hat_4 (fun v9 w9 fl9 hp1 => ?_)
  obtain ⟨hc4_1, q1, q2, q3⟩ := hp1; subst q1; subst q2; subst q3
  refine k_iload hC dX11_hat_7 4 rfl ?_
  refine k_callS hC (n_X11_needTime l hls G hN w fl T (by omega) (by omega)) yy_X11_needTime wm_X11_226 rfl rfl (Nat.le_of_ble_eq_true rfl) (by decide) (by decide) ⟨by decide, by decide⟩ dX11_hat_9 (fun v9 w9 fl9 hp2 => ?_)
  obtain ⟨hc9_2, q1, q2, q3⟩ := hp2; subst q1; subst q2; subst q3
  obtain ⟨i1, ei1⟩ : ∃ zz : Nat, i = (zz : Int) := ⟨i.toNat, by omega⟩
  subst ei1
  obtain ⟨j1, ej1⟩ : ∃ zz : Nat, j = (zz : Int) := ⟨j.toNat, by omega⟩
  subst ej1
  obtain ⟨k1, ek1⟩ : ∃ zz : Nat, k = (zz : Int) := ⟨k.toNat, by omega⟩
  subst ek1
  refine k_iload hC dX11_hat_12 5 rfl ?_
  refine k_if_lt hC 23 dX11_hat_14 rfl (by omega) (fun c_14 => ?_) (fun c_14 => ?_)
  · exact (by omega : False).elim
  · refine k_iload hC dX11_hat_17 5 rfl ?_
    refine k_iconst hC dX11_hat_19 ?_
    refine k_icmp_le hC 34 dX11_hat_20 rfl (by omega) (by omega) (fun c_20 => ?_) (fun c_20 => ?_)
    · refine k_aload_n hC dX11_hat_34 rfl 0 rfl ?_
      refine k_iload_n hC dX11_hat_35 rfl 1 rfl ?_
      refine k_iload_n hC dX11_hat_36 rfl 2 rfl ?_
      refine k_iload_n hC dX11_hat_37 rfl 3 rfl ?_
      refine k_iload hC dX11_hat_38 4 rfl ?_
      refine k_muvV hC (c_X11_drawHat l hls G hN w fl g nl sv i1 j1 k1 T (by omega) (by omega) hI h00 hL hP ⟨⟨h10, h11⟩, hLn, hSh, hH, h14, h15⟩) yy_X11_drawHat wm_X11_316 (kl hN (by decide)) h00 rfl rfl rfl rfl (Nat.le_of_ble_eq_true rfl) (by decide) (by decide) ⟨by decide, by decide⟩ dX11_hat_40 (fun w3 hp3 => ?_)
      obtain ⟨⟨hz, hs16_3, hzz⟩, hpl, hct3, hf3⟩ := hp3
      obtain ⟨⟨h10k_4, h11k_4⟩, hLnk_4, hShk_4, hHk_4, h14k_4, h15k_4⟩ := hct3
      refine k_aload_n hC dX11_hat_43 rfl 0 rfl ?_
      have h_5 : w3 0 = .inr (11, [.ref (kad G 1), .ref (kad G 32), .ref (kad G 3), .ref (kad G 37), vI sv, .ref (kad G 44), .ref (kad G 10), .ref (kad G 116), .ref (kad G 129), .ref (kad G 132)]) := (hf3 0 (by omega)).trans h00
      refine k_get hC fd_X11_43 (kl hN (by decide)) h_5 rfl dX11_hat_44 ?_
      refine k_get hC fd_X11_320 (kl hN (by decide)) h10k_4 rfl dX11_hat_47 ?_
      refine k_get hC fd_X11_324 (kl hN (by decide)) hs16_3 rfl dX11_hat_50 ?_
      refine k_if_ne hC 59 dX11_hat_53 rfl (by omega) (fun c_53 => ?_) (fun c_53 => ?_)
      · have hok := (hzz.resolve_right (fun q1 => by omega)).2
        have hp3 := hpl hok
        have hcE17 := cE_b g i1 j1 T
        have hcN17 := cN_b g i1 j1 T
        have hcE18 := cE_b g i1 k1 T
        have hcN18 := cN_b g i1 k1 T
        have hcE19 := cE_b g j1 k1 T
        have hcN19 := cN_b g j1 k1 T
        refine k_iload hC dX11_hat_59 5 rfl ?_
        refine k_if_ne hC 75 dX11_hat_61 rfl (by omega) (fun c_61 => ?_) (fun c_61 => ?_)
        · refine k_iload hC dX11_hat_75 5 rfl ?_
          refine k_iconst hC dX11_hat_77 ?_
          refine k_icmp_ne hC 94 dX11_hat_78 rfl (by omega) (by omega) (fun c_78 => ?_) (fun c_78 => ?_)
          · refine k_aload_n hC dX11_hat_94 rfl 0 rfl ?_
            refine k_get hC fd_X11_43 (kl hN (by decide)) h_5 rfl dX11_hat_95 ?_
            refine k_get hC fd_X11_320 (kl hN (by decide)) h10k_4 rfl dX11_hat_98 ?_
            refine k_pureV hC (c_X1_middleNorth l hls G hN w3 fl hz 1 (cE g i1 j1 T) (cN g i1 j1 T) 1 (cE g i1 k1 T) (cN g i1 k1 T) 1 (cE g j1 k1 T) (cN g j1 k1 T) (by omega) (by omega) (by omega) (by omega) (by omega) (by omega) hs16_3 hp3.1 hp3.2.1 hp3.2.2) yy_X1_middleNorth wm_X11_334 (kl hN (by decide)) hs16_3 rfl rfl rfl rfl (Nat.le_of_ble_eq_true rfl) (by decide) (by decide) ⟨by decide, by decide⟩ dX11_hat_101 ?_
            subst hQ
            exact k_iret hC hr ⟨by decide, by decide⟩ (⟨(by omega), congrArg (fun z => some (vI z)) (show ((hatV g i1 j1 k1 T q : _) = (cN g i1 j1 T + cN g i1 k1 T + cN g j1 k1 T) / 3) from (by unfold hatV; rw [selI_1 hok]; first | exact if_pos (by omega) | (rw [if_neg (by omega)]; first | exact if_pos (by omega) | exact if_neg (by omega)))), rfl, ⟨⟨⟨h10k_4, h11k_4⟩, hLnk_4, hShk_4, hHk_4, h14k_4, h15k_4⟩, fun j hj => hf3 j (by omega)⟩⟩) dX11_hat_104
          · refine k_aload_n hC dX11_hat_81 rfl 0 rfl ?_
            refine k_get hC fd_X11_43 (kl hN (by decide)) h_5 rfl dX11_hat_82 ?_
            refine k_get hC fd_X11_320 (kl hN (by decide)) h10k_4 rfl dX11_hat_85 ?_
            refine k_pureV hC (c_X1_middleEast l hls G hN w3 fl hz 1 (cE g i1 j1 T) (cN g i1 j1 T) 1 (cE g i1 k1 T) (cN g i1 k1 T) 1 (cE g j1 k1 T) (cN g j1 k1 T) (by omega) (by omega) (by omega) (by omega) (by omega) (by omega) hs16_3 hp3.1 hp3.2.1 hp3.2.2) yy_X1_middleEast wm_X11_331 (kl hN (by decide)) hs16_3 rfl rfl rfl rfl (Nat.le_of_ble_eq_true rfl) (by decide) (by decide) ⟨by decide, by decide⟩ dX11_hat_88 ?_
            refine k_goto hC 104 dX11_hat_91 rfl ?_
            subst hQ
            exact k_iret hC hr ⟨by decide, by decide⟩ (⟨(by omega), congrArg (fun z => some (vI z)) (show ((hatV g i1 j1 k1 T q : _) = (cE g i1 j1 T + cE g i1 k1 T + cE g j1 k1 T) / 3) from (by unfold hatV; rw [selI_1 hok]; first | exact if_pos (by omega) | (rw [if_neg (by omega)]; first | exact if_pos (by omega) | exact if_neg (by omega)))), rfl, ⟨⟨⟨h10k_4, h11k_4⟩, hLnk_4, hShk_4, hHk_4, h14k_4, h15k_4⟩, fun j hj => hf3 j (by omega)⟩⟩) dX11_hat_104
        · refine k_aload_n hC dX11_hat_64 rfl 0 rfl ?_
          refine k_get hC fd_X11_43 (kl hN (by decide)) h_5 rfl dX11_hat_65 ?_
          refine k_get hC fd_X11_320 (kl hN (by decide)) h10k_4 rfl dX11_hat_68 ?_
          refine k_pureV hC (c_X1_squareMiles l hls G hN w3 fl hz 1 (cE g i1 j1 T) (cN g i1 j1 T) 1 (cE g i1 k1 T) (cN g i1 k1 T) 1 (cE g j1 k1 T) (cN g j1 k1 T) (by omega) (by omega) (by omega) (by omega) (by omega) (by omega) hs16_3 hp3.1 hp3.2.1 hp3.2.2) yy_X1_squareMiles wm_X11_327 (kl hN (by decide)) hs16_3 rfl rfl rfl rfl (Nat.le_of_ble_eq_true rfl) (by decide) (by decide) ⟨by decide, by decide⟩ dX11_hat_71 ?_
          subst hQ
          exact k_iret hC hr ⟨by decide, by decide⟩ (⟨(by omega), congrArg (fun z => some (vI z)) (show ((hatV g i1 j1 k1 T q : _) = areaM (cE g i1 j1 T) (cN g i1 j1 T) (cE g i1 k1 T) (cN g i1 k1 T) (cE g j1 k1 T) (cN g j1 k1 T)) from (by unfold hatV; rw [selI_1 hok]; first | exact if_pos (by omega) | (rw [if_neg (by omega)]; first | exact if_pos (by omega) | exact if_neg (by omega)))), rfl, ⟨⟨⟨h10k_4, h11k_4⟩, hLnk_4, hShk_4, hHk_4, h14k_4, h15k_4⟩, fun j hj => hf3 j (by omega)⟩⟩) dX11_hat_74
      · have nok := (hzz.resolve_left (fun q1 => by omega)).2
        refine k_ldc hC (x := (-1000000000)) (v := (-1000000000)) dX11_hat_56 (by decide) wk_X11_143 ?_
        subst hQ
        exact k_iret hC hr ⟨by decide, by decide⟩ (⟨(by omega), congrArg (fun z => some (vI z)) (show ((hatV g i1 j1 k1 T q : _) = -1000000000) from (by unfold hatV; exact selI_0 nok)), rfl, ⟨⟨⟨h10k_4, h11k_4⟩, hLnk_4, hShk_4, hHk_4, h14k_4, h15k_4⟩, fun j hj => hf3 j (by omega)⟩⟩) dX11_hat_58
    · exact (by omega : False).elim

set_option maxRecDepth 100000 in
set_option maxHeartbeats 4000000 in
theorem n_X11_isInside (l : Launch) (hls : l.stackTraces = false) (G : kG) (hN : 133 ≤ kN G) (w : Nat → va_E) (fl : va_W) (g nl : Nat → Int) (sv : Int) (i j k T x y : Int) (hi : -2147483648 ≤ i ∧ i ≤ 2147483647) (hj : -2147483648 ≤ j ∧ j ≤ 2147483647) (hk : -2147483648 ≤ k ∧ k ≤ 2147483647) (hT : -2147483648 ≤ T ∧ T ≤ 2147483647) (hx : -2147483648 ≤ x ∧ x ≤ 2147483647) (hy : -2147483648 ≤ y ∧ y ≤ 2147483647) (hI : Inv g) (h00 : w 0 = srO G sv) (hL : kLog G w 3 g) (hP : kPlan G w 32 g nl) (hCt : kCht G w) (hcd : (((0 ≤ i ∧ i < g 2) ∧ (0 ≤ j ∧ j < g 2) ∧ (0 ≤ k ∧ k < g 2)) ∧ (0 ≤ T ∧ T ≤ 5000)) ∧ ((-1000000 ≤ x ∧ x ≤ 1000000) ∧ (-1000000 ≤ y ∧ y ≤ 1000000))) : KM l G yX11_isInside cX11_isInside 7 (some (FieldType.boolean)) 7 0 0 [.ref (kad G 0), vI i, vI j, vI k, vI T, vI x, vI y] w fl (kOk ((((0 ≤ i ∧ i < g 2) ∧ (0 ≤ j ∧ j < g 2) ∧ (0 ≤ k ∧ k < g 2)) ∧ (0 ≤ T ∧ T ≤ 5000)) ∧ ((-1000000 ≤ x ∧ x ≤ 1000000) ∧ (-1000000 ≤ y ∧ y ≤ 1000000))) (vI (insV g i.toNat j.toNat k.toNat T x y)) fl (kCP G w)) := by
  refine KM_of2 hls (by decide +kernel) rfl (lv0 := [(0, .ref (kad G 0)), (1, vI i), (2, vI j), (3, vI k), (4, vI T), (5, vI x), (6, vI y)]) rfl (Nat.le_of_ble_eq_true rfl) (fun p e R s m args below meth c Q hC hr hQ => ?_)
  obtain ⟨⟨h10, h11⟩, hLn, hSh, hH, h14, h15⟩ := hCt
  have h0 := hI.c
  refine k_aload_n hC dX11_isInside_0 rfl 0 rfl ?_
  refine k_iload_n hC dX11_isInside_1 rfl 1 rfl ?_
  refine k_iload_n hC dX11_isInside_2 rfl 2 rfl ?_
  refine k_iload_n hC dX11_isInside_3 rfl 3 rfl ?_
  refine k_callV hC (n_X11_needThreeSights l hls G hN w fl g sv i j k (by omega) (by omega) (by omega) hI h00 hL (by omega)) yy_X11_needThreeSights wm_X11_310 (kl hN (by decide)) h00 rfl rfl rfl rfl (Nat.le_of_ble_eq_true rfl) (by decide) (by decide) ⟨by decide, by decide⟩ dX11_isInside_4 (fun v9 w9 fl9 hp1 => ?_)
  obtain ⟨hc4_1, q1, q2, q3⟩ := hp1; subst q1; subst q2; subst q3
  refine k_iload hC dX11_isInside_7 4 rfl ?_
  refine k_callS hC (n_X11_needTime l hls G hN w fl T (by omega) (by omega)) yy_X11_needTime wm_X11_226 rfl rfl (Nat.le_of_ble_eq_true rfl) (by decide) (by decide) ⟨by decide, by decide⟩ dX11_isInside_9 (fun v9 w9 fl9 hp2 => ?_)
  obtain ⟨hc9_2, q1, q2, q3⟩ := hp2; subst q1; subst q2; subst q3
  obtain ⟨i1, ei1⟩ : ∃ zz : Nat, i = (zz : Int) := ⟨i.toNat, by omega⟩
  subst ei1
  obtain ⟨j1, ej1⟩ : ∃ zz : Nat, j = (zz : Int) := ⟨j.toNat, by omega⟩
  subst ej1
  obtain ⟨k1, ek1⟩ : ∃ zz : Nat, k = (zz : Int) := ⟨k.toNat, by omega⟩
  subst ek1
  refine k_iload hC dX11_isInside_12 5 rfl ?_
  refine k_ldc hC (x := (-1000000)) (v := (-1000000)) dX11_isInside_14 (by decide) wk_X11_155 ?_
  refine k_icmp_lt hC 40 dX11_isInside_16 rfl (by omega) (by omega) (fun c_16 => ?_) (fun c_16 => ?_)
  · exact (by omega : False).elim
  · refine k_iload hC dX11_isInside_19 5 rfl ?_
    refine k_ldc hC (x := 1000000) (v := 1000000) dX11_isInside_21 (by decide) wk_X11_156 ?_
    refine k_icmp_gt hC 40 dX11_isInside_23 rfl (by omega) (by omega) (fun c_23 => ?_) (fun c_23 => ?_)
    · exact (by omega : False).elim
    · refine k_iload hC dX11_isInside_26 6 rfl ?_
      refine k_ldc hC (x := (-1000000)) (v := (-1000000)) dX11_isInside_28 (by decide) wk_X11_155 ?_
      refine k_icmp_lt hC 40 dX11_isInside_30 rfl (by omega) (by omega) (fun c_30 => ?_) (fun c_30 => ?_)
      · exact (by omega : False).elim
      · refine k_iload hC dX11_isInside_33 6 rfl ?_
        refine k_ldc hC (x := 1000000) (v := 1000000) dX11_isInside_35 (by decide) wk_X11_156 ?_
        refine k_icmp_le hC 51 dX11_isInside_37 rfl (by omega) (by omega) (fun c_37 => ?_) (fun c_37 => ?_)
        · refine k_aload_n hC dX11_isInside_51 rfl 0 rfl ?_
          refine k_iload_n hC dX11_isInside_52 rfl 1 rfl ?_
          refine k_iload_n hC dX11_isInside_53 rfl 2 rfl ?_
          refine k_iload_n hC dX11_isInside_54 rfl 3 rfl ?_
          refine k_iload hC dX11_isInside_55 4 rfl ?_
          refine k_muvV hC (c_X11_drawHat l hls G hN w fl g nl sv i1 j1 k1 T (by omega) (by omega) hI h00 hL hP ⟨⟨h10, h11⟩, hLn, hSh, hH, h14, h15⟩) yy_X11_drawHat wm_X11_316 (kl hN (by decide)) h00 rfl rfl rfl rfl (Nat.le_of_ble_eq_true rfl) (by decide) (by decide) ⟨by decide, by decide⟩ dX11_isInside_57 (fun w3 hp3 => ?_)
          obtain ⟨⟨hz, hs16_3, hzz⟩, hpl, hct3, hf3⟩ := hp3
          obtain ⟨⟨h10k_4, h11k_4⟩, hLnk_4, hShk_4, hHk_4, h14k_4, h15k_4⟩ := hct3
          refine k_aload_n hC dX11_isInside_60 rfl 0 rfl ?_
          have h_5 : w3 0 = .inr (11, [.ref (kad G 1), .ref (kad G 32), .ref (kad G 3), .ref (kad G 37), vI sv, .ref (kad G 44), .ref (kad G 10), .ref (kad G 116), .ref (kad G 129), .ref (kad G 132)]) := (hf3 0 (by omega)).trans h00
          refine k_get hC fd_X11_43 (kl hN (by decide)) h_5 rfl dX11_isInside_61 ?_
          refine k_get hC fd_X11_320 (kl hN (by decide)) h10k_4 rfl dX11_isInside_64 ?_
          refine k_get hC fd_X11_324 (kl hN (by decide)) hs16_3 rfl dX11_isInside_67 ?_
          refine k_if_eq hC 94 dX11_isInside_70 rfl (by omega) (fun c_70 => ?_) (fun c_70 => ?_)
          · have nok := (hzz.resolve_left (fun q1 => by omega)).2
            refine k_iconst hC dX11_isInside_94 ?_
            subst hQ
            exact k_zret hC (by omega) hr ⟨by decide, by decide⟩ (⟨(by omega), congrArg (fun z => some (vI z)) (show ((insV g i1 j1 k1 T x y : _) = 0) from (by unfold insV; first | exact selI_1 ⟨hok, hol⟩ | exact selI_0 (fun q1 => nhol q1.2) | exact selI_0 (fun q1 => nok q1.1))), rfl, ⟨⟨⟨h10k_4, h11k_4⟩, hLnk_4, hShk_4, hHk_4, h14k_4, h15k_4⟩, fun j hj => hf3 j (by omega)⟩⟩) dX11_isInside_95
          · have hok := (hzz.resolve_right (fun q1 => by omega)).2
            have hp3 := hpl hok
            have hcE17 := cE_b g i1 j1 T
            have hcN17 := cN_b g i1 j1 T
            have hcE18 := cE_b g i1 k1 T
            have hcN18 := cN_b g i1 k1 T
            have hcE19 := cE_b g j1 k1 T
            have hcN19 := cN_b g j1 k1 T
            refine k_aload_n hC dX11_isInside_73 rfl 0 rfl ?_
            refine k_get hC fd_X11_43 (kl hN (by decide)) h_5 rfl dX11_isInside_74 ?_
            refine k_get hC fd_X11_320 (kl hN (by decide)) h10k_4 rfl dX11_isInside_77 ?_
            refine k_iload hC dX11_isInside_80 5 rfl ?_
            refine k_iload hC dX11_isInside_82 6 rfl ?_
            refine k_pureV hC (c_X1_holds l hls G hN w3 fl hz 1 (cE g i1 j1 T) (cN g i1 j1 T) 1 (cE g i1 k1 T) (cN g i1 k1 T) 1 (cE g j1 k1 T) (cN g j1 k1 T) x y (by omega) (by omega) (by omega) (by omega) (by omega) (by omega) (by omega) (by omega) hs16_3 hp3.1 hp3.2.1 hp3.2.2) yy_X1_holds wm_X11_342 (kl hN (by decide)) hs16_3 rfl rfl rfl rfl (Nat.le_of_ble_eq_true rfl) (by decide) (by decide) ⟨by decide, by decide⟩ dX11_isInside_84 ?_
            obtain ⟨z_6, ez_6, hz_6⟩ := k_bI (holP (cE g i1 j1 T) (cN g i1 j1 T) (cE g i1 k1 T) (cN g i1 k1 T) (cE g j1 k1 T) (cN g j1 k1 T) x y)
            refine k_topv (vI z_6) (by rw [ez_6]) ?_
            refine k_if_eq hC 94 dX11_isInside_87 rfl (by omega) (fun c_87 => ?_) (fun c_87 => ?_)
            · have nhol := (hz_6.resolve_left (fun q1 => by omega)).2
              refine k_iconst hC dX11_isInside_94 ?_
              subst hQ
              exact k_zret hC (by omega) hr ⟨by decide, by decide⟩ (⟨(by omega), congrArg (fun z => some (vI z)) (show ((insV g i1 j1 k1 T x y : _) = 0) from (by unfold insV; first | exact selI_1 ⟨hok, hol⟩ | exact selI_0 (fun q1 => nhol q1.2) | exact selI_0 (fun q1 => nok q1.1))), rfl, ⟨⟨⟨h10k_4, h11k_4⟩, hLnk_4, hShk_4, hHk_4, h14k_4, h15k_4⟩, fun j hj => hf3 j (by omega)⟩⟩) dX11_isInside_95
            · have hol := (hz_6.resolve_right (fun q1 => by omega)).2
              refine k_iconst hC dX11_isInside_90 ?_
              refine k_goto hC 95 dX11_isInside_91 rfl ?_
              subst hQ
              exact k_zret hC (by omega) hr ⟨by decide, by decide⟩ (⟨(by omega), congrArg (fun z => some (vI z)) (show ((insV g i1 j1 k1 T x y : _) = 1) from (by unfold insV; first | exact selI_1 ⟨hok, hol⟩ | exact selI_0 (fun q1 => nhol q1.2) | exact selI_0 (fun q1 => nok q1.1))), rfl, ⟨⟨⟨h10k_4, h11k_4⟩, hLnk_4, hShk_4, hHk_4, h14k_4, h15k_4⟩, fun j hj => hf3 j (by omega)⟩⟩) dX11_isInside_95
        · exact (by omega : False).elim

set_option maxRecDepth 100000 in
set_option maxHeartbeats 4000000 in
theorem n_X11_smallestHat (l : Launch) (hls : l.stackTraces = false) (G : kG) (hN : 133 ≤ kN G) (w : Nat → va_E) (fl : va_W) (g nl : Nat → Int) (sv : Int) (T : Int) (hT : -2147483648 ≤ T ∧ T ≤ 2147483647) (hI : Inv g) (h00 : w 0 = srO G sv) (hL : kLog G w 3 g) (hP : kPlan G w 32 g nl) (hCt : kCht G w) (hcd : (0 ≤ T ∧ T ≤ 5000)) : KM l G yX11_smallestHat cX11_smallestHat 2 (some (FieldType.int)) 7 0 0 [.ref (kad G 0), vI T] w fl (kOk ((0 ≤ T ∧ T ≤ 5000)) (vI (leastM g T)) fl (kCP G w)) := by
  refine KM_of2 hls (by decide +kernel) rfl (lv0 := [(0, .ref (kad G 0)), (1, vI T)]) rfl (Nat.le_of_ble_eq_true rfl) (fun p e R s m args below meth c Q hC hr hQ => ?_)
  obtain ⟨⟨h10, h11⟩, hLn, hSh, hH, h14, h15⟩ := hCt
  have h0 := hI.c
  refine k_iload_n hC dX11_smallestHat_0 rfl 1 rfl ?_
  refine k_callS hC (n_X11_needTime l hls G hN w fl T (by omega) (by omega)) yy_X11_needTime wm_X11_226 rfl rfl (Nat.le_of_ble_eq_true rfl) (by decide) (by decide) ⟨by decide, by decide⟩ dX11_smallestHat_1 (fun v9 w9 fl9 hp1 => ?_)
  obtain ⟨hc1_1, q1, q2, q3⟩ := hp1; subst q1; subst q2; subst q3
  have ht : 0 ≤ T ∧ T ≤ 5000 := by omega
  refine k_aload_n hC dX11_smallestHat_4 rfl 0 rfl ?_
  refine k_get hC fd_X11_43 (kl hN (by decide)) h00 rfl dX11_smallestHat_5 ?_
  refine k_aload_n hC dX11_smallestHat_8 rfl 0 rfl ?_
  refine k_get hC fd_X11_25 (kl hN (by decide)) h00 rfl dX11_smallestHat_9 ?_
  refine k_aload_n hC dX11_smallestHat_12 rfl 0 rfl ?_
  refine k_get hC fd_X11_29 (kl hN (by decide)) h00 rfl dX11_smallestHat_13 ?_
  refine k_iload_n hC dX11_smallestHat_16 rfl 1 rfl ?_
  refine k_muvV hC (c_X0_drawAll l hls G hN w fl g nl T hI (by omega) hL hP h10 h11 hLn hSh) yy_X0_drawAll wm_X11_118 (kl hN (by decide)) h10 rfl rfl rfl rfl (Nat.le_of_ble_eq_true rfl) (by decide) (by decide) ⟨by decide, by decide⟩ dX11_smallestHat_17 (fun w2 hp2 => ?_)
  obtain ⟨hD2, hLn2, hSh2, hf2⟩ := hp2
  refine k_aload_n hC dX11_smallestHat_20 rfl 0 rfl ?_
  have h_3 : w2 0 = .inr (11, [.ref (kad G 1), .ref (kad G 32), .ref (kad G 3), .ref (kad G 37), vI sv, .ref (kad G 44), .ref (kad G 10), .ref (kad G 116), .ref (kad G 129), .ref (kad G 132)]) := (hf2 0 (by omega)).trans h00
  refine k_get hC fd_X11_43 (kl hN (by decide)) h_3 rfl dX11_smallestHat_21 ?_
  refine k_aload_n hC dX11_smallestHat_24 rfl 0 rfl ?_
  refine k_get hC fd_X11_29 (kl hN (by decide)) h_3 rfl dX11_smallestHat_25 ?_
  have hB_4 : kLog G w2 3 g := hL.fr (fun j q1 q2 => (hf2 j (by omega)))
  refine k_get hC fd_X11_112 (kl hN (by decide)) hB_4.1 rfl dX11_smallestHat_28 ?_
  have h_5 : w2 10 = .inr (0, [.ref (kad G 11), .ref (kad G 12), .ref (kad G 13), .ref (kad G 14), .ref (kad G 15), .ref (kad G 16)]) := (hf2 10 (by omega)).trans h10
  have h_6 : w2 11 = rA G 4 12 (fun j => some (kad G (20 + j))) := (hf2 11 (by omega)).trans h11
  have hB_7 : kHat G w2 := hH.fr (fun j q1 q2 => (hf2 j (by omega)))
  refine k_mutV hC (c_X0_findLeastHat l hls G hN w2 fl g T hI ht h_5 h_6 hD2 hB_7) yy_X0_findLeastHat wm_X11_337 (kl hN (by decide)) h_5 rfl rfl rfl rfl (Nat.le_of_ble_eq_true rfl) (by decide) (by decide) ⟨by decide, by decide⟩ dX11_smallestHat_31 (fun w8 hp8 => ?_)
  obtain ⟨hH8, hf8⟩ := hp8
  have hB_9 : kShip w8 := hSh2.fr (fun j q1 q2 => (hf8 j (by omega)))
  have hB_10 : kPl14 w8 := h14.fr (fun j q1 q2 => (hf8 j (by omega)).trans (hf2 j (by omega)))
  have hB_11 : kPl15 w8 := h15.fr (fun j q1 q2 => (hf8 j (by omega)).trans (hf2 j (by omega)))
  have h_12 : w8 10 = .inr (0, [.ref (kad G 11), .ref (kad G 12), .ref (kad G 13), .ref (kad G 14), .ref (kad G 15), .ref (kad G 16)]) := (hf8 10 (by omega)).trans h_5
  have h_13 : w8 11 = rA G 4 12 (fun j => some (kad G (20 + j))) := (hf8 11 (by omega)).trans h_6
  have hB_14 : kLines w8 := hLn2.fr (fun j q1 q2 => (hf8 j (by omega)))
  subst hQ
  exact k_iret hC hr ⟨by decide, by decide⟩ (⟨(by omega), congrArg (fun z => some (vI z)) (show ((leastM g T : _) = leastM g T) from rfl), rfl, ⟨⟨⟨h_12, h_13⟩, hB_14, hB_9, hH8, hB_10, hB_11⟩, fun j hj => (hf8 j (by omega)).trans (hf2 j (by omega))⟩⟩) dX11_smallestHat_34

set_option maxRecDepth 100000 in
set_option maxHeartbeats 4000000 in
theorem n_X11_fix (l : Launch) (hls : l.stackTraces = false) (G : kG) (hN : 133 ≤ kN G) (w : Nat → va_E) (fl : va_W) (g nl : Nat → Int) (sv : Int) (T no : Int) (hT : -2147483648 ≤ T ∧ T ≤ 2147483647) (hno : no = 0 ∨ no = 1) (hI : Inv g) (h00 : w 0 = srO G sv) (hL : kLog G w 3 g) (hP : kPlan G w 32 g nl) (hCt : kCht G w) (hcd : (0 ≤ T ∧ T ≤ 5000)) : KM l G yX11_fix cX11_fix 3 (some (FieldType.int)) 7 0 0 [.ref (kad G 0), vI T, vI no] w fl (kOk ((0 ≤ T ∧ T ≤ 5000)) (vI (fixV g T no)) fl (kCP G w)) := by
  refine KM_of2 hls (by decide +kernel) rfl (lv0 := [(0, .ref (kad G 0)), (1, vI T), (2, vI no)]) rfl (Nat.le_of_ble_eq_true rfl) (fun p e R s m args below meth c Q hC hr hQ => ?_)
  obtain ⟨⟨h10, h11⟩, hLn, hSh, hH, h14, h15⟩ := hCt
  have h0 := hI.c
  refine k_iload_n hC dX11_fix_0 rfl 1 rfl ?_
  refine k_callS hC (n_X11_needTime l hls G hN w fl T (by omega) (by omega)) yy_X11_needTime wm_X11_226 rfl rfl (Nat.le_of_ble_eq_true rfl) (by decide) (by decide) ⟨by decide, by decide⟩ dX11_fix_1 (fun v9 w9 fl9 hp1 => ?_)
  obtain ⟨hc1_1, q1, q2, q3⟩ := hp1; subst q1; subst q2; subst q3
  have ht : 0 ≤ T ∧ T ≤ 5000 := by omega
  refine k_aload_n hC dX11_fix_4 rfl 0 rfl ?_
  refine k_get hC fd_X11_43 (kl hN (by decide)) h00 rfl dX11_fix_5 ?_
  refine k_aload_n hC dX11_fix_8 rfl 0 rfl ?_
  refine k_get hC fd_X11_25 (kl hN (by decide)) h00 rfl dX11_fix_9 ?_
  refine k_aload_n hC dX11_fix_12 rfl 0 rfl ?_
  refine k_get hC fd_X11_29 (kl hN (by decide)) h00 rfl dX11_fix_13 ?_
  refine k_iload_n hC dX11_fix_16 rfl 1 rfl ?_
  refine k_mutV hC (c_X0_findFix l hls G hN w fl g nl T hI (by omega) hL hP h10 h11 hLn hSh h15) yy_X0_findFix wm_X11_346 (kl hN (by decide)) h10 rfl rfl rfl rfl (Nat.le_of_ble_eq_true rfl) (by decide) (by decide) ⟨by decide, by decide⟩ dX11_fix_17 (fun w2 hp2 => ?_)
  obtain ⟨⟨fz, fx, fy, h15_2, hfx⟩, hD2, hLn2, ⟨fla, flo, hsh2⟩, hf2⟩ := hp2
  have hfi := fixI_c g
  refine k_if_ne hC 26 dX11_fix_20 rfl (by omega) (fun c_20 => ?_) (fun c_20 => ?_)
  · have hfp : fixP g := ((fixI_c g).resolve_right (fun q1 => by omega)).2
    obtain ⟨efx, efy⟩ := hfx hfp
    subst efx
    subst efy
    have hfe := fixE_b g T
    have hfn := fixN_b g T
    have hd1 := dispM_b hI ht false
    have hd2 := dispM_b hI ht true
    have hdst := dstM_b hI ht
    refine k_iload_n hC dX11_fix_26 rfl 2 rfl ?_
    refine k_if_eq hC 43 dX11_fix_27 rfl (by omega) (fun c_27 => ?_) (fun c_27 => ?_)
    · refine k_aload_n hC dX11_fix_43 rfl 0 rfl ?_
      have h_3 : w2 0 = .inr (11, [.ref (kad G 1), .ref (kad G 32), .ref (kad G 3), .ref (kad G 37), vI sv, .ref (kad G 44), .ref (kad G 10), .ref (kad G 116), .ref (kad G 129), .ref (kad G 132)]) := (hf2 0 (by omega)).trans h00
      refine k_get hC fd_X11_43 (kl hN (by decide)) h_3 rfl dX11_fix_44 ?_
      have h_4 : w2 10 = .inr (0, [.ref (kad G 11), .ref (kad G 12), .ref (kad G 13), .ref (kad G 14), .ref (kad G 15), .ref (kad G 16)]) := (hf2 10 (by omega)).trans h10
      refine k_get hC fd_X11_350 (kl hN (by decide)) h_4 rfl dX11_fix_47 ?_
      refine k_get hC fd_X11_309 (kl hN (by decide)) h15_2 rfl dX11_fix_50 ?_
      have hB_5 : kHat G w2 := hH.fr (fun j q1 q2 => (hf2 j (by omega)))
      have hB_6 : kPl14 w2 := h14.fr (fun j q1 q2 => (hf2 j (by omega)))
      have h_7 : w2 11 = rA G 4 12 (fun j => some (kad G (20 + j))) := (hf2 11 (by omega)).trans h11
      subst hQ
      exact k_iret hC hr ⟨by decide, by decide⟩ (⟨(by omega), congrArg (fun z => some (vI z)) (show ((fixV g T no : _) = fixE g T) from (by unfold fixV; first | exact selI_0 nfp | (rw [selI_1 hfp]; first | rw [if_pos (by omega)] | rw [if_neg (by omega)]))), rfl, ⟨⟨⟨h_4, h_7⟩, hLn2, ⟨_, _, _, _, hsh2⟩, hB_5, hB_6, ⟨_, _, _, h15_2⟩⟩, fun j hj => hf2 j (by omega)⟩⟩) dX11_fix_53
    · refine k_aload_n hC dX11_fix_30 rfl 0 rfl ?_
      have h_8 : w2 0 = .inr (11, [.ref (kad G 1), .ref (kad G 32), .ref (kad G 3), .ref (kad G 37), vI sv, .ref (kad G 44), .ref (kad G 10), .ref (kad G 116), .ref (kad G 129), .ref (kad G 132)]) := (hf2 0 (by omega)).trans h00
      refine k_get hC fd_X11_43 (kl hN (by decide)) h_8 rfl dX11_fix_31 ?_
      have h_9 : w2 10 = .inr (0, [.ref (kad G 11), .ref (kad G 12), .ref (kad G 13), .ref (kad G 14), .ref (kad G 15), .ref (kad G 16)]) := (hf2 10 (by omega)).trans h10
      refine k_get hC fd_X11_350 (kl hN (by decide)) h_9 rfl dX11_fix_34 ?_
      refine k_get hC fd_X11_308 (kl hN (by decide)) h15_2 rfl dX11_fix_37 ?_
      refine k_goto hC 53 dX11_fix_40 rfl ?_
      have hB_10 : kHat G w2 := hH.fr (fun j q1 q2 => (hf2 j (by omega)))
      have hB_11 : kPl14 w2 := h14.fr (fun j q1 q2 => (hf2 j (by omega)))
      have h_12 : w2 11 = rA G 4 12 (fun j => some (kad G (20 + j))) := (hf2 11 (by omega)).trans h11
      subst hQ
      exact k_iret hC hr ⟨by decide, by decide⟩ (⟨(by omega), congrArg (fun z => some (vI z)) (show ((fixV g T no : _) = fixN g T) from (by unfold fixV; first | exact selI_0 nfp | (rw [selI_1 hfp]; first | rw [if_pos (by omega)] | rw [if_neg (by omega)]))), rfl, ⟨⟨⟨h_9, h_12⟩, hLn2, ⟨_, _, _, _, hsh2⟩, hB_10, hB_11, ⟨_, _, _, h15_2⟩⟩, fun j hj => hf2 j (by omega)⟩⟩) dX11_fix_53
  · have nfp : ¬ fixP g := ((fixI_c g).resolve_left (fun q1 => by omega)).2
    refine k_ldc hC (x := (-1000000000)) (v := (-1000000000)) dX11_fix_23 (by decide) wk_X11_143 ?_
    have hB_13 : kHat G w2 := hH.fr (fun j q1 q2 => (hf2 j (by omega)))
    have hB_14 : kPl14 w2 := h14.fr (fun j q1 q2 => (hf2 j (by omega)))
    have h_15 : w2 10 = .inr (0, [.ref (kad G 11), .ref (kad G 12), .ref (kad G 13), .ref (kad G 14), .ref (kad G 15), .ref (kad G 16)]) := (hf2 10 (by omega)).trans h10
    have h_16 : w2 11 = rA G 4 12 (fun j => some (kad G (20 + j))) := (hf2 11 (by omega)).trans h11
    subst hQ
    exact k_iret hC hr ⟨by decide, by decide⟩ (⟨(by omega), congrArg (fun z => some (vI z)) (show ((fixV g T no : _) = -1000000000) from (by unfold fixV; first | exact selI_0 nfp | (rw [selI_1 hfp]; first | rw [if_pos (by omega)] | rw [if_neg (by omega)]))), rfl, ⟨⟨⟨h_15, h_16⟩, hLn2, ⟨_, _, _, _, hsh2⟩, hB_13, hB_14, ⟨_, _, _, h15_2⟩⟩, fun j hj => hf2 j (by omega)⟩⟩) dX11_fix_25

set_option maxRecDepth 100000 in
set_option maxHeartbeats 4000000 in
theorem n_X11_residual (l : Launch) (hls : l.stackTraces = false) (G : kG) (hN : 133 ≤ kN G) (w : Nat → va_E) (fl : va_W) (g nl : Nat → Int) (sv : Int) (i T : Int) (hi : -2147483648 ≤ i ∧ i ≤ 2147483647) (hT : -2147483648 ≤ T ∧ T ≤ 2147483647) (hI : Inv g) (h00 : w 0 = srO G sv) (hL : kLog G w 3 g) (hP : kPlan G w 32 g nl) (hCt : kCht G w) (hcd : (0 ≤ i ∧ i < g 2) ∧ (0 ≤ T ∧ T ≤ 5000)) : KM l G yX11_residual cX11_residual 3 (some (FieldType.int)) 7 0 0 [.ref (kad G 0), vI i, vI T] w fl (kOk ((0 ≤ i ∧ i < g 2) ∧ (0 ≤ T ∧ T ≤ 5000)) (vI (resV g T i.toNat)) fl (kCP G w)) := by
  refine KM_of2 hls (by decide +kernel) rfl (lv0 := [(0, .ref (kad G 0)), (1, vI i), (2, vI T)]) rfl (Nat.le_of_ble_eq_true rfl) (fun p e R s m args below meth c Q hC hr hQ => ?_)
  obtain ⟨⟨h10, h11⟩, hLn, hSh, hH, h14, h15⟩ := hCt
  have h0 := hI.c
  refine k_aload_n hC dX11_residual_0 rfl 0 rfl ?_
  refine k_iload_n hC dX11_residual_1 rfl 1 rfl ?_
  refine k_callV hC (n_X11_needSight l hls G hN w fl g sv i (by omega) hI h00 hL (by omega)) yy_X11_needSight wm_X11_250 (kl hN (by decide)) h00 rfl rfl rfl rfl (Nat.le_of_ble_eq_true rfl) (by decide) (by decide) ⟨by decide, by decide⟩ dX11_residual_2 (fun v9 w9 fl9 hp1 => ?_)
  obtain ⟨hc2_1, q1, q2, q3⟩ := hp1; subst q1; subst q2; subst q3
  refine k_iload_n hC dX11_residual_5 rfl 2 rfl ?_
  refine k_callS hC (n_X11_needTime l hls G hN w fl T (by omega) (by omega)) yy_X11_needTime wm_X11_226 rfl rfl (Nat.le_of_ble_eq_true rfl) (by decide) (by decide) ⟨by decide, by decide⟩ dX11_residual_6 (fun v9 w9 fl9 hp2 => ?_)
  obtain ⟨hc6_2, q1, q2, q3⟩ := hp2; subst q1; subst q2; subst q3
  obtain ⟨k, ek⟩ : ∃ zz : Nat, i = (zz : Int) := ⟨i.toNat, by omega⟩
  subst ek
  have ht : 0 ≤ T ∧ T ≤ 5000 := by omega
  refine k_aload_n hC dX11_residual_9 rfl 0 rfl ?_
  refine k_get hC fd_X11_43 (kl hN (by decide)) h00 rfl dX11_residual_10 ?_
  refine k_aload_n hC dX11_residual_13 rfl 0 rfl ?_
  refine k_get hC fd_X11_25 (kl hN (by decide)) h00 rfl dX11_residual_14 ?_
  refine k_aload_n hC dX11_residual_17 rfl 0 rfl ?_
  refine k_get hC fd_X11_29 (kl hN (by decide)) h00 rfl dX11_residual_18 ?_
  refine k_iload_n hC dX11_residual_21 rfl 2 rfl ?_
  refine k_mutV hC (c_X0_findFix l hls G hN w fl g nl T hI (by omega) hL hP h10 h11 hLn hSh h15) yy_X0_findFix wm_X11_346 (kl hN (by decide)) h10 rfl rfl rfl rfl (Nat.le_of_ble_eq_true rfl) (by decide) (by decide) ⟨by decide, by decide⟩ dX11_residual_22 (fun w3 hp3 => ?_)
  obtain ⟨⟨fz, fx, fy, h15_3, hfx⟩, hD3, hLn3, ⟨fla, flo, hsh3⟩, hf3⟩ := hp3
  have hfi := fixI_c g
  refine k_if_ne hC 31 dX11_residual_25 rfl (by omega) (fun c_25 => ?_) (fun c_25 => ?_)
  · have hfp : fixP g := ((fixI_c g).resolve_right (fun q1 => by omega)).2
    obtain ⟨efx, efy⟩ := hfx hfp
    subst efx
    subst efy
    have hfe := fixE_b g T
    have hfn := fixN_b g T
    have hd1 := dispM_b hI ht false
    have hd2 := dispM_b hI ht true
    have hdst := dstM_b hI ht
    have hln_4 := hD3 k (by omega) (by omega)
    have hcb_5 := carM_b hI k (by omega) ht
    have hsb_6 := sinM_b (aziM g k)
    have hcb_7 := cosM_b (aziM g k)
    refine k_aload_n hC dX11_residual_31 rfl 0 rfl ?_
    have h_8 : w3 0 = .inr (11, [.ref (kad G 1), .ref (kad G 32), .ref (kad G 3), .ref (kad G 37), vI sv, .ref (kad G 44), .ref (kad G 10), .ref (kad G 116), .ref (kad G 129), .ref (kad G 132)]) := (hf3 0 (by omega)).trans h00
    refine k_get hC fd_X11_43 (kl hN (by decide)) h_8 rfl dX11_residual_32 ?_
    refine k_iload_n hC dX11_residual_35 rfl 1 rfl ?_
    have h_9 : w3 10 = .inr (0, [.ref (kad G 11), .ref (kad G 12), .ref (kad G 13), .ref (kad G 14), .ref (kad G 15), .ref (kad G 16)]) := (hf3 10 (by omega)).trans h10
    have h_10 : w3 11 = rA G 4 12 (fun j => some (kad G (20 + j))) := (hf3 11 (by omega)).trans h11
    refine k_pureV hC (c_X0_lineOf l hls G hN w3 fl k (by omega) h_9 h_10) yy_X0_lineOf wm_X11_257 (kl hN (by decide)) h_9 rfl rfl rfl rfl (Nat.le_of_ble_eq_true rfl) (by decide) (by decide) ⟨by decide, by decide⟩ dX11_residual_36 ?_
    refine k_aload_n hC dX11_residual_39 rfl 0 rfl ?_
    refine k_get hC fd_X11_43 (kl hN (by decide)) h_8 rfl dX11_residual_40 ?_
    refine k_get hC fd_X11_350 (kl hN (by decide)) h_9 rfl dX11_residual_43 ?_
    refine k_pureV hC (c_X3_missedBy l hls G hN w3 fl (20 + k) 15 (apM g k) (obsM g k) (expM g k) (aziM g k) (intM g k) (offM g k) (carM g k T) (sinM (aziM g k)) (cosM (aziM g k)) fz (fixE g T) (fixN g T) (by omega) (by omega) (by omega) (by omega) (by omega) (by omega) hln_4 h15_3) yy_X3_missedBy wm_X11_353 (kl hN (by omega)) hln_4 rfl rfl rfl rfl (Nat.le_of_ble_eq_true rfl) (by decide) (by decide) ⟨by decide, by decide⟩ dX11_residual_46 ?_
    have hB_11 : kHat G w3 := hH.fr (fun j q1 q2 => (hf3 j (by omega)))
    have hB_12 : kPl14 w3 := h14.fr (fun j q1 q2 => (hf3 j (by omega)))
    subst hQ
    exact k_iret hC hr ⟨by decide, by decide⟩ (⟨(by omega), congrArg (fun z => some (vI z)) (show ((resV g T k : _) = along (fixE g T) (fixN g T) (sinM (aziM g k)) (cosM (aziM g k)) - (carM g k T)) from (by unfold resV; first | exact selI_0 nfp | (rw [selI_1 hfp]; rfl))), rfl, ⟨⟨⟨h_9, h_10⟩, hLn3, ⟨_, _, _, _, hsh3⟩, hB_11, hB_12, ⟨_, _, _, h15_3⟩⟩, fun j hj => hf3 j (by omega)⟩⟩) dX11_residual_49
  · have nfp : ¬ fixP g := ((fixI_c g).resolve_left (fun q1 => by omega)).2
    refine k_ldc hC (x := (-1000000000)) (v := (-1000000000)) dX11_residual_28 (by decide) wk_X11_143 ?_
    have hB_13 : kHat G w3 := hH.fr (fun j q1 q2 => (hf3 j (by omega)))
    have hB_14 : kPl14 w3 := h14.fr (fun j q1 q2 => (hf3 j (by omega)))
    have h_15 : w3 10 = .inr (0, [.ref (kad G 11), .ref (kad G 12), .ref (kad G 13), .ref (kad G 14), .ref (kad G 15), .ref (kad G 16)]) := (hf3 10 (by omega)).trans h10
    have h_16 : w3 11 = rA G 4 12 (fun j => some (kad G (20 + j))) := (hf3 11 (by omega)).trans h11
    subst hQ
    exact k_iret hC hr ⟨by decide, by decide⟩ (⟨(by omega), congrArg (fun z => some (vI z)) (show ((resV g T k : _) = -1000000000) from (by unfold resV; first | exact selI_0 nfp | (rw [selI_1 hfp]; rfl))), rfl, ⟨⟨⟨h_15, h_16⟩, hLn3, ⟨_, _, _, _, hsh3⟩, hB_13, hB_14, ⟨_, _, _, h15_3⟩⟩, fun j hj => hf3 j (by omega)⟩⟩) dX11_residual_30

set_option maxRecDepth 100000 in
set_option maxHeartbeats 4000000 in
theorem n_X11_offCourse (l : Launch) (hls : l.stackTraces = false) (G : kG) (hN : 133 ≤ kN G) (w : Nat → va_E) (fl : va_W) (g nl : Nat → Int) (sv : Int) (T : Int) (hT : -2147483648 ≤ T ∧ T ≤ 2147483647) (hI : Inv g) (h00 : w 0 = srO G sv) (hL : kLog G w 3 g) (hP : kPlan G w 32 g nl) (hCt : kCht G w) (hcd : (0 ≤ T ∧ T ≤ 5000)) : KM l G yX11_offCourse cX11_offCourse 2 (some (FieldType.int)) 7 0 0 [.ref (kad G 0), vI T] w fl (kOk ((0 ≤ T ∧ T ≤ 5000)) (vI (offV g T)) fl (kCP G w)) := by
  refine KM_of2 hls (by decide +kernel) rfl (lv0 := [(0, .ref (kad G 0)), (1, vI T)]) rfl (Nat.le_of_ble_eq_true rfl) (fun p e R s m args below meth c Q hC hr hQ => ?_)
  obtain ⟨⟨h10, h11⟩, hLn, hSh, hH, h14, h15⟩ := hCt
  have h0 := hI.c
  refine k_iload_n hC dX11_offCourse_0 rfl 1 rfl ?_
  refine k_callS hC (n_X11_needTime l hls G hN w fl T (by omega) (by omega)) yy_X11_needTime wm_X11_226 rfl rfl (Nat.le_of_ble_eq_true rfl) (by decide) (by decide) ⟨by decide, by decide⟩ dX11_offCourse_1 (fun v9 w9 fl9 hp1 => ?_)
  obtain ⟨hc1_1, q1, q2, q3⟩ := hp1; subst q1; subst q2; subst q3
  have ht : 0 ≤ T ∧ T ≤ 5000 := by omega
  refine k_aload_n hC dX11_offCourse_4 rfl 0 rfl ?_
  refine k_get hC fd_X11_43 (kl hN (by decide)) h00 rfl dX11_offCourse_5 ?_
  refine k_aload_n hC dX11_offCourse_8 rfl 0 rfl ?_
  refine k_get hC fd_X11_25 (kl hN (by decide)) h00 rfl dX11_offCourse_9 ?_
  refine k_aload_n hC dX11_offCourse_12 rfl 0 rfl ?_
  refine k_get hC fd_X11_29 (kl hN (by decide)) h00 rfl dX11_offCourse_13 ?_
  refine k_iload_n hC dX11_offCourse_16 rfl 1 rfl ?_
  refine k_mutV hC (c_X0_findFix l hls G hN w fl g nl T hI (by omega) hL hP h10 h11 hLn hSh h15) yy_X0_findFix wm_X11_346 (kl hN (by decide)) h10 rfl rfl rfl rfl (Nat.le_of_ble_eq_true rfl) (by decide) (by decide) ⟨by decide, by decide⟩ dX11_offCourse_17 (fun w2 hp2 => ?_)
  obtain ⟨⟨fz, fx, fy, h15_2, hfx⟩, hD2, hLn2, ⟨fla, flo, hsh2⟩, hf2⟩ := hp2
  have hfi := fixI_c g
  refine k_if_eq hC 33 dX11_offCourse_20 rfl (by omega) (fun c_20 => ?_) (fun c_20 => ?_)
  · have nfp : ¬ fixP g := ((fixI_c g).resolve_left (fun q1 => by omega)).2
    refine k_ldc hC (x := (-1000000000)) (v := (-1000000000)) dX11_offCourse_33 (by decide) wk_X11_143 ?_
    have hB_3 : kHat G w2 := hH.fr (fun j q1 q2 => (hf2 j (by omega)))
    have hB_4 : kPl14 w2 := h14.fr (fun j q1 q2 => (hf2 j (by omega)))
    have h_5 : w2 10 = .inr (0, [.ref (kad G 11), .ref (kad G 12), .ref (kad G 13), .ref (kad G 14), .ref (kad G 15), .ref (kad G 16)]) := (hf2 10 (by omega)).trans h10
    have h_6 : w2 11 = rA G 4 12 (fun j => some (kad G (20 + j))) := (hf2 11 (by omega)).trans h11
    subst hQ
    exact k_iret hC hr ⟨by decide, by decide⟩ (⟨(by omega), congrArg (fun z => some (vI z)) (show ((offV g T : _) = -1000000000) from (by unfold offV; first | exact selI_0 nfp | (rw [selI_1 hfp]; rfl))), rfl, ⟨⟨⟨h_5, h_6⟩, hLn2, ⟨_, _, _, _, hsh2⟩, hB_3, hB_4, ⟨_, _, _, h15_2⟩⟩, fun j hj => hf2 j (by omega)⟩⟩) dX11_offCourse_35
  · have hfp : fixP g := ((fixI_c g).resolve_right (fun q1 => by omega)).2
    obtain ⟨efx, efy⟩ := hfx hfp
    subst efx
    subst efy
    have hfe := fixE_b g T
    have hfn := fixN_b g T
    have hd1 := dispM_b hI ht false
    have hd2 := dispM_b hI ht true
    have hdst := dstM_b hI ht
    refine k_aload_n hC dX11_offCourse_23 rfl 0 rfl ?_
    have h_7 : w2 0 = .inr (11, [.ref (kad G 1), .ref (kad G 32), .ref (kad G 3), .ref (kad G 37), vI sv, .ref (kad G 44), .ref (kad G 10), .ref (kad G 116), .ref (kad G 129), .ref (kad G 132)]) := (hf2 0 (by omega)).trans h00
    refine k_get hC fd_X11_43 (kl hN (by decide)) h_7 rfl dX11_offCourse_24 ?_
    have h_8 : w2 10 = .inr (0, [.ref (kad G 11), .ref (kad G 12), .ref (kad G 13), .ref (kad G 14), .ref (kad G 15), .ref (kad G 16)]) := (hf2 10 (by omega)).trans h10
    have h_9 : w2 11 = rA G 4 12 (fun j => some (kad G (20 + j))) := (hf2 11 (by omega)).trans h11
    refine k_pureV hC (c_X0_distanceOff l hls G hN w2 fl fz (fixE g T) (fixN g T) (dispM g T false) (dispM g T true) fla flo h_8 h_9 (by omega) (by omega) (by omega) (by omega) h15_2 hsh2) yy_X0_distanceOff wm_X11_362 (kl hN (by decide)) h_8 rfl rfl rfl rfl (Nat.le_of_ble_eq_true rfl) (by decide) (by decide) ⟨by decide, by decide⟩ dX11_offCourse_27 ?_
    refine k_goto hC 35 dX11_offCourse_30 rfl ?_
    have hB_10 : kHat G w2 := hH.fr (fun j q1 q2 => (hf2 j (by omega)))
    have hB_11 : kPl14 w2 := h14.fr (fun j q1 q2 => (hf2 j (by omega)))
    subst hQ
    exact k_iret hC hr ⟨by decide, by decide⟩ (⟨(by omega), congrArg (fun z => some (vI z)) (show ((offV g T : _) = rootM (((fixE g T) - (dispM g T false)) * ((fixE g T) - (dispM g T false)) + ((fixN g T) - (dispM g T true)) * ((fixN g T) - (dispM g T true)))) from (by unfold offV; first | exact selI_0 nfp | (rw [selI_1 hfp]; rfl))), rfl, ⟨⟨⟨h_8, h_9⟩, hLn2, ⟨_, _, _, _, hsh2⟩, hB_10, hB_11, ⟨_, _, _, h15_2⟩⟩, fun j hj => hf2 j (by omega)⟩⟩) dX11_offCourse_35

set_option maxRecDepth 100000 in
set_option maxHeartbeats 4000000 in
theorem n_X11_unknownCurrent (l : Launch) (hls : l.stackTraces = false) (G : kG) (hN : 133 ≤ kN G) (w : Nat → va_E) (fl : va_W) (g nl : Nat → Int) (sv : Int) (T dr : Int) (hT : -2147483648 ≤ T ∧ T ≤ 2147483647) (hdr : dr = 0 ∨ dr = 1) (hI : Inv g) (h00 : w 0 = srO G sv) (hL : kLog G w 3 g) (hP : kPlan G w 32 g nl) (hCt : kCht G w) (hcd : 1 ≤ T ∧ T ≤ 5000) : KM l G yX11_unknownCurrent cX11_unknownCurrent 4 (some (FieldType.int)) 7 0 0 [.ref (kad G 0), vI T, vI dr] w fl (kOk (1 ≤ T ∧ T ≤ 5000) (vI (unkV g T dr)) fl (kCP G w)) := by
  refine KM_of2 hls (by decide +kernel) rfl (lv0 := [(0, .ref (kad G 0)), (1, vI T), (2, vI dr)]) rfl (Nat.le_of_ble_eq_true rfl) (fun p e R s m args below meth c Q hC hr hQ => ?_)
  obtain ⟨⟨h10, h11⟩, hLn, hSh, hH, h14, h15⟩ := hCt
  have h0 := hI.c
  refine k_iload_n hC dX11_unknownCurrent_0 rfl 1 rfl ?_
  refine k_iconst hC dX11_unknownCurrent_1 ?_
  refine k_icmp_lt hC 12 dX11_unknownCurrent_2 rfl (by omega) (by omega) (fun c_2 => ?_) (fun c_2 => ?_)
  · exact (by omega : False).elim
  · refine k_iload_n hC dX11_unknownCurrent_5 rfl 1 rfl ?_
    refine k_sipush hC dX11_unknownCurrent_6 (by decide) ?_
    refine k_icmp_le hC 23 dX11_unknownCurrent_9 rfl (by omega) (by omega) (fun c_9 => ?_) (fun c_9 => ?_)
    · refine k_aload_n hC dX11_unknownCurrent_23 rfl 0 rfl ?_
      refine k_get hC fd_X11_43 (kl hN (by decide)) h00 rfl dX11_unknownCurrent_24 ?_
      refine k_aload_n hC dX11_unknownCurrent_27 rfl 0 rfl ?_
      refine k_get hC fd_X11_25 (kl hN (by decide)) h00 rfl dX11_unknownCurrent_28 ?_
      refine k_aload_n hC dX11_unknownCurrent_31 rfl 0 rfl ?_
      refine k_get hC fd_X11_29 (kl hN (by decide)) h00 rfl dX11_unknownCurrent_32 ?_
      refine k_iload_n hC dX11_unknownCurrent_35 rfl 1 rfl ?_
      refine k_mutV hC (c_X0_findFix l hls G hN w fl g nl T hI (by omega) hL hP h10 h11 hLn hSh h15) yy_X0_findFix wm_X11_346 (kl hN (by decide)) h10 rfl rfl rfl rfl (Nat.le_of_ble_eq_true rfl) (by decide) (by decide) ⟨by decide, by decide⟩ dX11_unknownCurrent_36 (fun w1 hp1 => ?_)
      obtain ⟨⟨fz, fx, fy, h15_1, hfx⟩, hD1, hLn1, ⟨fla, flo, hsh1⟩, hf1⟩ := hp1
      have hfi := fixI_c g
      refine k_if_ne hC 45 dX11_unknownCurrent_39 rfl (by omega) (fun c_39 => ?_) (fun c_39 => ?_)
      · have ht : 0 ≤ T ∧ T ≤ 5000 := by omega
        have hfp : fixP g := ((fixI_c g).resolve_right (fun q1 => by omega)).2
        obtain ⟨efx, efy⟩ := hfx hfp
        subst efx
        subst efy
        have hfe := fixE_b g T
        have hfn := fixN_b g T
        have hd1 := dispM_b hI ht false
        have hd2 := dispM_b hI ht true
        have hdst := dstM_b hI ht
        refine k_aload_n hC dX11_unknownCurrent_45 rfl 0 rfl ?_
        have h_2 : w1 0 = .inr (11, [.ref (kad G 1), .ref (kad G 32), .ref (kad G 3), .ref (kad G 37), vI sv, .ref (kad G 44), .ref (kad G 10), .ref (kad G 116), .ref (kad G 129), .ref (kad G 132)]) := (hf1 0 (by omega)).trans h00
        refine k_get hC fd_X11_43 (kl hN (by decide)) h_2 rfl dX11_unknownCurrent_46 ?_
        have h_3 : w1 10 = .inr (0, [.ref (kad G 11), .ref (kad G 12), .ref (kad G 13), .ref (kad G 14), .ref (kad G 15), .ref (kad G 16)]) := (hf1 10 (by omega)).trans h10
        have h_4 : w1 11 = rA G 4 12 (fun j => some (kad G (20 + j))) := (hf1 11 (by omega)).trans h11
        refine k_pureV hC (c_X0_distanceOff l hls G hN w1 fl fz (fixE g T) (fixN g T) (dispM g T false) (dispM g T true) fla flo h_3 h_4 (by omega) (by omega) (by omega) (by omega) h15_1 hsh1) yy_X0_distanceOff wm_X11_362 (kl hN (by decide)) h_3 rfl rfl rfl rfl (Nat.le_of_ble_eq_true rfl) (by decide) (by decide) ⟨by decide, by decide⟩ dX11_unknownCurrent_49 ?_
        refine k_topI (fun di edi => ?_)
        refine k_istore_n hC [(3, vI di), (0, .ref (kad G 0)), (1, vI T), (2, vI dr)] dX11_unknownCurrent_52 rfl (by decide) rfl ?_
        rw [show rootM _ = dstM g T from rfl] at edi
        have hfd := k_fdivb (a := 6 * dstM g T) (b := T) (by omega)
        refine k_iload_n hC dX11_unknownCurrent_53 rfl 3 rfl ?_
        refine k_if_eq hC 72 dX11_unknownCurrent_54 rfl (by omega) (fun c_54 => ?_) (fun c_54 => ?_)
        · refine k_aload_n hC dX11_unknownCurrent_72 rfl 1 rfl ?_
          refine k_get hC fd_X11_43 (kl hN (by decide)) h_2 rfl dX11_unknownCurrent_73 ?_
          refine k_iload_n hC dX11_unknownCurrent_76 rfl 0 rfl ?_
          refine k_pureV hC (c_X0_directionOff l hls G hN w1 fl fz (fixE g T) (fixN g T) (dispM g T false) (dispM g T true) fla flo di h_3 h_4 (by omega) (by omega) (by omega) (by omega) (by omega) h15_1 hsh1) yy_X0_directionOff wm_X11_373 (kl hN (by decide)) h_3 rfl rfl rfl rfl (Nat.le_of_ble_eq_true rfl) (by decide) (by decide) ⟨by decide, by decide⟩ dX11_unknownCurrent_77 ?_
          have hB_5 : kHat G w1 := hH.fr (fun j q1 q2 => (hf1 j (by omega)))
          have hB_6 : kPl14 w1 := h14.fr (fun j q1 q2 => (hf1 j (by omega)))
          subst hQ
          exact k_iret hC hr ⟨by decide, by decide⟩ (⟨(by omega), congrArg (fun z => some (vI z)) (show ((unkV g T dr : _) = dirM ((fixE g T) - (dispM g T false)) ((fixN g T) - (dispM g T true)) di) from (by unfold unkV; first | exact selI_0 nfp | (rw [selI_1 hfp]; first | (rw [if_neg (by omega), edi]) | (rw [if_pos (by omega), edi])))), rfl, ⟨⟨⟨h_3, h_4⟩, hLn1, ⟨_, _, _, _, hsh1⟩, hB_5, hB_6, ⟨_, _, _, h15_1⟩⟩, fun j hj => hf1 j (by omega)⟩⟩) dX11_unknownCurrent_80
        · refine k_ldc2 hC (x := 6) (v := 6) dX11_unknownCurrent_57 (by decide) wk_X11_367 ?_
          refine k_iload_n hC dX11_unknownCurrent_60 rfl 0 rfl ?_
          refine k_i2l hC dX11_unknownCurrent_61 (by omega) ?_
          refine k_lmul hC dX11_unknownCurrent_62 ?_
          refine k_iload_n hC dX11_unknownCurrent_63 rfl 2 rfl ?_
          refine k_i2l hC dX11_unknownCurrent_64 (by omega) ?_
          refine k_pureS hC (c_X11_down l hls G hN w1 fl (6 * di) T (by omega) (by omega)) yy_X11_down wm_X11_369 rfl rfl (Nat.le_of_ble_eq_true rfl) (by decide) (by decide) ⟨by decide, by decide⟩ dX11_unknownCurrent_65 ?_
          refine k_l2i hC dX11_unknownCurrent_68 ?_
          refine k_goto hC 80 dX11_unknownCurrent_69 rfl ?_
          have hB_7 : kHat G w1 := hH.fr (fun j q1 q2 => (hf1 j (by omega)))
          have hB_8 : kPl14 w1 := h14.fr (fun j q1 q2 => (hf1 j (by omega)))
          subst hQ
          exact k_iret hC hr ⟨by decide, by decide⟩ (⟨(by omega), congrArg (fun z => some (vI z)) (show ((unkV g T dr : _) = (6 * di).fdiv T) from (by unfold unkV; first | exact selI_0 nfp | (rw [selI_1 hfp]; first | (rw [if_neg (by omega), edi]) | (rw [if_pos (by omega), edi])))), rfl, ⟨⟨⟨h_3, h_4⟩, hLn1, ⟨_, _, _, _, hsh1⟩, hB_7, hB_8, ⟨_, _, _, h15_1⟩⟩, fun j hj => hf1 j (by omega)⟩⟩) dX11_unknownCurrent_80
      · have nfp : ¬ fixP g := ((fixI_c g).resolve_left (fun q1 => by omega)).2
        refine k_ldc hC (x := (-1000000000)) (v := (-1000000000)) dX11_unknownCurrent_42 (by decide) wk_X11_143 ?_
        have hB_9 : kHat G w1 := hH.fr (fun j q1 q2 => (hf1 j (by omega)))
        have hB_10 : kPl14 w1 := h14.fr (fun j q1 q2 => (hf1 j (by omega)))
        have h_11 : w1 10 = .inr (0, [.ref (kad G 11), .ref (kad G 12), .ref (kad G 13), .ref (kad G 14), .ref (kad G 15), .ref (kad G 16)]) := (hf1 10 (by omega)).trans h10
        have h_12 : w1 11 = rA G 4 12 (fun j => some (kad G (20 + j))) := (hf1 11 (by omega)).trans h11
        subst hQ
        exact k_iret hC hr ⟨by decide, by decide⟩ (⟨(by omega), congrArg (fun z => some (vI z)) (show ((unkV g T dr : _) = -1000000000) from (by unfold unkV; first | exact selI_0 nfp | (rw [selI_1 hfp]; first | (rw [if_neg (by omega), edi]) | (rw [if_pos (by omega), edi])))), rfl, ⟨⟨⟨h_11, h_12⟩, hLn1, ⟨_, _, _, _, hsh1⟩, hB_9, hB_10, ⟨_, _, _, h15_1⟩⟩, fun j hj => hf1 j (by omega)⟩⟩) dX11_unknownCurrent_44
    · exact (by omega : False).elim

set_option maxRecDepth 100000 in
set_option maxHeartbeats 4000000 in
theorem n_X11_worst (l : Launch) (hls : l.stackTraces = false) (G : kG) (hN : 133 ≤ kN G) (w : Nat → va_E) (fl : va_W) (g nl : Nat → Int) (sv : Int) (T : Int) (hT : -2147483648 ≤ T ∧ T ≤ 2147483647) (hI : Inv g) (h00 : w 0 = srO G sv) (hL : kLog G w 3 g) (hP : kPlan G w 32 g nl) (hCt : kCht G w) (hcd : (0 ≤ T ∧ T ≤ 5000)) : KM l G yX11_worst cX11_worst 6 (some (FieldType.int)) 7 0 0 [.ref (kad G 0), vI T] w fl (kOk ((0 ≤ T ∧ T ≤ 5000)) (vI (worV g T)) fl (kCP G w)) := by
  refine KM_of2 hls (by decide +kernel) rfl (lv0 := [(0, .ref (kad G 0)), (1, vI T)]) rfl (Nat.le_of_ble_eq_true rfl) (fun p e R s m args below meth c Q hC hr hQ => ?_)
  obtain ⟨⟨h10, h11⟩, hLn, hSh, hH, h14, h15⟩ := hCt
  have h0 := hI.c
  refine k_iload_n hC dX11_worst_0 rfl 1 rfl ?_
  refine k_callS hC (n_X11_needTime l hls G hN w fl T (by omega) (by omega)) yy_X11_needTime wm_X11_226 rfl rfl (Nat.le_of_ble_eq_true rfl) (by decide) (by decide) ⟨by decide, by decide⟩ dX11_worst_1 (fun v9 w9 fl9 hp1 => ?_)
  obtain ⟨hc1_1, q1, q2, q3⟩ := hp1; subst q1; subst q2; subst q3
  have ht : 0 ≤ T ∧ T ≤ 5000 := by omega
  refine k_aload_n hC dX11_worst_4 rfl 0 rfl ?_
  refine k_get hC fd_X11_43 (kl hN (by decide)) h00 rfl dX11_worst_5 ?_
  refine k_aload_n hC dX11_worst_8 rfl 0 rfl ?_
  refine k_get hC fd_X11_25 (kl hN (by decide)) h00 rfl dX11_worst_9 ?_
  refine k_aload_n hC dX11_worst_12 rfl 0 rfl ?_
  refine k_get hC fd_X11_29 (kl hN (by decide)) h00 rfl dX11_worst_13 ?_
  refine k_iload_n hC dX11_worst_16 rfl 1 rfl ?_
  refine k_mutV hC (c_X0_findFix l hls G hN w fl g nl T hI (by omega) hL hP h10 h11 hLn hSh h15) yy_X0_findFix wm_X11_346 (kl hN (by decide)) h10 rfl rfl rfl rfl (Nat.le_of_ble_eq_true rfl) (by decide) (by decide) ⟨by decide, by decide⟩ dX11_worst_17 (fun w2 hp2 => ?_)
  obtain ⟨⟨fz, fx, fy, h15_2, hfx⟩, hD2, hLn2, ⟨fla, flo, hsh2⟩, hf2⟩ := hp2
  have hfi := fixI_c g
  refine k_if_ne hC 25 dX11_worst_20 rfl (by omega) (fun c_20 => ?_) (fun c_20 => ?_)
  · have hfp : fixP g := ((fixI_c g).resolve_right (fun q1 => by omega)).2
    obtain ⟨efx, efy⟩ := hfx hfp
    subst efx
    subst efy
    have hfe := fixE_b g T
    have hfn := fixN_b g T
    have hd1 := dispM_b hI ht false
    have hd2 := dispM_b hI ht true
    have hdst := dstM_b hI ht
    refine k_iconst hC dX11_worst_25 ?_
    refine k_istore_n hC [(2, vI (-1)), (0, .ref (kad G 0)), (1, vI T)] dX11_worst_26 rfl (by decide) rfl ?_
    refine k_iconst hC dX11_worst_27 ?_
    refine k_istore_n hC [(3, vI (-1)), (2, vI (-1)), (0, .ref (kad G 0)), (1, vI T)] dX11_worst_28 rfl (by decide) rfl ?_
    refine k_iconst hC dX11_worst_29 ?_
    refine k_istore hC [(4, vI 0), (3, vI (-1)), (2, vI (-1)), (0, .ref (kad G 0)), (1, vI T)] dX11_worst_30 (by decide) rfl ?_
    have loop : ∀ (n : Nat) (k : Nat) (f : Int) (b : Int), ((g 2).toNat < n + k) → ((k : Int) ≤ g 2) → ((-1 ≤ f ∧ f ≤ 12) ∧ (-1 ≤ b ∧ b ≤ 6300000)) → ((f, b) = worS g T k) → KW p l e R s m args below meth c 6 G Q w2 fl 0 0 32 [(4, vI (k : Int)), (3, vI b), (2, vI f), (0, .ref (kad G 0)), (1, vI T)] [] := by
      intro n
      induction n with
      | zero =>
        intro k f b hn_ hk hst hq
        exact absurd hn_ (by omega)
      | succ n ih =>
        intro k f b hn_ hk hst hq
        refine k_iload hC dX11_worst_32 0 rfl ?_
        refine k_aload_n hC dX11_worst_34 rfl 3 rfl ?_
        have h_3 : w2 0 = .inr (11, [.ref (kad G 1), .ref (kad G 32), .ref (kad G 3), .ref (kad G 37), vI sv, .ref (kad G 44), .ref (kad G 10), .ref (kad G 116), .ref (kad G 129), .ref (kad G 132)]) := (hf2 0 (by omega)).trans h00
        refine k_get hC fd_X11_29 (kl hN (by decide)) h_3 rfl dX11_worst_35 ?_
        have hB_4 : kLog G w2 3 g := hL.fr (fun j q1 q2 => (hf2 j (by omega)))
        refine k_get hC fd_X11_112 (kl hN (by decide)) hB_4.1 rfl dX11_worst_38 ?_
        refine k_icmp_ge hC 86 dX11_worst_41 rfl (by omega) (by omega) (fun c_41 => ?_) (fun c_41 => ?_)
        · have ek : (g 2).toNat = k := by omega
          refine k_iload_n hC dX11_worst_86 rfl 2 rfl ?_
          have hB_5 : kHat G w2 := hH.fr (fun j q1 q2 => (hf2 j (by omega)))
          have hB_6 : kPl14 w2 := h14.fr (fun j q1 q2 => (hf2 j (by omega)))
          have h_7 : w2 10 = .inr (0, [.ref (kad G 11), .ref (kad G 12), .ref (kad G 13), .ref (kad G 14), .ref (kad G 15), .ref (kad G 16)]) := (hf2 10 (by omega)).trans h10
          have h_8 : w2 11 = rA G 4 12 (fun j => some (kad G (20 + j))) := (hf2 11 (by omega)).trans h11
          subst hQ
          exact k_iret hC hr ⟨by decide, by decide⟩ (⟨(by omega), congrArg (fun z => some (vI z)) (show ((worV g T : _) = f) from (by unfold worV; first | exact selI_0 nfp | (rw [selI_1 hfp, ek, ← hq]))), rfl, ⟨⟨⟨h_7, h_8⟩, hLn2, ⟨_, _, _, _, hsh2⟩, hB_5, hB_6, ⟨_, _, _, h15_2⟩⟩, fun j hj => hf2 j (by omega)⟩⟩) dX11_worst_87
        · have hrb := resM_b hI ht k (by omega)
          have hcr := carM_b hI k (by omega) ht
          have hal := along_b 1000000 1000000 (fixE_b g T) (fixN_b g T) (sinM_b (aziM g k)) (cosM_b (aziM g k))
          have hln_9 := hD2 k (by omega) (by omega)
          have hcb_10 := carM_b hI k (by omega) ht
          have hsb_11 := sinM_b (aziM g k)
          have hcb_12 := cosM_b (aziM g k)
          refine k_aload_n hC dX11_worst_44 rfl 3 rfl ?_
          refine k_get hC fd_X11_43 (kl hN (by decide)) h_3 rfl dX11_worst_45 ?_
          refine k_iload hC dX11_worst_48 0 rfl ?_
          have h_13 : w2 10 = .inr (0, [.ref (kad G 11), .ref (kad G 12), .ref (kad G 13), .ref (kad G 14), .ref (kad G 15), .ref (kad G 16)]) := (hf2 10 (by omega)).trans h10
          have h_14 : w2 11 = rA G 4 12 (fun j => some (kad G (20 + j))) := (hf2 11 (by omega)).trans h11
          refine k_pureV hC (c_X0_lineOf l hls G hN w2 fl k (by omega) h_13 h_14) yy_X0_lineOf wm_X11_257 (kl hN (by decide)) h_13 rfl rfl rfl rfl (Nat.le_of_ble_eq_true rfl) (by decide) (by decide) ⟨by decide, by decide⟩ dX11_worst_50 ?_
          refine k_aload_n hC dX11_worst_53 rfl 3 rfl ?_
          refine k_get hC fd_X11_43 (kl hN (by decide)) h_3 rfl dX11_worst_54 ?_
          refine k_get hC fd_X11_350 (kl hN (by decide)) h_13 rfl dX11_worst_57 ?_
          refine k_pureV hC (c_X3_missedBy l hls G hN w2 fl (20 + k) 15 (apM g k) (obsM g k) (expM g k) (aziM g k) (intM g k) (offM g k) (carM g k T) (sinM (aziM g k)) (cosM (aziM g k)) fz (fixE g T) (fixN g T) (by omega) (by omega) (by omega) (by omega) (by omega) (by omega) hln_9 h15_2) yy_X3_missedBy wm_X11_353 (kl hN (by omega)) hln_9 rfl rfl rfl rfl (Nat.le_of_ble_eq_true rfl) (by decide) (by decide) ⟨by decide, by decide⟩ dX11_worst_60 ?_
          refine k_mabs hC wm_X11_357 wmath_mabs (by omega) (by decide) (Nat.le_of_ble_eq_true rfl) ⟨by decide, by decide⟩ dX11_worst_63 ?_
          refine k_istore hC [(5, vI ((along (fixE g T) (fixN g T) (sinM (aziM g k)) (cosM (aziM g k)) - (carM g k T)).natAbs : Int)), (4, vI (k : Int)), (3, vI b), (2, vI f), (0, .ref (kad G 0)), (1, vI T)] dX11_worst_66 (by decide) rfl ?_
          refine k_iload hC dX11_worst_68 0 rfl ?_
          refine k_iload_n hC dX11_worst_70 rfl 2 rfl ?_
          refine k_icmp_le hC 80 dX11_worst_71 rfl (by omega) (by omega) (fun c_71 => ?_) (fun c_71 => ?_)
          · refine k_iinc hC (y := (k : Int) + 1) [(4, vI ((k : Int) + 1)), (5, vI ((along (fixE g T) (fixN g T) (sinM (aziM g k)) (cosM (aziM g k)) - (carM g k T)).natAbs : Int)), (3, vI b), (2, vI f), (0, .ref (kad G 0)), (1, vI T)] (j := 1) dX11_worst_80 rfl (by omega) (by decide) rfl ?_
            refine k_goto hC 32 dX11_worst_83 rfl ?_
            refine k_lvs (ls := [0, 2, 3, 4, 5]) [(4, vI ((k : Int) + 1)), (3, vI b), (2, vI f), (0, .ref (kad G 0)), (1, vI T)] rfl ?_
            refine k_lvs (ls := [0, 1, 2, 3, 4]) [(4, vI ((k + 1 : Nat) : Int)), (3, vI b), (2, vI f), (0, .ref (kad G 0)), (1, vI T)] (by simp only [lv_pick]; rfl) ?_
            exact ih (k + 1) f b  (by omega) (by omega) (by omega) (by show _ = @ite (Int × Int) _ _ _ _; rw [← hq]; first | exact (if_pos (show b < ((resM g T k).natAbs : Int) by unfold resM; omega)).symm | exact (if_neg (show ¬ b < ((resM g T k).natAbs : Int) by unfold resM; omega)).symm)
          · refine k_iload hC dX11_worst_74 1 rfl ?_
            refine k_istore_n hC [(2, vI (k : Int)), (5, vI ((along (fixE g T) (fixN g T) (sinM (aziM g k)) (cosM (aziM g k)) - (carM g k T)).natAbs : Int)), (4, vI (k : Int)), (3, vI b), (0, .ref (kad G 0)), (1, vI T)] dX11_worst_76 rfl (by decide) rfl ?_
            refine k_iload hC dX11_worst_77 1 rfl ?_
            refine k_istore_n hC [(3, vI ((along (fixE g T) (fixN g T) (sinM (aziM g k)) (cosM (aziM g k)) - (carM g k T)).natAbs : Int)), (2, vI (k : Int)), (5, vI ((along (fixE g T) (fixN g T) (sinM (aziM g k)) (cosM (aziM g k)) - (carM g k T)).natAbs : Int)), (4, vI (k : Int)), (0, .ref (kad G 0)), (1, vI T)] dX11_worst_79 rfl (by decide) rfl ?_
            refine k_iinc hC (y := (k : Int) + 1) [(4, vI ((k : Int) + 1)), (3, vI ((along (fixE g T) (fixN g T) (sinM (aziM g k)) (cosM (aziM g k)) - (carM g k T)).natAbs : Int)), (2, vI (k : Int)), (5, vI ((along (fixE g T) (fixN g T) (sinM (aziM g k)) (cosM (aziM g k)) - (carM g k T)).natAbs : Int)), (0, .ref (kad G 0)), (1, vI T)] (j := 3) dX11_worst_80 rfl (by omega) (by decide) rfl ?_
            refine k_goto hC 32 dX11_worst_83 rfl ?_
            refine k_lvs (ls := [0, 1, 2, 4, 5]) [(4, vI ((k : Int) + 1)), (3, vI ((along (fixE g T) (fixN g T) (sinM (aziM g k)) (cosM (aziM g k)) - (carM g k T)).natAbs : Int)), (2, vI (k : Int)), (0, .ref (kad G 0)), (1, vI T)] rfl ?_
            refine k_lvs (ls := [0, 1, 2, 3, 4]) [(4, vI ((k + 1 : Nat) : Int)), (3, vI ((along (fixE g T) (fixN g T) (sinM (aziM g k)) (cosM (aziM g k)) - (carM g k T)).natAbs : Int)), (2, vI (k : Int)), (0, .ref (kad G 0)), (1, vI T)] (by simp only [lv_pick]; rfl) ?_
            exact ih (k + 1) (k : Int) ((along (fixE g T) (fixN g T) (sinM (aziM g k)) (cosM (aziM g k)) - (carM g k T)).natAbs : Int)  (by omega) (by omega) (by omega) (by show _ = @ite (Int × Int) _ _ _ _; rw [← hq]; first | exact (if_pos (show b < ((resM g T k).natAbs : Int) by unfold resM; omega)).symm | exact (if_neg (show ¬ b < ((resM g T k).natAbs : Int) by unfold resM; omega)).symm)
    refine k_lvs (ls := [0, 1, 2, 3, 4]) [(4, vI ((0 : Nat) : Int)), (3, vI (-1)), (2, vI (-1)), (0, .ref (kad G 0)), (1, vI T)] (by simp only [lv_pick]; rfl) ?_
    exact loop 13 0 (-1) (-1)  (by omega) (by omega) (by omega) rfl
  · have nfp : ¬ fixP g := ((fixI_c g).resolve_left (fun q1 => by omega)).2
    refine k_iconst hC dX11_worst_23 ?_
    have hB_15 : kHat G w2 := hH.fr (fun j q1 q2 => (hf2 j (by omega)))
    have hB_16 : kPl14 w2 := h14.fr (fun j q1 q2 => (hf2 j (by omega)))
    have h_17 : w2 10 = .inr (0, [.ref (kad G 11), .ref (kad G 12), .ref (kad G 13), .ref (kad G 14), .ref (kad G 15), .ref (kad G 16)]) := (hf2 10 (by omega)).trans h10
    have h_18 : w2 11 = rA G 4 12 (fun j => some (kad G (20 + j))) := (hf2 11 (by omega)).trans h11
    subst hQ
    exact k_iret hC hr ⟨by decide, by decide⟩ (⟨(by omega), congrArg (fun z => some (vI z)) (show ((worV g T : _) = -1) from (by unfold worV; first | exact selI_0 nfp | (rw [selI_1 hfp, ek, ← hq]))), rfl, ⟨⟨⟨h_17, h_18⟩, hLn2, ⟨_, _, _, _, hsh2⟩, hB_15, hB_16, ⟨_, _, _, h15_2⟩⟩, fun j hj => hf2 j (by omega)⟩⟩) dX11_worst_24

set_option maxRecDepth 100000 in
set_option maxHeartbeats 4000000 in
theorem n_X11_meanResidual (l : Launch) (hls : l.stackTraces = false) (G : kG) (hN : 133 ≤ kN G) (w : Nat → va_E) (fl : va_W) (g nl : Nat → Int) (sv : Int) (T : Int) (hT : -2147483648 ≤ T ∧ T ≤ 2147483647) (hI : Inv g) (h00 : w 0 = srO G sv) (hL : kLog G w 3 g) (hP : kPlan G w 32 g nl) (hCt : kCht G w) (hcd : (0 ≤ T ∧ T ≤ 5000)) : KM l G yX11_meanResidual cX11_meanResidual 5 (some (FieldType.double)) 7 0 0 [.ref (kad G 0), vI T] w fl (kOk ((0 ≤ T ∧ T ≤ 5000)) (Value.double (mrV g T)) fl (kCP G w)) := by
  refine KM_of2 hls (by decide +kernel) rfl (lv0 := [(0, .ref (kad G 0)), (1, vI T)]) rfl (Nat.le_of_ble_eq_true rfl) (fun p e R s m args below meth c Q hC hr hQ => ?_)
  obtain ⟨⟨h10, h11⟩, hLn, hSh, hH, h14, h15⟩ := hCt
  have h0 := hI.c
  refine k_iload_n hC dX11_meanResidual_0 rfl 1 rfl ?_
  refine k_callS hC (n_X11_needTime l hls G hN w fl T (by omega) (by omega)) yy_X11_needTime wm_X11_226 rfl rfl (Nat.le_of_ble_eq_true rfl) (by decide) (by decide) ⟨by decide, by decide⟩ dX11_meanResidual_1 (fun v9 w9 fl9 hp1 => ?_)
  obtain ⟨hc1_1, q1, q2, q3⟩ := hp1; subst q1; subst q2; subst q3
  have ht : 0 ≤ T ∧ T ≤ 5000 := by omega
  refine k_aload_n hC dX11_meanResidual_4 rfl 0 rfl ?_
  refine k_get hC fd_X11_29 (kl hN (by decide)) h00 rfl dX11_meanResidual_5 ?_
  refine k_get hC fd_X11_112 (kl hN (by decide)) hL.1 rfl dX11_meanResidual_8 ?_
  refine k_if_eq hC 33 dX11_meanResidual_11 rfl (by omega) (fun c_11 => ?_) (fun c_11 => ?_)
  · refine k_dconst0 hC dX11_meanResidual_33 ?_
    subst hQ
    exact k_dret hC hr ⟨by decide, by decide⟩ (⟨(by omega), congrArg (fun z => some (Value.double z)) (show ((mrV g T : _) = 0) from (by unfold mrV; first | exact if_pos (Or.inl (by omega)) | exact if_pos (Or.inr nfp) | (rw [if_neg (fun q1 => q1.elim (fun q2 => by omega) (fun q2 => q2 hfp)), ek, ← hq]))), rfl, ⟨⟨⟨h10, h11⟩, hLn, hSh, hH, h14, h15⟩, fun j hj => rfl⟩⟩) dX11_meanResidual_34
  · refine k_aload_n hC dX11_meanResidual_14 rfl 0 rfl ?_
    refine k_get hC fd_X11_43 (kl hN (by decide)) h00 rfl dX11_meanResidual_15 ?_
    refine k_aload_n hC dX11_meanResidual_18 rfl 0 rfl ?_
    refine k_get hC fd_X11_25 (kl hN (by decide)) h00 rfl dX11_meanResidual_19 ?_
    refine k_aload_n hC dX11_meanResidual_22 rfl 0 rfl ?_
    refine k_get hC fd_X11_29 (kl hN (by decide)) h00 rfl dX11_meanResidual_23 ?_
    refine k_iload_n hC dX11_meanResidual_26 rfl 1 rfl ?_
    refine k_mutV hC (c_X0_findFix l hls G hN w fl g nl T hI (by omega) hL hP h10 h11 hLn hSh h15) yy_X0_findFix wm_X11_346 (kl hN (by decide)) h10 rfl rfl rfl rfl (Nat.le_of_ble_eq_true rfl) (by decide) (by decide) ⟨by decide, by decide⟩ dX11_meanResidual_27 (fun w2 hp2 => ?_)
    obtain ⟨⟨fz, fx, fy, h15_2, hfx⟩, hD2, hLn2, ⟨fla, flo, hsh2⟩, hf2⟩ := hp2
    have hfi := fixI_c g
    refine k_if_ne hC 35 dX11_meanResidual_30 rfl (by omega) (fun c_30 => ?_) (fun c_30 => ?_)
    · have hfp : fixP g := ((fixI_c g).resolve_right (fun q1 => by omega)).2
      obtain ⟨efx, efy⟩ := hfx hfp
      subst efx
      subst efy
      have hfe := fixE_b g T
      have hfn := fixN_b g T
      have hd1 := dispM_b hI ht false
      have hd2 := dispM_b hI ht true
      have hdst := dstM_b hI ht
      refine k_lconst (x := 0) hC dX11_meanResidual_35 (by decide) ?_
      refine k_lstore_n hC [(2, vL 0), (0, .ref (kad G 0)), (1, vI T)] dX11_meanResidual_36 rfl (by decide) rfl ?_
      refine k_iconst hC dX11_meanResidual_37 ?_
      refine k_istore hC [(4, vI 0), (2, vL 0), (0, .ref (kad G 0)), (1, vI T)] dX11_meanResidual_38 (by decide) rfl ?_
      have loop : ∀ (n : Nat) (k : Nat) (sm : Int), ((g 2).toNat < n + k) → ((k : Int) ≤ g 2) → (0 ≤ sm ∧ sm ≤ 6300000 * (k : Int)) → (sm = sumR g T k) → KW p l e R s m args below meth c 5 G Q w2 fl 0 0 40 [(4, vI (k : Int)), (2, vL sm), (0, .ref (kad G 0)), (1, vI T)] [] := by
        intro n
        induction n with
        | zero =>
          intro k sm hn_ hk hst hq
          exact absurd hn_ (by omega)
        | succ n ih =>
          intro k sm hn_ hk hst hq
          refine k_iload hC dX11_meanResidual_40 0 rfl ?_
          refine k_aload_n hC dX11_meanResidual_42 rfl 2 rfl ?_
          have h_3 : w2 0 = .inr (11, [.ref (kad G 1), .ref (kad G 32), .ref (kad G 3), .ref (kad G 37), vI sv, .ref (kad G 44), .ref (kad G 10), .ref (kad G 116), .ref (kad G 129), .ref (kad G 132)]) := (hf2 0 (by omega)).trans h00
          refine k_get hC fd_X11_29 (kl hN (by decide)) h_3 rfl dX11_meanResidual_43 ?_
          have h_4 : w2 3 = .inr (4, [vI (g 5), vI (g 6), vI (g 7), vI (g 8), vI (g 1), .ref (kad G 4), .ref (kad G 5), .ref (kad G 6), vI (g 2), .ref (kad G 7), .ref (kad G 8), .ref (kad G 9)]) := (hf2 3 (by omega)).trans hL.1
          refine k_get hC fd_X11_112 (kl hN (by decide)) h_4 rfl dX11_meanResidual_46 ?_
          refine k_icmp_ge hC 84 dX11_meanResidual_49 rfl (by omega) (by omega) (fun c_49 => ?_) (fun c_49 => ?_)
          · have ek : (g 2).toNat = k := by omega
            refine k_lload_n hC dX11_meanResidual_84 rfl 1 rfl ?_
            refine k_l2d hC dX11_meanResidual_85 (by omega) ?_
            refine k_aload_n hC dX11_meanResidual_86 rfl 2 rfl ?_
            refine k_get hC fd_X11_29 (kl hN (by decide)) h_3 rfl dX11_meanResidual_87 ?_
            refine k_get hC fd_X11_112 (kl hN (by decide)) h_4 rfl dX11_meanResidual_90 ?_
            refine k_i2d hC dX11_meanResidual_93 (by omega) ?_
            refine k_ddiv hC dX11_meanResidual_94 (ddiv_n _ (by omega)) ?_
            have hB_5 : kHat G w2 := hH.fr (fun j q1 q2 => (hf2 j (by omega)))
            have hB_6 : kPl14 w2 := h14.fr (fun j q1 q2 => (hf2 j (by omega)))
            have h_7 : w2 10 = .inr (0, [.ref (kad G 11), .ref (kad G 12), .ref (kad G 13), .ref (kad G 14), .ref (kad G 15), .ref (kad G 16)]) := (hf2 10 (by omega)).trans h10
            have h_8 : w2 11 = rA G 4 12 (fun j => some (kad G (20 + j))) := (hf2 11 (by omega)).trans h11
            subst hQ
            exact k_dret hC hr ⟨by decide, by decide⟩ (⟨(by omega), congrArg (fun z => some (Value.double z)) (show ((mrV g T : _) = FP.ddiv (dI sm) (dI (g 2))) from (by unfold mrV; first | exact if_pos (Or.inl (by omega)) | exact if_pos (Or.inr nfp) | (rw [if_neg (fun q1 => q1.elim (fun q2 => by omega) (fun q2 => q2 hfp)), ek, ← hq]))), rfl, ⟨⟨⟨h_7, h_8⟩, hLn2, ⟨_, _, _, _, hsh2⟩, hB_5, hB_6, ⟨_, _, _, h15_2⟩⟩, fun j hj => hf2 j (by omega)⟩⟩) dX11_meanResidual_95
          · have hrb := resM_b hI ht k (by omega)
            have hcr := carM_b hI k (by omega) ht
            have hal := along_b 1000000 1000000 (fixE_b g T) (fixN_b g T) (sinM_b (aziM g k)) (cosM_b (aziM g k))
            have hrm : resM g T k = along (fixE g T) (fixN g T) (sinM (aziM g k)) (cosM (aziM g k)) - carM g k T := rfl
            have hln_9 := hD2 k (by omega) (by omega)
            have hcb_10 := carM_b hI k (by omega) ht
            have hsb_11 := sinM_b (aziM g k)
            have hcb_12 := cosM_b (aziM g k)
            refine k_lload_n hC dX11_meanResidual_52 rfl 1 rfl ?_
            refine k_aload_n hC dX11_meanResidual_53 rfl 2 rfl ?_
            refine k_get hC fd_X11_43 (kl hN (by decide)) h_3 rfl dX11_meanResidual_54 ?_
            refine k_iload hC dX11_meanResidual_57 0 rfl ?_
            have h_13 : w2 10 = .inr (0, [.ref (kad G 11), .ref (kad G 12), .ref (kad G 13), .ref (kad G 14), .ref (kad G 15), .ref (kad G 16)]) := (hf2 10 (by omega)).trans h10
            have h_14 : w2 11 = rA G 4 12 (fun j => some (kad G (20 + j))) := (hf2 11 (by omega)).trans h11
            refine k_pureV hC (c_X0_lineOf l hls G hN w2 fl k (by omega) h_13 h_14) yy_X0_lineOf wm_X11_257 (kl hN (by decide)) h_13 rfl rfl rfl rfl (Nat.le_of_ble_eq_true rfl) (by decide) (by decide) ⟨by decide, by decide⟩ dX11_meanResidual_59 ?_
            refine k_aload_n hC dX11_meanResidual_62 rfl 2 rfl ?_
            refine k_get hC fd_X11_43 (kl hN (by decide)) h_3 rfl dX11_meanResidual_63 ?_
            refine k_get hC fd_X11_350 (kl hN (by decide)) h_13 rfl dX11_meanResidual_66 ?_
            refine k_pureV hC (c_X3_missedBy l hls G hN w2 fl (20 + k) 15 (apM g k) (obsM g k) (expM g k) (aziM g k) (intM g k) (offM g k) (carM g k T) (sinM (aziM g k)) (cosM (aziM g k)) fz (fixE g T) (fixN g T) (by omega) (by omega) (by omega) (by omega) (by omega) (by omega) hln_9 h15_2) yy_X3_missedBy wm_X11_353 (kl hN (by omega)) hln_9 rfl rfl rfl rfl (Nat.le_of_ble_eq_true rfl) (by decide) (by decide) ⟨by decide, by decide⟩ dX11_meanResidual_69 ?_
            refine k_mabs hC wm_X11_357 wmath_mabs (by omega) (by decide) (Nat.le_of_ble_eq_true rfl) ⟨by decide, by decide⟩ dX11_meanResidual_72 ?_
            refine k_i2l hC dX11_meanResidual_75 (by omega) ?_
            refine k_ladd hC dX11_meanResidual_76 ?_
            refine k_lstore_n hC [(2, vL (sm + ((along (fixE g T) (fixN g T) (sinM (aziM g k)) (cosM (aziM g k)) - (carM g k T)).natAbs : Int))), (4, vI (k : Int)), (0, .ref (kad G 0)), (1, vI T)] dX11_meanResidual_77 rfl (by decide) rfl ?_
            refine k_iinc hC (y := (k : Int) + 1) [(4, vI ((k : Int) + 1)), (2, vL (sm + ((along (fixE g T) (fixN g T) (sinM (aziM g k)) (cosM (aziM g k)) - (carM g k T)).natAbs : Int))), (0, .ref (kad G 0)), (1, vI T)] (j := 1) dX11_meanResidual_78 rfl (by omega) (by decide) rfl ?_
            refine k_goto hC 40 dX11_meanResidual_81 rfl ?_
            refine k_lvs (ls := [0, 1, 2, 3]) [(4, vI ((k + 1 : Nat) : Int)), (2, vL (sm + ((along (fixE g T) (fixN g T) (sinM (aziM g k)) (cosM (aziM g k)) - (carM g k T)).natAbs : Int))), (0, .ref (kad G 0)), (1, vI T)] (by simp only [lv_pick]; rfl) ?_
            exact ih (k + 1) (sm + ((along (fixE g T) (fixN g T) (sinM (aziM g k)) (cosM (aziM g k)) - (carM g k T)).natAbs : Int))  (by omega) (by omega) (by omega) (by rw [hq]; rfl)
      refine k_lvs (ls := [0, 1, 2, 3]) [(4, vI ((0 : Nat) : Int)), (2, vL 0), (0, .ref (kad G 0)), (1, vI T)] (by simp only [lv_pick]; rfl) ?_
      exact loop 13 0 0  (by omega) (by omega) (by omega) rfl
    · have nfp : ¬ fixP g := ((fixI_c g).resolve_left (fun q1 => by omega)).2
      refine k_dconst0 hC dX11_meanResidual_33 ?_
      have hB_15 : kHat G w2 := hH.fr (fun j q1 q2 => (hf2 j (by omega)))
      have hB_16 : kPl14 w2 := h14.fr (fun j q1 q2 => (hf2 j (by omega)))
      have h_17 : w2 10 = .inr (0, [.ref (kad G 11), .ref (kad G 12), .ref (kad G 13), .ref (kad G 14), .ref (kad G 15), .ref (kad G 16)]) := (hf2 10 (by omega)).trans h10
      have h_18 : w2 11 = rA G 4 12 (fun j => some (kad G (20 + j))) := (hf2 11 (by omega)).trans h11
      subst hQ
      exact k_dret hC hr ⟨by decide, by decide⟩ (⟨(by omega), congrArg (fun z => some (Value.double z)) (show ((mrV g T : _) = 0) from (by unfold mrV; first | exact if_pos (Or.inl (by omega)) | exact if_pos (Or.inr nfp) | (rw [if_neg (fun q1 => q1.elim (fun q2 => by omega) (fun q2 => q2 hfp)), ek, ← hq]))), rfl, ⟨⟨⟨h_17, h_18⟩, hLn2, ⟨_, _, _, _, hsh2⟩, hB_15, hB_16, ⟨_, _, _, h15_2⟩⟩, fun j hj => hf2 j (by omega)⟩⟩) dX11_meanResidual_34

