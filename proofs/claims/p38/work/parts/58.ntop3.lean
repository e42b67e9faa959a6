set_option maxRecDepth 100000 in
set_option maxHeartbeats 4000000 in
theorem n_X11_observe (l : Launch) (hls : l.stackTraces = false) (G : kG) (hN : 133 ≤ kN G) (w : Nat → va_E) (fl : va_W) (g nl : Nat → Int) (sv : Int) (hs : Nat → Nat → Int) (nx : Nat) (cn : Int) (b T a : Int) (hb : -2147483648 ≤ b ∧ b ≤ 2147483647) (hT : -2147483648 ≤ T ∧ T ≤ 2147483647) (ha : -2147483648 ≤ a ∧ a ≤ 2147483647) (hnx : nx < 10) (hcn : 0 ≤ cn ∧ cn ≤ 10) (hHi : kHist G w hs (nx : Int) cn) (hI : Inv g) (h00 : w 0 = srO G sv) (hL : kLog G w 3 g) (hP : kPlan G w 32 g nl) (hCt : kCht G w) (hcd : ((0 ≤ b ∧ b < g 0) ∧ (0 ≤ T ∧ T ≤ 5000)) ∧ (300 ≤ a ∧ a ≤ 5100)) : KM l G yX11_observe cX11_observe 4 (some (FieldType.int)) 6 0 0 [.ref (kad G 0), vI b, vI T, vI a] w fl (kOk (((0 ≤ b ∧ b < g 0) ∧ (0 ≤ T ∧ T ≤ 5000)) ∧ (300 ≤ a ∧ a ≤ 5100)) (vI (if 12 ≤ g 2 then -2 else g 2)) fl (fun w1 => (12 ≤ g 2 ∧ w1 = w) ∨ (¬ 12 ≤ g 2 ∧ kLog G w1 3 (addSightM g b T a) ∧ kHist G w1 (hsP hs nx g) (((nx + 1) % 10 : Nat) : Int) (min (cn + 1) 10) ∧ ∀ j, ((j < 3 ∨ 9 < j) ∧ (j < 44 ∨ 115 < j)) → w1 j = w j))) := by
  refine KM_of2 hls (by decide +kernel) rfl (lv0 := [(0, .ref (kad G 0)), (1, vI b), (2, vI T), (3, vI a)]) rfl (Nat.le_of_ble_eq_true rfl) (fun p e R s m args below meth c Q hC hr hQ => ?_)
  obtain ⟨⟨h10, h11⟩, hLn, hSh, hH, h14, h15⟩ := hCt
  have h0 := hI.c
  refine k_aload_n hC dX11_observe_0 rfl 0 rfl ?_
  refine k_iload_n hC dX11_observe_1 rfl 1 rfl ?_
  refine k_callV hC (n_X11_needBody l hls G hN w fl g nl sv b (by omega) hI h00 hP (by omega)) yy_X11_needBody wm_X11_191 (kl hN (by decide)) h00 rfl rfl rfl rfl (Nat.le_of_ble_eq_true rfl) (by decide) (by decide) ⟨by decide, by decide⟩ dX11_observe_2 (fun v9 w9 fl9 hp1 => ?_)
  obtain ⟨hc2_1, q1, q2, q3⟩ := hp1; subst q1; subst q2; subst q3
  refine k_iload_n hC dX11_observe_5 rfl 2 rfl ?_
  refine k_callS hC (n_X11_needTime l hls G hN w fl T (by omega) (by omega)) yy_X11_needTime wm_X11_226 rfl rfl (Nat.le_of_ble_eq_true rfl) (by decide) (by decide) ⟨by decide, by decide⟩ dX11_observe_6 (fun v9 w9 fl9 hp2 => ?_)
  obtain ⟨hc6_2, q1, q2, q3⟩ := hp2; subst q1; subst q2; subst q3
  refine k_iload_n hC dX11_observe_9 rfl 3 rfl ?_
  refine k_sipush hC dX11_observe_10 (by decide) ?_
  refine k_icmp_lt hC 23 dX11_observe_13 rfl (by omega) (by omega) (fun c_13 => ?_) (fun c_13 => ?_)
  · exact (by omega : False).elim
  · refine k_iload_n hC dX11_observe_16 rfl 3 rfl ?_
    refine k_sipush hC dX11_observe_17 (by decide) ?_
    refine k_icmp_le hC 34 dX11_observe_20 rfl (by omega) (by omega) (fun c_20 => ?_) (fun c_20 => ?_)
    · refine k_aload_n hC dX11_observe_34 rfl 0 rfl ?_
      refine k_get hC fd_X11_29 (kl hN (by decide)) h00 rfl dX11_observe_35 ?_
      refine k_get hC fd_X11_112 (kl hN (by decide)) hL.1 rfl dX11_observe_38 ?_
      refine k_bipush hC dX11_observe_41 (by decide) ?_
      refine k_icmp_lt hC 49 dX11_observe_43 rfl (by omega) (by omega) (fun c_43 => ?_) (fun c_43 => ?_)
      · refine k_aload_n hC dX11_observe_49 rfl 0 rfl ?_
        refine k_get hC fd_X11_39 (kl hN (by decide)) h00 rfl dX11_observe_50 ?_
        refine k_aload_n hC dX11_observe_53 rfl 0 rfl ?_
        refine k_get hC fd_X11_29 (kl hN (by decide)) h00 rfl dX11_observe_54 ?_
        have h44_3 : w 44 = hisO G (nx : Int) cn := hHi.1.1
        refine k_muvV hC (c_X2_remember l hls G hN w fl hs nx cn g hnx hcn hHi hL) yy_X2_remember wm_X11_378 (kl hN (by decide)) h44_3 rfl rfl rfl rfl (Nat.le_of_ble_eq_true rfl) (by decide) (by decide) ⟨by decide, by decide⟩ dX11_observe_57 (fun w3 hp3 => ?_)
        obtain ⟨hHi3, hf3⟩ := hp3
        refine k_aload_n hC dX11_observe_60 rfl 0 rfl ?_
        have h_4 : w3 0 = .inr (11, [.ref (kad G 1), .ref (kad G 32), .ref (kad G 3), .ref (kad G 37), vI sv, .ref (kad G 44), .ref (kad G 10), .ref (kad G 116), .ref (kad G 129), .ref (kad G 132)]) := (hf3 0 (by omega)).trans h00
        refine k_get hC fd_X11_29 (kl hN (by decide)) h_4 rfl dX11_observe_61 ?_
        refine k_iload_n hC dX11_observe_64 rfl 1 rfl ?_
        refine k_iload_n hC dX11_observe_65 rfl 2 rfl ?_
        refine k_iload_n hC dX11_observe_66 rfl 3 rfl ?_
        have hB_5 : kLog G w3 3 g := hL.fr (fun j q1 q2 => (hf3 j (by omega)))
        have h_7 : w3 3 = .inr (4, [vI (g 5), vI (g 6), vI (g 7), vI (g 8), vI (g 1), .ref (kad G 4), .ref (kad G 5), .ref (kad G 6), vI (g 2), .ref (kad G 7), .ref (kad G 8), .ref (kad G 9)]) := (hf3 3 (by omega)).trans hL.1
        refine k_muvV hC (c_X4_addSight l hls G hN w3 fl 3 g b T a (by omega) (by omega) hB_5) yy_X4_addSight wm_X11_381 (kl hN (by decide)) h_7 rfl rfl rfl rfl (Nat.le_of_ble_eq_true rfl) (by decide) (by decide) ⟨by decide, by decide⟩ dX11_observe_67 (fun w6 hp6 => ?_)
        obtain ⟨hl6, hf6⟩ := hp6
        refine k_aload_n hC dX11_observe_70 rfl 0 rfl ?_
        have h_8 : w6 0 = .inr (11, [.ref (kad G 1), .ref (kad G 32), .ref (kad G 3), .ref (kad G 37), vI sv, .ref (kad G 44), .ref (kad G 10), .ref (kad G 116), .ref (kad G 129), .ref (kad G 132)]) := (hf6 0 (by omega)).trans h_4
        refine k_get hC fd_X11_29 (kl hN (by decide)) h_8 rfl dX11_observe_71 ?_
        refine k_get hC fd_X11_112 (kl hN (by decide)) hl6.1 rfl dX11_observe_74 ?_
        refine k_iconst hC dX11_observe_77 ?_
        refine k_isub hC dX11_observe_78 ?_
        have hB_9 : kHist G w6 (hsP hs nx g) (((nx + 1) % 10 : Nat) : Int) (min (cn + 1) 10) := hHi3.fr (fun j q1 q2 => (hf6 j (by omega)))
        subst hQ
        exact k_iret hC hr ⟨by decide, by decide⟩ (⟨(by omega), congrArg (fun z => some (vI z)) (show ((if 12 ≤ g 2 then -2 else g 2 : _) = ((addSightM g b T a) 2) - 1) from (by rw [if_neg (by omega)]; show g 2 = g 2 + 1 - 1; omega)), rfl, Or.inr ⟨by omega, hl6, hB_9, fun j hj => (hf6 j (by omega)).trans (hf3 j (by omega))⟩⟩) dX11_observe_79
      · refine k_bipush hC dX11_observe_46 (by decide) ?_
        subst hQ
        exact k_iret hC hr ⟨by decide, by decide⟩ (⟨(by omega), congrArg (fun z => some (vI z)) (show ((if 12 ≤ g 2 then -2 else g 2 : _) = -2) from (by exact if_pos (by omega))), rfl, Or.inl ⟨by omega, rfl⟩⟩) dX11_observe_48
    · exact (by omega : False).elim

set_option maxRecDepth 100000 in
set_option maxHeartbeats 4000000 in
theorem n_X11_drop (l : Launch) (hls : l.stackTraces = false) (G : kG) (hN : 133 ≤ kN G) (w : Nat → va_E) (fl : va_W) (g nl : Nat → Int) (sv : Int) (hs : Nat → Nat → Int) (nx : Nat) (cn : Int) (i : Int) (hi : -2147483648 ≤ i ∧ i ≤ 2147483647) (hnx : nx < 10) (hcn : 0 ≤ cn ∧ cn ≤ 10) (hHi : kHist G w hs (nx : Int) cn) (hI : Inv g) (h00 : w 0 = srO G sv) (hL : kLog G w 3 g) (hP : kPlan G w 32 g nl) (hCt : kCht G w) (hcd : (0 ≤ i ∧ i < g 2)) : KM l G yX11_drop cX11_drop 2 (some (FieldType.int)) 6 0 0 [.ref (kad G 0), vI i] w fl (kOk ((0 ≤ i ∧ i < g 2)) (vI (g 2 - 1)) fl (fun w1 => kLog G w1 3 (dropM g i.toNat) ∧ kHist G w1 (hsP hs nx g) (((nx + 1) % 10 : Nat) : Int) (min (cn + 1) 10) ∧ ∀ j, ((j < 3 ∨ 9 < j) ∧ (j < 44 ∨ 115 < j)) → w1 j = w j)) := by
  refine KM_of2 hls (by decide +kernel) rfl (lv0 := [(0, .ref (kad G 0)), (1, vI i)]) rfl (Nat.le_of_ble_eq_true rfl) (fun p e R s m args below meth c Q hC hr hQ => ?_)
  obtain ⟨⟨h10, h11⟩, hLn, hSh, hH, h14, h15⟩ := hCt
  have h0 := hI.c
  refine k_aload_n hC dX11_drop_0 rfl 0 rfl ?_
  refine k_iload_n hC dX11_drop_1 rfl 1 rfl ?_
  refine k_callV hC (n_X11_needSight l hls G hN w fl g sv i (by omega) hI h00 hL (by omega)) yy_X11_needSight wm_X11_250 (kl hN (by decide)) h00 rfl rfl rfl rfl (Nat.le_of_ble_eq_true rfl) (by decide) (by decide) ⟨by decide, by decide⟩ dX11_drop_2 (fun v9 w9 fl9 hp1 => ?_)
  obtain ⟨hc2_1, q1, q2, q3⟩ := hp1; subst q1; subst q2; subst q3
  obtain ⟨k, ek⟩ : ∃ zz : Nat, i = (zz : Int) := ⟨i.toNat, by omega⟩
  subst ek
  refine k_aload_n hC dX11_drop_5 rfl 0 rfl ?_
  refine k_get hC fd_X11_39 (kl hN (by decide)) h00 rfl dX11_drop_6 ?_
  refine k_aload_n hC dX11_drop_9 rfl 0 rfl ?_
  refine k_get hC fd_X11_29 (kl hN (by decide)) h00 rfl dX11_drop_10 ?_
  have h44_2 : w 44 = hisO G (nx : Int) cn := hHi.1.1
  refine k_muvV hC (c_X2_remember l hls G hN w fl hs nx cn g hnx hcn hHi hL) yy_X2_remember wm_X11_378 (kl hN (by decide)) h44_2 rfl rfl rfl rfl (Nat.le_of_ble_eq_true rfl) (by decide) (by decide) ⟨by decide, by decide⟩ dX11_drop_13 (fun w2 hp2 => ?_)
  obtain ⟨hHi2, hf2⟩ := hp2
  refine k_aload_n hC dX11_drop_16 rfl 0 rfl ?_
  have h_3 : w2 0 = .inr (11, [.ref (kad G 1), .ref (kad G 32), .ref (kad G 3), .ref (kad G 37), vI sv, .ref (kad G 44), .ref (kad G 10), .ref (kad G 116), .ref (kad G 129), .ref (kad G 132)]) := (hf2 0 (by omega)).trans h00
  refine k_get hC fd_X11_29 (kl hN (by decide)) h_3 rfl dX11_drop_17 ?_
  refine k_iload_n hC dX11_drop_20 rfl 1 rfl ?_
  have hB_4 : kLog G w2 3 g := hL.fr (fun j q1 q2 => (hf2 j (by omega)))
  refine k_muvV hC (c_X4_removeSight l hls G hN w2 fl 3 g k (by omega) (by omega) (by omega) hB_4) yy_X4_removeSight wm_X11_384 (kl hN (by decide)) hB_4.1 rfl rfl rfl rfl (Nat.le_of_ble_eq_true rfl) (by decide) (by decide) ⟨by decide, by decide⟩ dX11_drop_21 (fun w5 hp5 => ?_)
  obtain ⟨hl5, hf5⟩ := hp5
  refine k_aload_n hC dX11_drop_24 rfl 0 rfl ?_
  have h_6 : w5 0 = .inr (11, [.ref (kad G 1), .ref (kad G 32), .ref (kad G 3), .ref (kad G 37), vI sv, .ref (kad G 44), .ref (kad G 10), .ref (kad G 116), .ref (kad G 129), .ref (kad G 132)]) := (hf5 0 (by omega)).trans h_3
  refine k_get hC fd_X11_29 (kl hN (by decide)) h_6 rfl dX11_drop_25 ?_
  refine k_get hC fd_X11_112 (kl hN (by decide)) hl5.1 rfl dX11_drop_28 ?_
  have hB_7 : kHist G w5 (hsP hs nx g) (((nx + 1) % 10 : Nat) : Int) (min (cn + 1) 10) := hHi2.fr (fun j q1 q2 => (hf5 j (by omega)))
  subst hQ
  exact k_iret hC hr ⟨by decide, by decide⟩ (⟨(by omega), congrArg (fun z => some (vI z)) (show ((g 2 - 1 : _) = (dropM g k) 2) from rfl), rfl, ⟨hl5, hB_7, fun j hj => (hf5 j (by omega)).trans (hf2 j (by omega))⟩⟩) dX11_drop_31

set_option maxRecDepth 100000 in
set_option maxHeartbeats 4000000 in
theorem n_X11_steer (l : Launch) (hls : l.stackTraces = false) (G : kG) (hN : 133 ≤ kN G) (w : Nat → va_E) (fl : va_W) (g nl : Nat → Int) (sv : Int) (hs : Nat → Nat → Int) (nx : Nat) (cn : Int) (T d u : Int) (hT : -2147483648 ≤ T ∧ T ≤ 2147483647) (hd : -2147483648 ≤ d ∧ d ≤ 2147483647) (hu : -2147483648 ≤ u ∧ u ≤ 2147483647) (hnx : nx < 10) (hcn : 0 ≤ cn ∧ cn ≤ 10) (hHi : kHist G w hs (nx : Int) cn) (hI : Inv g) (h00 : w 0 = srO G sv) (hL : kLog G w 3 g) (hP : kPlan G w 32 g nl) (hCt : kCht G w) (hcd : ((0 ≤ T ∧ T ≤ 5000) ∧ (0 ≤ d ∧ d ≤ 21599)) ∧ (0 ≤ u ∧ u ≤ 400)) : KM l G yX11_steer cX11_steer 4 (some (FieldType.int)) 6 0 0 [.ref (kad G 0), vI T, vI d, vI u] w fl (kOk (((0 ≤ T ∧ T ≤ 5000) ∧ (0 ≤ d ∧ d ≤ 21599)) ∧ (0 ≤ u ∧ u ≤ 400)) (vI (if 8 ≤ g 1 then -2 else if T ≤ lastM g then -3 else g 1)) fl (fun w1 => ((8 ≤ g 1 ∨ T ≤ lastM g) ∧ w1 = w) ∨ (¬ (8 ≤ g 1 ∨ T ≤ lastM g) ∧ kLog G w1 3 (addLegM g T d u) ∧ kHist G w1 (hsP hs nx g) (((nx + 1) % 10 : Nat) : Int) (min (cn + 1) 10) ∧ ∀ j, ((j < 3 ∨ 9 < j) ∧ (j < 44 ∨ 115 < j)) → w1 j = w j))) := by
  refine KM_of2 hls (by decide +kernel) rfl (lv0 := [(0, .ref (kad G 0)), (1, vI T), (2, vI d), (3, vI u)]) rfl (Nat.le_of_ble_eq_true rfl) (fun p e R s m args below meth c Q hC hr hQ => ?_)
  obtain ⟨⟨h10, h11⟩, hLn, hSh, hH, h14, h15⟩ := hCt
  have h0 := hI.c
  refine k_iload_n hC dX11_steer_0 rfl 1 rfl ?_
  refine k_callS hC (n_X11_needTime l hls G hN w fl T (by omega) (by omega)) yy_X11_needTime wm_X11_226 rfl rfl (Nat.le_of_ble_eq_true rfl) (by decide) (by decide) ⟨by decide, by decide⟩ dX11_steer_1 (fun v9 w9 fl9 hp1 => ?_)
  obtain ⟨hc1_1, q1, q2, q3⟩ := hp1; subst q1; subst q2; subst q3
  refine k_iload_n hC dX11_steer_4 rfl 2 rfl ?_
  refine k_callS hC (n_X11_needAngle l hls G hN w fl d (by omega) (by omega)) yy_X11_needAngle wm_X11_387 rfl rfl (Nat.le_of_ble_eq_true rfl) (by decide) (by decide) ⟨by decide, by decide⟩ dX11_steer_5 (fun v9 w9 fl9 hp2 => ?_)
  obtain ⟨hc5_2, q1, q2, q3⟩ := hp2; subst q1; subst q2; subst q3
  refine k_iload_n hC dX11_steer_8 rfl 3 rfl ?_
  refine k_if_lt hC 19 dX11_steer_9 rfl (by omega) (fun c_9 => ?_) (fun c_9 => ?_)
  · exact (by omega : False).elim
  · refine k_iload_n hC dX11_steer_12 rfl 3 rfl ?_
    refine k_sipush hC dX11_steer_13 (by decide) ?_
    refine k_icmp_le hC 30 dX11_steer_16 rfl (by omega) (by omega) (fun c_16 => ?_) (fun c_16 => ?_)
    · refine k_aload_n hC dX11_steer_30 rfl 0 rfl ?_
      refine k_get hC fd_X11_29 (kl hN (by decide)) h00 rfl dX11_steer_31 ?_
      refine k_get hC fd_X11_165 (kl hN (by decide)) hL.1 rfl dX11_steer_34 ?_
      refine k_bipush hC dX11_steer_37 (by decide) ?_
      refine k_icmp_lt hC 45 dX11_steer_39 rfl (by omega) (by omega) (fun c_39 => ?_) (fun c_39 => ?_)
      · refine k_iload_n hC dX11_steer_45 rfl 1 rfl ?_
        refine k_aload_n hC dX11_steer_46 rfl 0 rfl ?_
        refine k_get hC fd_X11_29 (kl hN (by decide)) h00 rfl dX11_steer_47 ?_
        refine k_pureV hC (c_X4_lastLegTime l hls G hN w fl 3 g (by omega) (by omega) hL) yy_X4_lastLegTime wm_X11_392 (kl hN (by decide)) hL.1 rfl rfl rfl rfl (Nat.le_of_ble_eq_true rfl) (by decide) (by decide) ⟨by decide, by decide⟩ dX11_steer_50 ?_
        refine k_topv (vI (lastM g)) rfl ?_
        have hlt := lastM_b hI
        refine k_icmp_gt hC 59 dX11_steer_53 rfl (by omega) (by omega) (fun c_53 => ?_) (fun c_53 => ?_)
        · refine k_aload_n hC dX11_steer_59 rfl 0 rfl ?_
          refine k_get hC fd_X11_39 (kl hN (by decide)) h00 rfl dX11_steer_60 ?_
          refine k_aload_n hC dX11_steer_63 rfl 0 rfl ?_
          refine k_get hC fd_X11_29 (kl hN (by decide)) h00 rfl dX11_steer_64 ?_
          have h44_3 : w 44 = hisO G (nx : Int) cn := hHi.1.1
          refine k_muvV hC (c_X2_remember l hls G hN w fl hs nx cn g hnx hcn hHi hL) yy_X2_remember wm_X11_378 (kl hN (by decide)) h44_3 rfl rfl rfl rfl (Nat.le_of_ble_eq_true rfl) (by decide) (by decide) ⟨by decide, by decide⟩ dX11_steer_67 (fun w3 hp3 => ?_)
          obtain ⟨hHi3, hf3⟩ := hp3
          refine k_aload_n hC dX11_steer_70 rfl 0 rfl ?_
          have h_4 : w3 0 = .inr (11, [.ref (kad G 1), .ref (kad G 32), .ref (kad G 3), .ref (kad G 37), vI sv, .ref (kad G 44), .ref (kad G 10), .ref (kad G 116), .ref (kad G 129), .ref (kad G 132)]) := (hf3 0 (by omega)).trans h00
          refine k_get hC fd_X11_29 (kl hN (by decide)) h_4 rfl dX11_steer_71 ?_
          refine k_iload_n hC dX11_steer_74 rfl 1 rfl ?_
          refine k_iload_n hC dX11_steer_75 rfl 2 rfl ?_
          refine k_iload_n hC dX11_steer_76 rfl 3 rfl ?_
          have hB_5 : kLog G w3 3 g := hL.fr (fun j q1 q2 => (hf3 j (by omega)))
          have h_7 : w3 3 = .inr (4, [vI (g 5), vI (g 6), vI (g 7), vI (g 8), vI (g 1), .ref (kad G 4), .ref (kad G 5), .ref (kad G 6), vI (g 2), .ref (kad G 7), .ref (kad G 8), .ref (kad G 9)]) := (hf3 3 (by omega)).trans hL.1
          refine k_muvV hC (c_X4_addLeg l hls G hN w3 fl 3 g T d u (by omega) (by omega) hB_5) yy_X4_addLeg wm_X11_395 (kl hN (by decide)) h_7 rfl rfl rfl rfl (Nat.le_of_ble_eq_true rfl) (by decide) (by decide) ⟨by decide, by decide⟩ dX11_steer_77 (fun w6 hp6 => ?_)
          obtain ⟨hl6, hf6⟩ := hp6
          refine k_aload_n hC dX11_steer_80 rfl 0 rfl ?_
          have h_8 : w6 0 = .inr (11, [.ref (kad G 1), .ref (kad G 32), .ref (kad G 3), .ref (kad G 37), vI sv, .ref (kad G 44), .ref (kad G 10), .ref (kad G 116), .ref (kad G 129), .ref (kad G 132)]) := (hf6 0 (by omega)).trans h_4
          refine k_get hC fd_X11_29 (kl hN (by decide)) h_8 rfl dX11_steer_81 ?_
          refine k_get hC fd_X11_165 (kl hN (by decide)) hl6.1 rfl dX11_steer_84 ?_
          refine k_iconst hC dX11_steer_87 ?_
          refine k_isub hC dX11_steer_88 ?_
          have hB_9 : kHist G w6 (hsP hs nx g) (((nx + 1) % 10 : Nat) : Int) (min (cn + 1) 10) := hHi3.fr (fun j q1 q2 => (hf6 j (by omega)))
          subst hQ
          exact k_iret hC hr ⟨by decide, by decide⟩ (⟨(by omega), congrArg (fun z => some (vI z)) (show ((if 8 ≤ g 1 then -2 else if T ≤ lastM g then -3 else g 1 : _) = ((addLegM g T d u) 1) - 1) from (by rw [if_neg (by omega), if_neg (by omega)]; show g 1 = g 1 + 1 - 1; omega)), rfl, Or.inr ⟨by omega, hl6, hB_9, fun j hj => (hf6 j (by omega)).trans (hf3 j (by omega))⟩⟩) dX11_steer_89
        · refine k_bipush hC dX11_steer_56 (by decide) ?_
          subst hQ
          exact k_iret hC hr ⟨by decide, by decide⟩ (⟨(by omega), congrArg (fun z => some (vI z)) (show ((if 8 ≤ g 1 then -2 else if T ≤ lastM g then -3 else g 1 : _) = -3) from (by rw [if_neg (by omega)]; exact if_pos (by omega))), rfl, Or.inl ⟨by omega, rfl⟩⟩) dX11_steer_58
      · refine k_bipush hC dX11_steer_42 (by decide) ?_
        subst hQ
        exact k_iret hC hr ⟨by decide, by decide⟩ (⟨(by omega), congrArg (fun z => some (vI z)) (show ((if 8 ≤ g 1 then -2 else if T ≤ lastM g then -3 else g 1 : _) = -2) from (by exact if_pos (by omega))), rfl, Or.inl ⟨by omega, rfl⟩⟩) dX11_steer_44
    · exact (by omega : False).elim

set_option maxRecDepth 100000 in
set_option maxHeartbeats 4000000 in
theorem n_X11_setCurrent (l : Launch) (hls : l.stackTraces = false) (G : kG) (hN : 133 ≤ kN G) (w : Nat → va_E) (fl : va_W) (g nl : Nat → Int) (sv : Int) (hs : Nat → Nat → Int) (nx : Nat) (cn : Int) (a b : Int) (ha : -2147483648 ≤ a ∧ a ≤ 2147483647) (hb : -2147483648 ≤ b ∧ b ≤ 2147483647) (hnx : nx < 10) (hcn : 0 ≤ cn ∧ cn ≤ 10) (hHi : kHist G w hs (nx : Int) cn) (hI : Inv g) (h00 : w 0 = srO G sv) (hL : kLog G w 3 g) (hP : kPlan G w 32 g nl) (hCt : kCht G w) (hcd : (0 ≤ a ∧ a ≤ 21599) ∧ (0 ≤ b ∧ b ≤ 100)) : KM l G yX11_setCurrent cX11_setCurrent 4 (some (FieldType.int)) 6 0 0 [.ref (kad G 0), vI a, vI b] w fl (kOk ((0 ≤ a ∧ a ≤ 21599) ∧ (0 ≤ b ∧ b ≤ 100)) (vI (g 8)) fl (fun w1 => kLog G w1 3 (setM g 7 a 8 b) ∧ kHist G w1 (hsP hs nx g) (((nx + 1) % 10 : Nat) : Int) (min (cn + 1) 10) ∧ ∀ j, ((j < 3 ∨ 9 < j) ∧ (j < 44 ∨ 115 < j)) → w1 j = w j)) := by
  refine KM_of2 hls (by decide +kernel) rfl (lv0 := [(0, .ref (kad G 0)), (1, vI a), (2, vI b)]) rfl (Nat.le_of_ble_eq_true rfl) (fun p e R s m args below meth c Q hC hr hQ => ?_)
  obtain ⟨⟨h10, h11⟩, hLn, hSh, hH, h14, h15⟩ := hCt
  have h0 := hI.c
  refine k_iload_n hC dX11_setCurrent_0 rfl 1 rfl ?_
  refine k_callS hC (n_X11_needAngle l hls G hN w fl a (by omega) (by omega)) yy_X11_needAngle wm_X11_387 rfl rfl (Nat.le_of_ble_eq_true rfl) (by decide) (by decide) ⟨by decide, by decide⟩ dX11_setCurrent_1 (fun v9 w9 fl9 hp1 => ?_)
  obtain ⟨hc1_1, q1, q2, q3⟩ := hp1; subst q1; subst q2; subst q3
  refine k_iload_n hC dX11_setCurrent_4 rfl 2 rfl ?_
  refine k_if_lt hC 14 dX11_setCurrent_5 rfl (by omega) (fun c_5 => ?_) (fun c_5 => ?_)
  · exact (by omega : False).elim
  · refine k_iload_n hC dX11_setCurrent_8 rfl 2 rfl ?_
    refine k_bipush hC dX11_setCurrent_9 (by decide) ?_
    refine k_icmp_le hC 25 dX11_setCurrent_11 rfl (by omega) (by omega) (fun c_11 => ?_) (fun c_11 => ?_)
    · refine k_aload_n hC dX11_setCurrent_25 rfl 0 rfl ?_
      refine k_get hC fd_X11_29 (kl hN (by decide)) h00 rfl dX11_setCurrent_26 ?_
      refine k_get hC fd_X11_183 (kl hN (by decide)) hL.1 rfl dX11_setCurrent_29 ?_
      refine k_istore_n hC [(3, vI (g 8)), (0, .ref (kad G 0)), (1, vI a), (2, vI b)] dX11_setCurrent_32 rfl (by decide) rfl ?_
      refine k_aload_n hC dX11_setCurrent_33 rfl 1 rfl ?_
      refine k_get hC fd_X11_39 (kl hN (by decide)) h00 rfl dX11_setCurrent_34 ?_
      refine k_aload_n hC dX11_setCurrent_37 rfl 1 rfl ?_
      refine k_get hC fd_X11_29 (kl hN (by decide)) h00 rfl dX11_setCurrent_38 ?_
      have h44_2 : w 44 = hisO G (nx : Int) cn := hHi.1.1
      refine k_muvV hC (c_X2_remember l hls G hN w fl hs nx cn g hnx hcn hHi hL) yy_X2_remember wm_X11_378 (kl hN (by decide)) h44_2 rfl rfl rfl rfl (Nat.le_of_ble_eq_true rfl) (by decide) (by decide) ⟨by decide, by decide⟩ dX11_setCurrent_41 (fun w2 hp2 => ?_)
      obtain ⟨hHi2, hf2⟩ := hp2
      refine k_aload_n hC dX11_setCurrent_44 rfl 1 rfl ?_
      have h_3 : w2 0 = .inr (11, [.ref (kad G 1), .ref (kad G 32), .ref (kad G 3), .ref (kad G 37), vI sv, .ref (kad G 44), .ref (kad G 10), .ref (kad G 116), .ref (kad G 129), .ref (kad G 132)]) := (hf2 0 (by omega)).trans h00
      refine k_get hC fd_X11_29 (kl hN (by decide)) h_3 rfl dX11_setCurrent_45 ?_
      refine k_iload_n hC dX11_setCurrent_48 rfl 2 rfl ?_
      have h_4 : w2 3 = .inr (4, [vI (g 5), vI (g 6), vI (g 7), vI (g 8), vI (g 1), .ref (kad G 4), .ref (kad G 5), .ref (kad G 6), vI (g 2), .ref (kad G 7), .ref (kad G 8), .ref (kad G 9)]) := (hf2 3 (by omega)).trans hL.1
      refine k_put hC fd_X11_180 (kl hN (by decide)) h_4 [vI (g 5), vI (g 6), vI a, vI (g 8), vI (g 1), .ref (kad G 4), .ref (kad G 5), .ref (kad G 6), vI (g 2), .ref (kad G 7), .ref (kad G 8), .ref (kad G 9)] rfl (Nat.le_of_ble_eq_true rfl) rfl rfl dX11_setCurrent_49 (fun w5 hw5 hf5 => ?_)
      refine k_aload_n hC dX11_setCurrent_52 rfl 1 rfl ?_
      have h_6 : w5 0 = .inr (11, [.ref (kad G 1), .ref (kad G 32), .ref (kad G 3), .ref (kad G 37), vI sv, .ref (kad G 44), .ref (kad G 10), .ref (kad G 116), .ref (kad G 129), .ref (kad G 132)]) := (hf5 0 (by decide)).trans h_3
      refine k_get hC fd_X11_29 (kl hN (by decide)) h_6 rfl dX11_setCurrent_53 ?_
      refine k_iload_n hC dX11_setCurrent_56 rfl 3 rfl ?_
      refine k_put hC fd_X11_183 (kl hN (by decide)) hw5 [vI (g 5), vI (g 6), vI a, vI b, vI (g 1), .ref (kad G 4), .ref (kad G 5), .ref (kad G 6), vI (g 2), .ref (kad G 7), .ref (kad G 8), .ref (kad G 9)] rfl (Nat.le_of_ble_eq_true rfl) rfl rfl dX11_setCurrent_57 (fun w7 hw7 hf7 => ?_)
      refine k_iload_n hC dX11_setCurrent_60 rfl 0 rfl ?_
      have h_8 : w7 4 = iA G 8 (fun j => g (33 + 3 * j)) := (hf7 4 (by decide)).trans ((hf5 4 (by decide)).trans ((hf2 4 (by omega)).trans hL.2.1))
      have h_9 : w7 5 = iA G 8 (fun j => g (34 + 3 * j)) := (hf7 5 (by decide)).trans ((hf5 5 (by decide)).trans ((hf2 5 (by omega)).trans hL.2.2.1))
      have h_10 : w7 6 = iA G 8 (fun j => g (35 + 3 * j)) := (hf7 6 (by decide)).trans ((hf5 6 (by decide)).trans ((hf2 6 (by omega)).trans hL.2.2.2.1))
      have h_11 : w7 7 = iA G 12 (fun j => g (57 + 3 * j)) := (hf7 7 (by decide)).trans ((hf5 7 (by decide)).trans ((hf2 7 (by omega)).trans hL.2.2.2.2.1))
      have h_12 : w7 8 = iA G 12 (fun j => g (58 + 3 * j)) := (hf7 8 (by decide)).trans ((hf5 8 (by decide)).trans ((hf2 8 (by omega)).trans hL.2.2.2.2.2.1))
      have h_13 : w7 9 = iA G 12 (fun j => g (59 + 3 * j)) := (hf7 9 (by decide)).trans ((hf5 9 (by decide)).trans ((hf2 9 (by omega)).trans hL.2.2.2.2.2.2))
      have hB_14 : kHist G w7 (hsP hs nx g) (((nx + 1) % 10 : Nat) : Int) (min (cn + 1) 10) := hHi2.fr (fun j q1 q2 => (hf7 j (by omega)).trans (hf5 j (by omega)))
      subst hQ
      exact k_iret hC hr ⟨by decide, by decide⟩ (⟨(by omega), congrArg (fun z => some (vI z)) (show ((g 8 : _) = g 8) from rfl), rfl, ⟨⟨logO_of hw7 (by simp only [setM, kup]; repeat (first | omega | rfl | split | (congr 1; omega))) (by simp only [setM, kup]; repeat (first | omega | rfl | split | (congr 1; omega))) (by simp only [setM, kup]; repeat (first | omega | rfl | split | (congr 1; omega))) (by simp only [setM, kup]; repeat (first | omega | rfl | split | (congr 1; omega))) (by simp only [setM, kup]; repeat (first | omega | rfl | split | (congr 1; omega))) (by simp only [setM, kup]; repeat (first | omega | rfl | split | (congr 1; omega))), h_8.trans (iA_congr (fun j hj => by simp only [setM, kup]; repeat (first | omega | rfl | split | (congr 1; omega)))), h_9.trans (iA_congr (fun j hj => by simp only [setM, kup]; repeat (first | omega | rfl | split | (congr 1; omega)))), h_10.trans (iA_congr (fun j hj => by simp only [setM, kup]; repeat (first | omega | rfl | split | (congr 1; omega)))), h_11.trans (iA_congr (fun j hj => by simp only [setM, kup]; repeat (first | omega | rfl | split | (congr 1; omega)))), h_12.trans (iA_congr (fun j hj => by simp only [setM, kup]; repeat (first | omega | rfl | split | (congr 1; omega)))), h_13.trans (iA_congr (fun j hj => by simp only [setM, kup]; repeat (first | omega | rfl | split | (congr 1; omega))))⟩, hB_14, fun j hj => (hf7 j (by omega)).trans ((hf5 j (by omega)).trans (hf2 j (by omega)))⟩⟩) dX11_setCurrent_61
    · exact (by omega : False).elim

set_option maxRecDepth 100000 in
set_option maxHeartbeats 4000000 in
theorem n_X11_correct (l : Launch) (hls : l.stackTraces = false) (G : kG) (hN : 133 ≤ kN G) (w : Nat → va_E) (fl : va_W) (g nl : Nat → Int) (sv : Int) (hs : Nat → Nat → Int) (nx : Nat) (cn : Int) (a b : Int) (ha : -2147483648 ≤ a ∧ a ≤ 2147483647) (hb : -2147483648 ≤ b ∧ b ≤ 2147483647) (hnx : nx < 10) (hcn : 0 ≤ cn ∧ cn ≤ 10) (hHi : kHist G w hs (nx : Int) cn) (hI : Inv g) (h00 : w 0 = srO G sv) (hL : kLog G w 3 g) (hP : kPlan G w 32 g nl) (hCt : kCht G w) (hcd : (0 ≤ a ∧ a ≤ 50) ∧ (-60 ≤ b ∧ b ≤ 60)) : KM l G yX11_correct cX11_correct 3 (some (FieldType.int)) 6 0 0 [.ref (kad G 0), vI a, vI b] w fl (kOk ((0 ≤ a ∧ a ≤ 50) ∧ (-60 ≤ b ∧ b ≤ 60)) (vI (dipM (setM g 5 a 6 b))) fl (fun w1 => kLog G w1 3 (setM g 5 a 6 b) ∧ kHist G w1 (hsP hs nx g) (((nx + 1) % 10 : Nat) : Int) (min (cn + 1) 10) ∧ ∀ j, ((j < 3 ∨ 9 < j) ∧ (j < 44 ∨ 115 < j)) → w1 j = w j)) := by
  refine KM_of2 hls (by decide +kernel) rfl (lv0 := [(0, .ref (kad G 0)), (1, vI a), (2, vI b)]) rfl (Nat.le_of_ble_eq_true rfl) (fun p e R s m args below meth c Q hC hr hQ => ?_)
  obtain ⟨⟨h10, h11⟩, hLn, hSh, hH, h14, h15⟩ := hCt
  have h0 := hI.c
  refine k_iload_n hC dX11_correct_0 rfl 1 rfl ?_
  refine k_if_lt hC 22 dX11_correct_1 rfl (by omega) (fun c_1 => ?_) (fun c_1 => ?_)
  · exact (by omega : False).elim
  · refine k_iload_n hC dX11_correct_4 rfl 1 rfl ?_
    refine k_bipush hC dX11_correct_5 (by decide) ?_
    refine k_icmp_gt hC 22 dX11_correct_7 rfl (by omega) (by omega) (fun c_7 => ?_) (fun c_7 => ?_)
    · exact (by omega : False).elim
    · refine k_iload_n hC dX11_correct_10 rfl 2 rfl ?_
      refine k_bipush hC dX11_correct_11 (by decide) ?_
      refine k_icmp_lt hC 22 dX11_correct_13 rfl (by omega) (by omega) (fun c_13 => ?_) (fun c_13 => ?_)
      · exact (by omega : False).elim
      · refine k_iload_n hC dX11_correct_16 rfl 2 rfl ?_
        refine k_bipush hC dX11_correct_17 (by decide) ?_
        refine k_icmp_le hC 33 dX11_correct_19 rfl (by omega) (by omega) (fun c_19 => ?_) (fun c_19 => ?_)
        · refine k_aload_n hC dX11_correct_33 rfl 0 rfl ?_
          refine k_get hC fd_X11_39 (kl hN (by decide)) h00 rfl dX11_correct_34 ?_
          refine k_aload_n hC dX11_correct_37 rfl 0 rfl ?_
          refine k_get hC fd_X11_29 (kl hN (by decide)) h00 rfl dX11_correct_38 ?_
          have h44_1 : w 44 = hisO G (nx : Int) cn := hHi.1.1
          refine k_muvV hC (c_X2_remember l hls G hN w fl hs nx cn g hnx hcn hHi hL) yy_X2_remember wm_X11_378 (kl hN (by decide)) h44_1 rfl rfl rfl rfl (Nat.le_of_ble_eq_true rfl) (by decide) (by decide) ⟨by decide, by decide⟩ dX11_correct_41 (fun w1 hp1 => ?_)
          obtain ⟨hHi1, hf1⟩ := hp1
          refine k_aload_n hC dX11_correct_44 rfl 0 rfl ?_
          have h_2 : w1 0 = .inr (11, [.ref (kad G 1), .ref (kad G 32), .ref (kad G 3), .ref (kad G 37), vI sv, .ref (kad G 44), .ref (kad G 10), .ref (kad G 116), .ref (kad G 129), .ref (kad G 132)]) := (hf1 0 (by omega)).trans h00
          refine k_get hC fd_X11_29 (kl hN (by decide)) h_2 rfl dX11_correct_45 ?_
          refine k_iload_n hC dX11_correct_48 rfl 1 rfl ?_
          have hB_3 : kLog G w1 3 g := hL.fr (fun j q1 q2 => (hf1 j (by omega)))
          refine k_put hC fd_X11_174 (kl hN (by decide)) hB_3.1 [vI a, vI (g 6), vI (g 7), vI (g 8), vI (g 1), .ref (kad G 4), .ref (kad G 5), .ref (kad G 6), vI (g 2), .ref (kad G 7), .ref (kad G 8), .ref (kad G 9)] rfl (Nat.le_of_ble_eq_true rfl) rfl rfl dX11_correct_49 (fun w4 hw4 hf4 => ?_)
          refine k_aload_n hC dX11_correct_52 rfl 0 rfl ?_
          have h_5 : w4 0 = .inr (11, [.ref (kad G 1), .ref (kad G 32), .ref (kad G 3), .ref (kad G 37), vI sv, .ref (kad G 44), .ref (kad G 10), .ref (kad G 116), .ref (kad G 129), .ref (kad G 132)]) := (hf4 0 (by decide)).trans h_2
          refine k_get hC fd_X11_29 (kl hN (by decide)) h_5 rfl dX11_correct_53 ?_
          refine k_iload_n hC dX11_correct_56 rfl 2 rfl ?_
          refine k_put hC fd_X11_177 (kl hN (by decide)) hw4 [vI a, vI b, vI (g 7), vI (g 8), vI (g 1), .ref (kad G 4), .ref (kad G 5), .ref (kad G 6), vI (g 2), .ref (kad G 7), .ref (kad G 8), .ref (kad G 9)] rfl (Nat.le_of_ble_eq_true rfl) rfl rfl dX11_correct_57 (fun w6 hw6 hf6 => ?_)
          have h_8 : w6 4 = iA G 8 (fun j => g (33 + 3 * j)) := (hf6 4 (by decide)).trans ((hf4 4 (by decide)).trans hB_3.2.1)
          have h_9 : w6 5 = iA G 8 (fun j => g (34 + 3 * j)) := (hf6 5 (by decide)).trans ((hf4 5 (by decide)).trans hB_3.2.2.1)
          have h_10 : w6 6 = iA G 8 (fun j => g (35 + 3 * j)) := (hf6 6 (by decide)).trans ((hf4 6 (by decide)).trans hB_3.2.2.2.1)
          have h_11 : w6 7 = iA G 12 (fun j => g (57 + 3 * j)) := (hf6 7 (by decide)).trans ((hf4 7 (by decide)).trans hB_3.2.2.2.2.1)
          have h_12 : w6 8 = iA G 12 (fun j => g (58 + 3 * j)) := (hf6 8 (by decide)).trans ((hf4 8 (by decide)).trans hB_3.2.2.2.2.2.1)
          have h_13 : w6 9 = iA G 12 (fun j => g (59 + 3 * j)) := (hf6 9 (by decide)).trans ((hf4 9 (by decide)).trans hB_3.2.2.2.2.2.2)
          have hLx_7 : kLog G w6 3 (setM g 5 a 6 b) := ⟨logO_of hw6 (by simp only [setM, kup]; repeat (first | omega | rfl | split | (congr 1; omega))) (by simp only [setM, kup]; repeat (first | omega | rfl | split | (congr 1; omega))) (by simp only [setM, kup]; repeat (first | omega | rfl | split | (congr 1; omega))) (by simp only [setM, kup]; repeat (first | omega | rfl | split | (congr 1; omega))) (by simp only [setM, kup]; repeat (first | omega | rfl | split | (congr 1; omega))) (by simp only [setM, kup]; repeat (first | omega | rfl | split | (congr 1; omega))), h_8.trans (iA_congr (fun j hj => by simp only [setM, kup]; repeat (first | omega | rfl | split | (congr 1; omega)))), h_9.trans (iA_congr (fun j hj => by simp only [setM, kup]; repeat (first | omega | rfl | split | (congr 1; omega)))), h_10.trans (iA_congr (fun j hj => by simp only [setM, kup]; repeat (first | omega | rfl | split | (congr 1; omega)))), h_11.trans (iA_congr (fun j hj => by simp only [setM, kup]; repeat (first | omega | rfl | split | (congr 1; omega)))), h_12.trans (iA_congr (fun j hj => by simp only [setM, kup]; repeat (first | omega | rfl | split | (congr 1; omega)))), h_13.trans (iA_congr (fun j hj => by simp only [setM, kup]; repeat (first | omega | rfl | split | (congr 1; omega))))⟩
          refine k_aload_n hC dX11_correct_60 rfl 0 rfl ?_
          have h_14 : w6 0 = .inr (11, [.ref (kad G 1), .ref (kad G 32), .ref (kad G 3), .ref (kad G 37), vI sv, .ref (kad G 44), .ref (kad G 10), .ref (kad G 116), .ref (kad G 129), .ref (kad G 132)]) := (hf6 0 (by decide)).trans h_5
          refine k_get hC fd_X11_29 (kl hN (by decide)) h_14 rfl dX11_correct_61 ?_
          refine k_pureV hC (c_X4_dip l hls G hN w6 fl 3 (setM g 5 a 6 b) (by omega) (by show 0 ≤ a ∧ a ≤ 50; omega) hLx_7) yy_X4_dip wm_X11_402 (kl hN (by decide)) hLx_7.1 rfl rfl rfl rfl (Nat.le_of_ble_eq_true rfl) (by decide) (by decide) ⟨by decide, by decide⟩ dX11_correct_64 ?_
          have hB_15 : kHist G w6 (hsP hs nx g) (((nx + 1) % 10 : Nat) : Int) (min (cn + 1) 10) := hHi1.fr (fun j q1 q2 => (hf6 j (by omega)).trans (hf4 j (by omega)))
          subst hQ
          exact k_iret hC hr ⟨by decide, by decide⟩ (⟨(by omega), congrArg (fun z => some (vI z)) (show ((dipM (setM g 5 a 6 b) : _) = dipM (setM g 5 a 6 b)) from rfl), rfl, ⟨hLx_7, hB_15, fun j hj => (hf6 j (by omega)).trans ((hf4 j (by omega)).trans (hf1 j (by omega)))⟩⟩) dX11_correct_67
        · exact (by omega : False).elim

