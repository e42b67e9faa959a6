set_option maxRecDepth 100000 in
set_option maxHeartbeats 4000000 in
theorem c_X12_fix (l : Launch) (hls : l.stackTraces = false) (G : kG) (hN : kN G = 150) (w : Nat → va_E) (fl : va_W) (u g : Nat → Int) (T no : Int) (hT : -2147483648 ≤ T ∧ T ≤ 2147483647) (hno : no = 0 ∨ no = 1) (hI : Inv g) (hm : w 133 = mdO G u) (hn : w 134 = lA G 93 g) (hSc : kScr G w) : KM l G yX12_fix cX12_fix 3 (some (FieldType.int)) 15 0 0 [.ref (kad G 133), vI T, vI no] w fl (kRt (thR ((0 ≤ T ∧ T ≤ 5000)) (fixV g T no) (False) 1 (¬ (0 ≤ T ∧ T ≤ 5000)) 1) fl (fun th w1 => mSt G w w1 u th)) := by
  refine KM_of2 hls (by decide +kernel) rfl (lv0 := [(0, .ref (kad G 133)), (1, vI T), (2, vI no)]) rfl (Nat.le_of_ble_eq_true rfl) (fun p e R s m args below meth c Q hC hr hQ => ?_)
  obtain ⟨⟨ls, lc, lo, hLs⟩, hx, hy, hHt⟩ := hSc
  have h0 := hI.c
  refine k_aload_n hC dX12_fix_0 rfl 0 rfl ?_
  refine k_iconst hC dX12_fix_1 ?_
  refine k_put hC fd_X12_74 (kl hN (by decide)) hm [.ref (kad G 134), .ref (kad G 135), .ref (kad G 136), .ref (kad G 137), vI (u 4), vI 0, vI (u 6), .ref (kad G 138), .ref (kad G 139), .ref (kad G 140), .ref (kad G 141), .ref (kad G 142), vL (u 12), vL (u 13), .ref (kad G 143), vI (u 15), .ref (kad G 144), vI (u 17), vI (u 18), vI (u 19), vI (u 20), vI (u 21), vI (u 22), vI (u 23), vI (u 24), vI (u 25), .ref (kad G 145), .ref (kad G 146), .ref (kad G 147), vI (u 29)] rfl (Nat.le_of_ble_eq_true rfl) rfl rfl dX12_fix_2 (fun w1 hw1 hf1 => ?_)
  refine k_aload_n hC dX12_fix_5 rfl 0 rfl ?_
  refine k_iload_n hC dX12_fix_6 rfl 1 rfl ?_
  have h_2 : w1 134 = lA G 93 g := (hf1 134 (by decide)).trans hn
  refine k_pureV hC (c_X12_isTime l hls G hN w1 fl (kup u 5 0) g T (by omega) hI hw1 h_2) yy_X12_isTime wm_X12_262 (kl hN (by decide)) hw1 rfl rfl rfl rfl (Nat.le_of_ble_eq_true rfl) (by decide) (by decide) ⟨by decide, by decide⟩ dX12_fix_7 ?_
  obtain ⟨z_3, ez_3, hz_3⟩ := k_bI (0 ≤ T ∧ T ≤ 5000)
  refine k_topv (vI z_3) (by rw [ez_3]) ?_
  refine k_if_ne hC 19 dX12_fix_10 rfl (by omega) (fun c_10 => ?_) (fun c_10 => ?_)
  · have ht : 0 ≤ T ∧ T ≤ 5000 := by omega
    refine k_aload_n hC dX12_fix_19 rfl 0 rfl ?_
    refine k_iload_n hC dX12_fix_20 rfl 1 rfl ?_
    refine k_i2l hC dX12_fix_21 (by omega) ?_
    have hB_4 : kLns G w1 ls lc lo := hLs.fr (fun j q1 q2 => (hf1 j (by omega)))
    refine k_mutV hC (c_X12_layFix l hls G hN w1 fl (kup u 5 0) g ls lc lo T hI (by omega) hw1 h_2 hB_4) yy_X12_layFix wm_X12_289 (kl hN (by decide)) hw1 rfl rfl rfl rfl (Nat.le_of_ble_eq_true rfl) (by decide) (by decide) ⟨by decide, by decide⟩ dX12_fix_22 (fun w5 hp5 => ?_)
    obtain ⟨⟨ls5, lc5, lo5, hl5, hall5⟩, ⟨fe5, fn5, hu5, hfe5⟩, hf5⟩ := hp5
    have hall := hall5
    obtain ⟨zf, ezf, hzf⟩ := (⟨fixI g, rfl, fixI_c g⟩ : ∃ z : Int, fixI g = z ∧ ((z = 1 ∧ fixP g) ∨ (z = 0 ∧ ¬ fixP g)))
    refine k_topv (vI zf) (by rw [ezf]) ?_
    have hfeb := fixE_b g T
    have hfnb := fixN_b g T
    refine k_if_ne hC 34 dX12_fix_25 rfl (by omega) (fun c_25 => ?_) (fun c_25 => ?_)
    · have hfp : fixP g := (hzf.resolve_right (fun q1 => by omega)).2
      have hft := hfe5 hfp
      refine k_iload_n hC dX12_fix_34 rfl 2 rfl ?_
      refine k_if_eq hC 45 dX12_fix_35 rfl (by omega) (fun c_35 => ?_) (fun c_35 => ?_)
      · refine k_aload_n hC dX12_fix_45 rfl 0 rfl ?_
        refine k_get hC fd_X12_234 (kl hN (by decide)) hu5 rfl dX12_fix_46 ?_
        refine k_l2i hC dX12_fix_49 ?_
        have hB_6 : kHts G w5 hx hy := hHt.fr (fun j q1 q2 => (hf5 j (by omega)).trans (hf1 j (by omega)))
        subst hQ
        exact k_iret hC hr ⟨by decide, by decide⟩ (⟨_, 0, rfl, rfl, Or.inl ⟨by omega, rfl, (show ((fe5 : Int) = fixV g T no) from (by unfold fixV; rw [selI_1 hfp]; first | (rw [if_pos (by omega)]; exact hft.1) | (rw [if_neg (by omega)]; exact hft.2)))⟩, ⟨⟨fe5, fn5, hu5⟩, ⟨⟨_, _, _, hl5⟩, _, _, hB_6⟩, fun j hj => (hf5 j (by omega)).trans (hf1 j (by omega))⟩⟩) dX12_fix_50
      · refine k_aload_n hC dX12_fix_38 rfl 0 rfl ?_
        refine k_get hC fd_X12_238 (kl hN (by decide)) hu5 rfl dX12_fix_39 ?_
        refine k_goto hC 49 dX12_fix_42 rfl ?_
        refine k_l2i hC dX12_fix_49 ?_
        have hB_7 : kHts G w5 hx hy := hHt.fr (fun j q1 q2 => (hf5 j (by omega)).trans (hf1 j (by omega)))
        subst hQ
        exact k_iret hC hr ⟨by decide, by decide⟩ (⟨_, 0, rfl, rfl, Or.inl ⟨by omega, rfl, (show ((fn5 : Int) = fixV g T no) from (by unfold fixV; rw [selI_1 hfp]; first | (rw [if_pos (by omega)]; exact hft.1) | (rw [if_neg (by omega)]; exact hft.2)))⟩, ⟨⟨fe5, fn5, hu5⟩, ⟨⟨_, _, _, hl5⟩, _, _, hB_7⟩, fun j hj => (hf5 j (by omega)).trans (hf1 j (by omega))⟩⟩) dX12_fix_50
    · have nfp : ¬ fixP g := (hzf.resolve_left (fun q1 => by omega)).2
      refine k_ldcw hC (x := (-1000000000)) (v := (-1000000000)) dX12_fix_28 (by decide) wk_X12_268 ?_
      refine k_goto hC 50 dX12_fix_31 rfl ?_
      have hB_8 : kHts G w5 hx hy := hHt.fr (fun j q1 q2 => (hf5 j (by omega)).trans (hf1 j (by omega)))
      subst hQ
      exact k_iret hC hr ⟨by decide, by decide⟩ (⟨_, 0, rfl, rfl, Or.inl ⟨by omega, rfl, (show ((-1000000000 : Int) = fixV g T no) from (by unfold fixV; rw [selI_0 nfp]))⟩, ⟨⟨fe5, fn5, hu5⟩, ⟨⟨_, _, _, hl5⟩, _, _, hB_8⟩, fun j hj => (hf5 j (by omega)).trans (hf1 j (by omega))⟩⟩) dX12_fix_50
  · refine k_aload_n hC dX12_fix_13 rfl 0 rfl ?_
    refine k_iconst hC dX12_fix_14 ?_
    refine k_mutV hC (c_X12_raise l hls G hN w1 fl (kup u 5 0) 1 hw1) yy_X12_raise wm_X12_247 (kl hN (by decide)) hw1 rfl rfl rfl rfl (Nat.le_of_ble_eq_true rfl) (by decide) (by decide) ⟨by decide, by decide⟩ dX12_fix_15 (fun w9 hp9 => ?_)
    obtain ⟨hu9, hf9⟩ := hp9
    have hB_10 : kLns G w9 ls lc lo := hLs.fr (fun j q1 q2 => (hf9 j (by omega)).trans (hf1 j (by omega)))
    have hB_11 : kHts G w9 hx hy := hHt.fr (fun j q1 q2 => (hf9 j (by omega)).trans (hf1 j (by omega)))
    subst hQ
    exact k_iret hC hr ⟨by decide, by decide⟩ (⟨_, 1, rfl, rfl, Or.inr (Or.inr ⟨by omega, rfl⟩), ⟨⟨u 12, u 13, hu9⟩, ⟨⟨_, _, _, hB_10⟩, _, _, hB_11⟩, fun j hj => (hf9 j (by omega)).trans (hf1 j (by omega))⟩⟩) dX12_fix_18

set_option maxRecDepth 100000 in
set_option maxHeartbeats 4000000 in
theorem c_X12_residual (l : Launch) (hls : l.stackTraces = false) (G : kG) (hN : kN G = 150) (w : Nat → va_E) (fl : va_W) (u g : Nat → Int) (i T : Int) (hi : -2147483648 ≤ i ∧ i ≤ 2147483647) (hT : -2147483648 ≤ T ∧ T ≤ 2147483647) (hI : Inv g) (hm : w 133 = mdO G u) (hn : w 134 = lA G 93 g) (hSc : kScr G w) : KM l G yX12_residual cX12_residual 3 (some (FieldType.int)) 15 0 0 [.ref (kad G 133), vI i, vI T] w fl (kRt (thR ((0 ≤ i ∧ i < g 2) ∧ (0 ≤ T ∧ T ≤ 5000)) (resV g T i.toNat) (¬ (0 ≤ i ∧ i < g 2)) 1 ((0 ≤ i ∧ i < g 2) ∧ ¬ (0 ≤ T ∧ T ≤ 5000)) 2) fl (fun th w1 => mSt G w w1 u th)) := by
  refine KM_of2 hls (by decide +kernel) rfl (lv0 := [(0, .ref (kad G 133)), (1, vI i), (2, vI T)]) rfl (Nat.le_of_ble_eq_true rfl) (fun p e R s m args below meth c Q hC hr hQ => ?_)
  obtain ⟨⟨ls, lc, lo, hLs⟩, hx, hy, hHt⟩ := hSc
  have h0 := hI.c
  refine k_aload_n hC dX12_residual_0 rfl 0 rfl ?_
  refine k_aload_n hC dX12_residual_1 rfl 0 rfl ?_
  refine k_iload_n hC dX12_residual_2 rfl 1 rfl ?_
  refine k_pureV hC (c_X12_isSight l hls G hN w fl u g i (by omega) hI hm hn) yy_X12_isSight wm_X12_265 (kl hN (by decide)) hm rfl rfl rfl rfl (Nat.le_of_ble_eq_true rfl) (by decide) (by decide) ⟨by decide, by decide⟩ dX12_residual_3 ?_
  obtain ⟨z_1, ez_1, hz_1⟩ := k_bI (0 ≤ i ∧ i ≤ g 2 - 1)
  refine k_topv (vI z_1) (by rw [ez_1]) ?_
  refine k_if_ne hC 13 dX12_residual_6 rfl (by omega) (fun c_6 => ?_) (fun c_6 => ?_)
  · refine k_aload_n hC dX12_residual_13 rfl 0 rfl ?_
    refine k_iload_n hC dX12_residual_14 rfl 2 rfl ?_
    refine k_pureV hC (c_X12_isTime l hls G hN w fl u g T (by omega) hI hm hn) yy_X12_isTime wm_X12_262 (kl hN (by decide)) hm rfl rfl rfl rfl (Nat.le_of_ble_eq_true rfl) (by decide) (by decide) ⟨by decide, by decide⟩ dX12_residual_15 ?_
    obtain ⟨z_2, ez_2, hz_2⟩ := k_bI (0 ≤ T ∧ T ≤ 5000)
    refine k_topv (vI z_2) (by rw [ez_2]) ?_
    refine k_if_eq hC 25 dX12_residual_18 rfl (by omega) (fun c_18 => ?_) (fun c_18 => ?_)
    · refine k_iconst hC dX12_residual_25 ?_
      refine k_put hC fd_X12_74 (kl hN (by decide)) hm [.ref (kad G 134), .ref (kad G 135), .ref (kad G 136), .ref (kad G 137), vI (u 4), vI 2, vI (u 6), .ref (kad G 138), .ref (kad G 139), .ref (kad G 140), .ref (kad G 141), .ref (kad G 142), vL (u 12), vL (u 13), .ref (kad G 143), vI (u 15), .ref (kad G 144), vI (u 17), vI (u 18), vI (u 19), vI (u 20), vI (u 21), vI (u 22), vI (u 23), vI (u 24), vI (u 25), .ref (kad G 145), .ref (kad G 146), .ref (kad G 147), vI (u 29)] rfl (Nat.le_of_ble_eq_true rfl) rfl rfl dX12_residual_26 (fun w3 hw3 hf3 => ?_)
      refine k_aload_n hC dX12_residual_29 rfl 0 rfl ?_
      refine k_get hC fd_X12_74 (kl hN (by decide)) hw3 rfl dX12_residual_30 ?_
      refine k_if_eq hC 38 dX12_residual_33 rfl (by omega) (fun c_33 => absurd c_33 (by omega)) (fun c_33 => ?_)
      refine k_iconst hC dX12_residual_36 ?_
      have hB_4 : kLns G w3 ls lc lo := hLs.fr (fun j q1 q2 => (hf3 j (by omega)))
      have hB_5 : kHts G w3 hx hy := hHt.fr (fun j q1 q2 => (hf3 j (by omega)))
      subst hQ
      exact k_iret hC hr ⟨by decide, by decide⟩ (⟨_, 2, rfl, rfl, Or.inr (Or.inr ⟨by omega, rfl⟩), ⟨⟨u 12, u 13, hw3⟩, ⟨⟨_, _, _, hB_4⟩, _, _, hB_5⟩, fun j hj => hf3 j (by omega)⟩⟩) dX12_residual_37
    · refine k_iconst hC dX12_residual_21 ?_
      refine k_goto hC 26 dX12_residual_22 rfl ?_
      refine k_put hC fd_X12_74 (kl hN (by decide)) hm [.ref (kad G 134), .ref (kad G 135), .ref (kad G 136), .ref (kad G 137), vI (u 4), vI 0, vI (u 6), .ref (kad G 138), .ref (kad G 139), .ref (kad G 140), .ref (kad G 141), .ref (kad G 142), vL (u 12), vL (u 13), .ref (kad G 143), vI (u 15), .ref (kad G 144), vI (u 17), vI (u 18), vI (u 19), vI (u 20), vI (u 21), vI (u 22), vI (u 23), vI (u 24), vI (u 25), .ref (kad G 145), .ref (kad G 146), .ref (kad G 147), vI (u 29)] rfl (Nat.le_of_ble_eq_true rfl) rfl rfl dX12_residual_26 (fun w6 hw6 hf6 => ?_)
      obtain ⟨k, ek⟩ : ∃ zz : Nat, i = (zz : Int) := ⟨i.toNat, by omega⟩
      subst ek
      have ht : 0 ≤ T ∧ T ≤ 5000 := by omega
      refine k_aload_n hC dX12_residual_29 rfl 0 rfl ?_
      refine k_get hC fd_X12_74 (kl hN (by decide)) hw6 rfl dX12_residual_30 ?_
      refine k_if_eq hC 38 dX12_residual_33 rfl (by omega) (fun c_33 => ?_) (fun c_33 => absurd c_33 (by omega))
      refine k_aload_n hC dX12_residual_38 rfl 0 rfl ?_
      refine k_iload_n hC dX12_residual_39 rfl 2 rfl ?_
      refine k_i2l hC dX12_residual_40 (by omega) ?_
      have h_7 : w6 134 = lA G 93 g := (hf6 134 (by decide)).trans hn
      have hB_8 : kLns G w6 ls lc lo := hLs.fr (fun j q1 q2 => (hf6 j (by omega)))
      refine k_mutV hC (c_X12_layFix l hls G hN w6 fl (kup u 5 0) g ls lc lo T hI (by omega) hw6 h_7 hB_8) yy_X12_layFix wm_X12_289 (kl hN (by decide)) hw6 rfl rfl rfl rfl (Nat.le_of_ble_eq_true rfl) (by decide) (by decide) ⟨by decide, by decide⟩ dX12_residual_41 (fun w9 hp9 => ?_)
      obtain ⟨⟨ls9, lc9, lo9, hl9, hall9⟩, ⟨fe9, fn9, hu9, hfe9⟩, hf9⟩ := hp9
      have hall := hall9
      obtain ⟨zf, ezf, hzf⟩ := (⟨fixI g, rfl, fixI_c g⟩ : ∃ z : Int, fixI g = z ∧ ((z = 1 ∧ fixP g) ∨ (z = 0 ∧ ¬ fixP g)))
      refine k_topv (vI zf) (by rw [ezf]) ?_
      refine k_if_eq hC 56 dX12_residual_44 rfl (by omega) (fun c_44 => ?_) (fun c_44 => ?_)
      · have nfp : ¬ fixP g := (hzf.resolve_left (fun q1 => by omega)).2
        refine k_ldcw hC (x := (-1000000000)) (v := (-1000000000)) dX12_residual_56 (by decide) wk_X12_268 ?_
        have hB_10 : kHts G w9 hx hy := hHt.fr (fun j q1 q2 => (hf9 j (by omega)).trans (hf6 j (by omega)))
        subst hQ
        exact k_iret hC hr ⟨by decide, by decide⟩ (⟨_, 0, rfl, rfl, Or.inl ⟨by omega, rfl, (show ((-1000000000 : Int) = resV g T k) from (by unfold resV; rw [selI_0 nfp]))⟩, ⟨⟨fe9, fn9, hu9⟩, ⟨⟨_, _, _, hl9⟩, _, _, hB_10⟩, fun j hj => (hf9 j (by omega)).trans (hf6 j (by omega))⟩⟩) dX12_residual_59
      · have hfp : fixP g := (hzf.resolve_right (fun q1 => by omega)).2
        have hft := hfe9 hfp
        refine k_aload_n hC dX12_residual_47 rfl 0 rfl ?_
        refine k_iload_n hC dX12_residual_48 rfl 1 rfl ?_
        have h_11 : w9 134 = lA G 93 g := (hf9 134 (by omega)).trans h_7
        refine k_pureV hC (c_X12_residualOf l hls G hN w9 fl (kup (kup (kup u 5 0) 12 fe9) 13 fn9) g ls9 lc9 lo9 k T hI (by omega) ht (hall k (by omega)) hft hu9 h_11 hl9) yy_X12_residualOf wm_X12_293 (kl hN (by decide)) hu9 rfl rfl rfl rfl (Nat.le_of_ble_eq_true rfl) (by decide) (by decide) ⟨by decide, by decide⟩ dX12_residual_49 ?_
        have hrb_12 := resM_b hI ht k (by omega)
        refine k_l2i hC dX12_residual_52 ?_
        refine k_goto hC 59 dX12_residual_53 rfl ?_
        have hB_13 : kHts G w9 hx hy := hHt.fr (fun j q1 q2 => (hf9 j (by omega)).trans (hf6 j (by omega)))
        subst hQ
        exact k_iret hC hr ⟨by decide, by decide⟩ (⟨_, 0, rfl, rfl, Or.inl ⟨by omega, rfl, (show ((resM g T k : Int) = resV g T k) from (by unfold resV; rw [selI_1 hfp]))⟩, ⟨⟨fe9, fn9, hu9⟩, ⟨⟨_, _, _, hl9⟩, _, _, hB_13⟩, fun j hj => (hf9 j (by omega)).trans (hf6 j (by omega))⟩⟩) dX12_residual_59
  · refine k_iconst hC dX12_residual_9 ?_
    refine k_goto hC 26 dX12_residual_10 rfl ?_
    refine k_put hC fd_X12_74 (kl hN (by decide)) hm [.ref (kad G 134), .ref (kad G 135), .ref (kad G 136), .ref (kad G 137), vI (u 4), vI 1, vI (u 6), .ref (kad G 138), .ref (kad G 139), .ref (kad G 140), .ref (kad G 141), .ref (kad G 142), vL (u 12), vL (u 13), .ref (kad G 143), vI (u 15), .ref (kad G 144), vI (u 17), vI (u 18), vI (u 19), vI (u 20), vI (u 21), vI (u 22), vI (u 23), vI (u 24), vI (u 25), .ref (kad G 145), .ref (kad G 146), .ref (kad G 147), vI (u 29)] rfl (Nat.le_of_ble_eq_true rfl) rfl rfl dX12_residual_26 (fun w14 hw14 hf14 => ?_)
    refine k_aload_n hC dX12_residual_29 rfl 0 rfl ?_
    refine k_get hC fd_X12_74 (kl hN (by decide)) hw14 rfl dX12_residual_30 ?_
    refine k_if_eq hC 38 dX12_residual_33 rfl (by omega) (fun c_33 => absurd c_33 (by omega)) (fun c_33 => ?_)
    refine k_iconst hC dX12_residual_36 ?_
    have hB_15 : kLns G w14 ls lc lo := hLs.fr (fun j q1 q2 => (hf14 j (by omega)))
    have hB_16 : kHts G w14 hx hy := hHt.fr (fun j q1 q2 => (hf14 j (by omega)))
    subst hQ
    exact k_iret hC hr ⟨by decide, by decide⟩ (⟨_, 1, rfl, rfl, Or.inr (Or.inl ⟨by omega, rfl⟩), ⟨⟨u 12, u 13, hw14⟩, ⟨⟨_, _, _, hB_15⟩, _, _, hB_16⟩, fun j hj => hf14 j (by omega)⟩⟩) dX12_residual_37

theorem worS_step {g : Nat → Int} {T : Int} {k : Nat} {zf : Int} (wo : Int) {x : Int} (h : (worS g T k).1 = wo ∧ (k = 0 ∨ (worS g T k).2 = ((resM g T wo.toNat).natAbs : Int))) (hx : (x = wo ∧ 0 < k ∧ ((resM g T k).natAbs : Int) ≤ ((resM g T wo.toNat).natAbs : Int)) ∨ (x = (k : Int) ∧ (k = 0 ∨ ((resM g T wo.toNat).natAbs : Int) < ((resM g T k).natAbs : Int)))) :
    zf = 1 → (worS g T (k + 1)).1 = x ∧ (k + 1 = 0 ∨ (worS g T (k + 1)).2 = ((resM g T x.toNat).natAbs : Int)) := by
  intro _
  have e : worS g T (k + 1) = if (worS g T k).2 < ((resM g T k).natAbs : Int) then ((k : Int), ((resM g T k).natAbs : Int)) else worS g T k := rfl
  obtain ⟨h1, h2⟩ := h
  rcases hx with ⟨rfl, h3, h4⟩ | ⟨rfl, h3⟩
  · rw [e, if_neg (by omega)]
    exact ⟨h1, Or.inr (h2.resolve_left (by omega))⟩
  · have h5 : (worS g T k).2 < ((resM g T k).natAbs : Int) := by
      rcases h2 with h2 | h2
      · subst h2; show (-1 : Int) < _; omega
      · rcases h3 with h3 | h3
        · subst h3; show (-1 : Int) < _; omega
        · omega
    rw [e, if_pos h5]
    exact ⟨rfl, Or.inr rfl⟩
set_option maxRecDepth 100000 in
set_option maxHeartbeats 4000000 in
theorem c_X12_worst (l : Launch) (hls : l.stackTraces = false) (G : kG) (hN : kN G = 150) (w : Nat → va_E) (fl : va_W) (u g : Nat → Int) (T : Int) (hT : -2147483648 ≤ T ∧ T ≤ 2147483647) (hI : Inv g) (hm : w 133 = mdO G u) (hn : w 134 = lA G 93 g) (hSc : kScr G w) : KM l G yX12_worst cX12_worst 5 (some (FieldType.int)) 15 0 0 [.ref (kad G 133), vI T] w fl (kRt (thR ((0 ≤ T ∧ T ≤ 5000)) (worV g T) (False) 1 (¬ (0 ≤ T ∧ T ≤ 5000)) 1) fl (fun th w1 => mSt G w w1 u th)) := by
  refine KM_of2 hls (by decide +kernel) rfl (lv0 := [(0, .ref (kad G 133)), (1, vI T)]) rfl (Nat.le_of_ble_eq_true rfl) (fun p e R s m args below meth c Q hC hr hQ => ?_)
  obtain ⟨⟨ls, lc, lo, hLs⟩, hx, hy, hHt⟩ := hSc
  have h0 := hI.c
  refine k_aload_n hC dX12_worst_0 rfl 0 rfl ?_
  refine k_iconst hC dX12_worst_1 ?_
  refine k_put hC fd_X12_74 (kl hN (by decide)) hm [.ref (kad G 134), .ref (kad G 135), .ref (kad G 136), .ref (kad G 137), vI (u 4), vI 0, vI (u 6), .ref (kad G 138), .ref (kad G 139), .ref (kad G 140), .ref (kad G 141), .ref (kad G 142), vL (u 12), vL (u 13), .ref (kad G 143), vI (u 15), .ref (kad G 144), vI (u 17), vI (u 18), vI (u 19), vI (u 20), vI (u 21), vI (u 22), vI (u 23), vI (u 24), vI (u 25), .ref (kad G 145), .ref (kad G 146), .ref (kad G 147), vI (u 29)] rfl (Nat.le_of_ble_eq_true rfl) rfl rfl dX12_worst_2 (fun w1 hw1 hf1 => ?_)
  refine k_aload_n hC dX12_worst_5 rfl 0 rfl ?_
  refine k_iload_n hC dX12_worst_6 rfl 1 rfl ?_
  have h_2 : w1 134 = lA G 93 g := (hf1 134 (by decide)).trans hn
  refine k_pureV hC (c_X12_isTime l hls G hN w1 fl (kup u 5 0) g T (by omega) hI hw1 h_2) yy_X12_isTime wm_X12_262 (kl hN (by decide)) hw1 rfl rfl rfl rfl (Nat.le_of_ble_eq_true rfl) (by decide) (by decide) ⟨by decide, by decide⟩ dX12_worst_7 ?_
  obtain ⟨z_3, ez_3, hz_3⟩ := k_bI (0 ≤ T ∧ T ≤ 5000)
  refine k_topv (vI z_3) (by rw [ez_3]) ?_
  refine k_if_ne hC 19 dX12_worst_10 rfl (by omega) (fun c_10 => ?_) (fun c_10 => ?_)
  · have ht : 0 ≤ T ∧ T ≤ 5000 := by omega
    refine k_iconst hC dX12_worst_19 ?_
    refine k_istore_n hC [(2, vI (-1)), (0, .ref (kad G 133)), (1, vI T)] dX12_worst_20 rfl (by decide) rfl ?_
    refine k_aload_n hC dX12_worst_21 rfl 1 rfl ?_
    refine k_iload_n hC dX12_worst_22 rfl 2 rfl ?_
    refine k_i2l hC dX12_worst_23 (by omega) ?_
    have hB_4 : kLns G w1 ls lc lo := hLs.fr (fun j q1 q2 => (hf1 j (by omega)))
    refine k_mutV hC (c_X12_layFix l hls G hN w1 fl (kup u 5 0) g ls lc lo T hI (by omega) hw1 h_2 hB_4) yy_X12_layFix wm_X12_289 (kl hN (by decide)) hw1 rfl rfl rfl rfl (Nat.le_of_ble_eq_true rfl) (by decide) (by decide) ⟨by decide, by decide⟩ dX12_worst_24 (fun w5 hp5 => ?_)
    obtain ⟨⟨ls5, lc5, lo5, hl5, hall5⟩, ⟨fe5, fn5, hu5, hfe5⟩, hf5⟩ := hp5
    have hall := hall5
    obtain ⟨zf, ezf, hzf⟩ := (⟨fixI g, rfl, fixI_c g⟩ : ∃ z : Int, fixI g = z ∧ ((z = 1 ∧ fixP g) ∨ (z = 0 ∧ ¬ fixP g)))
    refine k_topv (vI zf) (by rw [ezf]) ?_
    refine k_istore_n hC [(3, vI zf), (2, vI (-1)), (0, .ref (kad G 133)), (1, vI T)] dX12_worst_27 rfl (by decide) rfl ?_
    refine k_iconst hC dX12_worst_28 ?_
    refine k_istore hC [(4, vI 0), (3, vI zf), (2, vI (-1)), (0, .ref (kad G 133)), (1, vI T)] dX12_worst_29 (by decide) rfl ?_
    have loop : ∀ (n : Nat) (k : Nat) (wo : Int), ((g 2).toNat < n + k) → ((k : Int) ≤ g 2) → ((k = 0 ∧ wo = -1) ∨ (zf = 1 ∧ 0 < k ∧ 0 ≤ wo ∧ wo < (k : Int))) → (zf = 1 → (worS g T k).1 = wo ∧ (k = 0 ∨ (worS g T k).2 = ((resM g T wo.toNat).natAbs : Int))) → KW p l e R s m args below meth c 5 G Q w5 fl 0 0 31 [(4, vI (k : Int)), (3, vI zf), (2, vI wo), (0, .ref (kad G 133)), (1, vI T)] [] := by
      intro n
      induction n with
      | zero =>
        intro k wo hn_ hk hwo hwq
        exact absurd hn_ (by omega)
      | succ n ih =>
        intro k wo hn_ hk hwo hwq
        refine k_iload hC dX12_worst_31 0 rfl ?_
        refine k_i2l hC dX12_worst_33 (by omega) ?_
        refine k_aload_n hC dX12_worst_34 rfl 3 rfl ?_
        refine k_get hC fd_X12_9 (kl hN (by decide)) hu5 rfl dX12_worst_35 ?_
        refine k_iconst hC dX12_worst_38 ?_
        have h_6 : w5 134 = lA G 93 g := (hf5 134 (by omega)).trans h_2
        refine k_lald hC (kl hN (by decide)) h_6 (by omega) (by decide) dX12_worst_39 ?_
        refine k_topv (vL (g 2)) rfl ?_
        refine k_lcmp_ge hC 87 dX12_worst_40 dX12_worst_41 rfl (by omega) (by omega) (fun c_40 => ?_) (fun c_40 => ?_)
        · refine k_iload_n hC dX12_worst_87 rfl 2 rfl ?_
          have hB_7 : kHts G w5 hx hy := hHt.fr (fun j q1 q2 => (hf5 j (by omega)).trans (hf1 j (by omega)))
          subst hQ
          exact k_iret hC hr ⟨by decide, by decide⟩ (⟨_, 0, rfl, rfl, Or.inl ⟨by omega, rfl, (show ((wo : Int) = worV g T) from (by unfold worV; rcases hzf with ⟨q1, q2⟩ | ⟨q1, q2⟩; rw [selI_1 q2, show (g 2).toNat = k by omega]; exact (hwq q1).1.symm; rw [selI_0 q2]; omega))⟩, ⟨⟨fe5, fn5, hu5⟩, ⟨⟨_, _, _, hl5⟩, _, _, hB_7⟩, fun j hj => (hf5 j (by omega)).trans (hf1 j (by omega))⟩⟩) dX12_worst_88
        · refine k_iload_n hC dX12_worst_44 rfl 1 rfl ?_
          refine k_if_eq hC 87 dX12_worst_45 rfl (by omega) (fun c_45 => ?_) (fun c_45 => ?_)
          · have nfp : ¬ fixP g := (hzf.resolve_left (fun q1 => by omega)).2
            refine k_iload_n hC dX12_worst_87 rfl 2 rfl ?_
            have hB_8 : kHts G w5 hx hy := hHt.fr (fun j q1 q2 => (hf5 j (by omega)).trans (hf1 j (by omega)))
            subst hQ
            exact k_iret hC hr ⟨by decide, by decide⟩ (⟨_, 0, rfl, rfl, Or.inl ⟨by omega, rfl, (show ((wo : Int) = worV g T) from (by unfold worV; rcases hzf with ⟨q1, q2⟩ | ⟨q1, q2⟩; rw [selI_1 q2, show (g 2).toNat = k by omega]; exact (hwq q1).1.symm; rw [selI_0 q2]; omega))⟩, ⟨⟨fe5, fn5, hu5⟩, ⟨⟨_, _, _, hl5⟩, _, _, hB_8⟩, fun j hj => (hf5 j (by omega)).trans (hf1 j (by omega))⟩⟩) dX12_worst_88
          · have hfp : fixP g := (hzf.resolve_right (fun q1 => by omega)).2
            have hft := hfe5 hfp
            refine k_iload_n hC dX12_worst_48 rfl 2 rfl ?_
            refine k_iconst hC dX12_worst_49 ?_
            refine k_icmp_eq hC 74 dX12_worst_50 rfl (by omega) (by omega) (fun c_50 => ?_) (fun c_50 => ?_)
            · refine k_iload hC dX12_worst_74 0 rfl ?_
              refine k_goto hC 80 dX12_worst_76 rfl ?_
              refine k_istore_n hC [(2, vI (k : Int)), (4, vI (k : Int)), (3, vI zf), (0, .ref (kad G 133)), (1, vI T)] dX12_worst_80 rfl (by decide) rfl ?_
              refine k_iinc hC (y := (k : Int) + 1) [(4, vI ((k : Int) + 1)), (2, vI (k : Int)), (3, vI zf), (0, .ref (kad G 133)), (1, vI T)] (j := 1) dX12_worst_81 rfl (by omega) (by decide) rfl ?_
              refine k_goto hC 31 dX12_worst_84 rfl ?_
              refine k_lvs (ls := [0, 2, 1, 3, 4]) [(4, vI ((k : Int) + 1)), (3, vI zf), (2, vI (k : Int)), (0, .ref (kad G 133)), (1, vI T)] rfl ?_
              refine k_lvs (ls := [0, 1, 2, 3, 4]) [(4, vI ((k + 1 : Nat) : Int)), (3, vI zf), (2, vI (k : Int)), (0, .ref (kad G 133)), (1, vI T)] (by simp only [lv_pick]; rfl) ?_
              exact ih (k + 1) (k : Int)  (by omega) (by omega) (Or.inr ⟨by omega, by omega, by omega, by omega⟩) (worS_step wo (hwq (by omega)) (Or.inr ⟨rfl, Or.inl (by omega)⟩))
            · refine k_aload_n hC dX12_worst_53 rfl 3 rfl ?_
              refine k_iload hC dX12_worst_54 0 rfl ?_
              refine k_pureV hC (c_X12_residualOf l hls G hN w5 fl (kup (kup (kup u 5 0) 12 fe5) 13 fn5) g ls5 lc5 lo5 k T hI (by omega) ht (hall k (by omega)) hft hu5 h_6 hl5) yy_X12_residualOf wm_X12_293 (kl hN (by decide)) hu5 rfl rfl rfl rfl (Nat.le_of_ble_eq_true rfl) (by decide) (by decide) ⟨by decide, by decide⟩ dX12_worst_56 ?_
              have hrb_9 := resM_b hI ht k (by omega)
              refine k_mabsL hC wm_X12_204 wmath_mabsL (by omega) (by decide) (Nat.le_of_ble_eq_true rfl) ⟨by decide, by decide⟩ dX12_worst_59 ?_
              refine k_aload_n hC dX12_worst_62 rfl 3 rfl ?_
              refine k_iload_n hC dX12_worst_63 rfl 2 rfl ?_
              obtain ⟨wn, ewn⟩ : ∃ z : Nat, wo = (z : Int) := ⟨wo.toNat, by omega⟩
              subst ewn
              refine k_pureV hC (c_X12_residualOf l hls G hN w5 fl (kup (kup (kup u 5 0) 12 fe5) 13 fn5) g ls5 lc5 lo5 wn T hI (by omega) ht (hall wn (by omega)) hft hu5 h_6 hl5) yy_X12_residualOf wm_X12_293 (kl hN (by decide)) hu5 rfl rfl rfl rfl (Nat.le_of_ble_eq_true rfl) (by decide) (by decide) ⟨by decide, by decide⟩ dX12_worst_64 ?_
              have hrb_10 := resM_b hI ht wn (by omega)
              refine k_mabsL hC wm_X12_204 wmath_mabsL (by omega) (by decide) (Nat.le_of_ble_eq_true rfl) ⟨by decide, by decide⟩ dX12_worst_67 ?_
              refine k_lcmp_le hC 79 dX12_worst_70 dX12_worst_71 rfl (by omega) (by omega) (fun c_70 => ?_) (fun c_70 => ?_)
              · refine k_iload_n hC dX12_worst_79 rfl 2 rfl ?_
                refine k_istore_n hC [(2, vI (wn : Int)), (4, vI (k : Int)), (3, vI zf), (0, .ref (kad G 133)), (1, vI T)] dX12_worst_80 rfl (by decide) rfl ?_
                refine k_iinc hC (y := (k : Int) + 1) [(4, vI ((k : Int) + 1)), (2, vI (wn : Int)), (3, vI zf), (0, .ref (kad G 133)), (1, vI T)] (j := 1) dX12_worst_81 rfl (by omega) (by decide) rfl ?_
                refine k_goto hC 31 dX12_worst_84 rfl ?_
                refine k_lvs (ls := [0, 2, 1, 3, 4]) [(4, vI ((k : Int) + 1)), (3, vI zf), (2, vI (wn : Int)), (0, .ref (kad G 133)), (1, vI T)] rfl ?_
                refine k_lvs (ls := [0, 1, 2, 3, 4]) [(4, vI ((k + 1 : Nat) : Int)), (3, vI zf), (2, vI (wn : Int)), (0, .ref (kad G 133)), (1, vI T)] (by simp only [lv_pick]; rfl) ?_
                exact ih (k + 1) (wn : Int)  (by omega) (by omega) (Or.inr ⟨by omega, by omega, by omega, by omega⟩) (worS_step (wn : Int) (hwq (by omega)) (Or.inl ⟨rfl, by omega, by rw [show ((wn : Nat) : Int).toNat = wn from rfl]; omega⟩))
              · refine k_iload hC dX12_worst_74 0 rfl ?_
                refine k_goto hC 80 dX12_worst_76 rfl ?_
                refine k_istore_n hC [(2, vI (k : Int)), (4, vI (k : Int)), (3, vI zf), (0, .ref (kad G 133)), (1, vI T)] dX12_worst_80 rfl (by decide) rfl ?_
                refine k_iinc hC (y := (k : Int) + 1) [(4, vI ((k : Int) + 1)), (2, vI (k : Int)), (3, vI zf), (0, .ref (kad G 133)), (1, vI T)] (j := 1) dX12_worst_81 rfl (by omega) (by decide) rfl ?_
                refine k_goto hC 31 dX12_worst_84 rfl ?_
                refine k_lvs (ls := [0, 2, 1, 3, 4]) [(4, vI ((k : Int) + 1)), (3, vI zf), (2, vI (k : Int)), (0, .ref (kad G 133)), (1, vI T)] rfl ?_
                refine k_lvs (ls := [0, 1, 2, 3, 4]) [(4, vI ((k + 1 : Nat) : Int)), (3, vI zf), (2, vI (k : Int)), (0, .ref (kad G 133)), (1, vI T)] (by simp only [lv_pick]; rfl) ?_
                exact ih (k + 1) (k : Int)  (by omega) (by omega) (Or.inr ⟨by omega, by omega, by omega, by omega⟩) (worS_step (wn : Int) (hwq (by omega)) (Or.inr ⟨rfl, Or.inr (by rw [show ((wn : Nat) : Int).toNat = wn from rfl]; omega)⟩))
    refine k_lvs (ls := [0, 1, 2, 3, 4]) [(4, vI ((0 : Nat) : Int)), (3, vI zf), (2, vI (-1)), (0, .ref (kad G 133)), (1, vI T)] (by simp only [lv_pick]; rfl) ?_
    exact loop 13 0 (-1)  (by omega) (by omega) (Or.inl ⟨rfl, rfl⟩) (fun _ => ⟨rfl, Or.inl rfl⟩)
  · refine k_aload_n hC dX12_worst_13 rfl 0 rfl ?_
    refine k_iconst hC dX12_worst_14 ?_
    refine k_mutV hC (c_X12_raise l hls G hN w1 fl (kup u 5 0) 1 hw1) yy_X12_raise wm_X12_247 (kl hN (by decide)) hw1 rfl rfl rfl rfl (Nat.le_of_ble_eq_true rfl) (by decide) (by decide) ⟨by decide, by decide⟩ dX12_worst_15 (fun w11 hp11 => ?_)
    obtain ⟨hu11, hf11⟩ := hp11
    have hB_12 : kLns G w11 ls lc lo := hLs.fr (fun j q1 q2 => (hf11 j (by omega)).trans (hf1 j (by omega)))
    have hB_13 : kHts G w11 hx hy := hHt.fr (fun j q1 q2 => (hf11 j (by omega)).trans (hf1 j (by omega)))
    subst hQ
    exact k_iret hC hr ⟨by decide, by decide⟩ (⟨_, 1, rfl, rfl, Or.inr (Or.inr ⟨by omega, rfl⟩), ⟨⟨u 12, u 13, hu11⟩, ⟨⟨_, _, _, hB_12⟩, _, _, hB_13⟩, fun j hj => (hf11 j (by omega)).trans (hf1 j (by omega))⟩⟩) dX12_worst_18

set_option maxRecDepth 100000 in
set_option maxHeartbeats 4000000 in
theorem c_X12_offCourse (l : Launch) (hls : l.stackTraces = false) (G : kG) (hN : kN G = 150) (w : Nat → va_E) (fl : va_W) (u g : Nat → Int) (T : Int) (hT : -2147483648 ≤ T ∧ T ≤ 2147483647) (hI : Inv g) (hm : w 133 = mdO G u) (hn : w 134 = lA G 93 g) (hSc : kScr G w) : KM l G yX12_offCourse cX12_offCourse 2 (some (FieldType.int)) 15 0 0 [.ref (kad G 133), vI T] w fl (kRt (thR ((0 ≤ T ∧ T ≤ 5000)) (offV g T) (False) 1 (¬ (0 ≤ T ∧ T ≤ 5000)) 1) fl (fun th w1 => mSt G w w1 u th)) := by
  refine KM_of2 hls (by decide +kernel) rfl (lv0 := [(0, .ref (kad G 133)), (1, vI T)]) rfl (Nat.le_of_ble_eq_true rfl) (fun p e R s m args below meth c Q hC hr hQ => ?_)
  obtain ⟨⟨ls, lc, lo, hLs⟩, hx, hy, hHt⟩ := hSc
  have h0 := hI.c
  refine k_aload_n hC dX12_offCourse_0 rfl 0 rfl ?_
  refine k_iconst hC dX12_offCourse_1 ?_
  refine k_put hC fd_X12_74 (kl hN (by decide)) hm [.ref (kad G 134), .ref (kad G 135), .ref (kad G 136), .ref (kad G 137), vI (u 4), vI 0, vI (u 6), .ref (kad G 138), .ref (kad G 139), .ref (kad G 140), .ref (kad G 141), .ref (kad G 142), vL (u 12), vL (u 13), .ref (kad G 143), vI (u 15), .ref (kad G 144), vI (u 17), vI (u 18), vI (u 19), vI (u 20), vI (u 21), vI (u 22), vI (u 23), vI (u 24), vI (u 25), .ref (kad G 145), .ref (kad G 146), .ref (kad G 147), vI (u 29)] rfl (Nat.le_of_ble_eq_true rfl) rfl rfl dX12_offCourse_2 (fun w1 hw1 hf1 => ?_)
  refine k_aload_n hC dX12_offCourse_5 rfl 0 rfl ?_
  refine k_iload_n hC dX12_offCourse_6 rfl 1 rfl ?_
  have h_2 : w1 134 = lA G 93 g := (hf1 134 (by decide)).trans hn
  refine k_pureV hC (c_X12_isTime l hls G hN w1 fl (kup u 5 0) g T (by omega) hI hw1 h_2) yy_X12_isTime wm_X12_262 (kl hN (by decide)) hw1 rfl rfl rfl rfl (Nat.le_of_ble_eq_true rfl) (by decide) (by decide) ⟨by decide, by decide⟩ dX12_offCourse_7 ?_
  obtain ⟨z_3, ez_3, hz_3⟩ := k_bI (0 ≤ T ∧ T ≤ 5000)
  refine k_topv (vI z_3) (by rw [ez_3]) ?_
  refine k_if_ne hC 19 dX12_offCourse_10 rfl (by omega) (fun c_10 => ?_) (fun c_10 => ?_)
  · have ht : 0 ≤ T ∧ T ≤ 5000 := by omega
    refine k_aload_n hC dX12_offCourse_19 rfl 0 rfl ?_
    refine k_iload_n hC dX12_offCourse_20 rfl 1 rfl ?_
    refine k_i2l hC dX12_offCourse_21 (by omega) ?_
    have hB_4 : kLns G w1 ls lc lo := hLs.fr (fun j q1 q2 => (hf1 j (by omega)))
    refine k_mutV hC (c_X12_layFix l hls G hN w1 fl (kup u 5 0) g ls lc lo T hI (by omega) hw1 h_2 hB_4) yy_X12_layFix wm_X12_289 (kl hN (by decide)) hw1 rfl rfl rfl rfl (Nat.le_of_ble_eq_true rfl) (by decide) (by decide) ⟨by decide, by decide⟩ dX12_offCourse_22 (fun w5 hp5 => ?_)
    obtain ⟨⟨ls5, lc5, lo5, hl5, hall5⟩, ⟨fe5, fn5, hu5, hfe5⟩, hf5⟩ := hp5
    have hall := hall5
    obtain ⟨zf, ezf, hzf⟩ := (⟨fixI g, rfl, fixI_c g⟩ : ∃ z : Int, fixI g = z ∧ ((z = 1 ∧ fixP g) ∨ (z = 0 ∧ ¬ fixP g)))
    refine k_topv (vI zf) (by rw [ezf]) ?_
    refine k_if_eq hC 38 dX12_offCourse_25 rfl (by omega) (fun c_25 => ?_) (fun c_25 => ?_)
    · have nfp : ¬ fixP g := (hzf.resolve_left (fun q1 => by omega)).2
      refine k_ldcw hC (x := (-1000000000)) (v := (-1000000000)) dX12_offCourse_38 (by decide) wk_X12_268 ?_
      have hB_6 : kHts G w5 hx hy := hHt.fr (fun j q1 q2 => (hf5 j (by omega)).trans (hf1 j (by omega)))
      subst hQ
      exact k_iret hC hr ⟨by decide, by decide⟩ (⟨_, 0, rfl, rfl, Or.inl ⟨by omega, rfl, (show ((-1000000000 : Int) = offV g T) from (by unfold offV; rw [selI_0 nfp]))⟩, ⟨⟨fe5, fn5, hu5⟩, ⟨⟨_, _, _, hl5⟩, _, _, hB_6⟩, fun j hj => (hf5 j (by omega)).trans (hf1 j (by omega))⟩⟩) dX12_offCourse_41
    · have hfp : fixP g := (hzf.resolve_right (fun q1 => by omega)).2
      have hft := hfe5 hfp
      refine k_aload_n hC dX12_offCourse_28 rfl 0 rfl ?_
      refine k_iload_n hC dX12_offCourse_29 rfl 1 rfl ?_
      refine k_i2l hC dX12_offCourse_30 (by omega) ?_
      have h_7 : w5 134 = lA G 93 g := (hf5 134 (by omega)).trans h_2
      refine k_pureV hC (c_X12_distance l hls G hN w5 fl (kup (kup (kup u 5 0) 12 fe5) 13 fn5) g T hI (by omega) hft hu5 h_7) yy_X12_distance wm_X12_296 (kl hN (by decide)) hu5 rfl rfl rfl rfl (Nat.le_of_ble_eq_true rfl) (by decide) (by decide) ⟨by decide, by decide⟩ dX12_offCourse_31 ?_
      refine k_topv (vL (dstM g T)) rfl ?_
      have hdb_8 := dstM_b hI ht
      refine k_l2i hC dX12_offCourse_34 ?_
      refine k_goto hC 41 dX12_offCourse_35 rfl ?_
      have hB_9 : kHts G w5 hx hy := hHt.fr (fun j q1 q2 => (hf5 j (by omega)).trans (hf1 j (by omega)))
      subst hQ
      exact k_iret hC hr ⟨by decide, by decide⟩ (⟨_, 0, rfl, rfl, Or.inl ⟨by omega, rfl, (show ((dstM g T : Int) = offV g T) from (by unfold offV; rw [selI_1 hfp]))⟩, ⟨⟨fe5, fn5, hu5⟩, ⟨⟨_, _, _, hl5⟩, _, _, hB_9⟩, fun j hj => (hf5 j (by omega)).trans (hf1 j (by omega))⟩⟩) dX12_offCourse_41
  · refine k_aload_n hC dX12_offCourse_13 rfl 0 rfl ?_
    refine k_iconst hC dX12_offCourse_14 ?_
    refine k_mutV hC (c_X12_raise l hls G hN w1 fl (kup u 5 0) 1 hw1) yy_X12_raise wm_X12_247 (kl hN (by decide)) hw1 rfl rfl rfl rfl (Nat.le_of_ble_eq_true rfl) (by decide) (by decide) ⟨by decide, by decide⟩ dX12_offCourse_15 (fun w10 hp10 => ?_)
    obtain ⟨hu10, hf10⟩ := hp10
    have hB_11 : kLns G w10 ls lc lo := hLs.fr (fun j q1 q2 => (hf10 j (by omega)).trans (hf1 j (by omega)))
    have hB_12 : kHts G w10 hx hy := hHt.fr (fun j q1 q2 => (hf10 j (by omega)).trans (hf1 j (by omega)))
    subst hQ
    exact k_iret hC hr ⟨by decide, by decide⟩ (⟨_, 1, rfl, rfl, Or.inr (Or.inr ⟨by omega, rfl⟩), ⟨⟨u 12, u 13, hu10⟩, ⟨⟨_, _, _, hB_11⟩, _, _, hB_12⟩, fun j hj => (hf10 j (by omega)).trans (hf1 j (by omega))⟩⟩) dX12_offCourse_18

set_option maxRecDepth 100000 in
set_option maxHeartbeats 4000000 in
theorem c_X12_setOf (l : Launch) (hls : l.stackTraces = false) (G : kG) (hN : kN G = 150) (w : Nat → va_E) (fl : va_W) (u : Nat → Int) (x y r : Int) (hx : (x.natAbs : Int) ≤ r) (hr9 : 0 ≤ r ∧ r ≤ 2147483647) (hy : -2147483648 ≤ y ∧ y ≤ 2147483647) (hm : w 133 = mdO G u) : KM l G yX12_setOf cX12_setOf 9 (some (FieldType.long)) 6 0 0 [.ref (kad G 133), vL x, vL y, vL r] w fl (kPure (vL (dirM x y r)) w fl) := by
  refine KM_of2 hls (by decide +kernel) rfl (lv0 := [(0, .ref (kad G 133)), (1, vL x), (3, vL y), (5, vL r)]) rfl (Nat.le_of_ble_eq_true rfl) (fun p e R s m args below meth c Q hC hr hQ => ?_)
  refine k_lload hC dX12_setOf_0 3 rfl ?_
  refine k_lconst (x := 0) hC dX12_setOf_2 (by decide) ?_
  refine k_lcmp_ne hC 9 dX12_setOf_3 dX12_setOf_4 rfl (by omega) (by omega) (fun c_3 => ?_) (fun c_3 => ?_)
  · refine k_lload_n hC dX12_setOf_9 rfl 1 rfl ?_
    refine k_mabsL hC wm_X12_204 wmath_mabsL (by omega) (by decide) (Nat.le_of_ble_eq_true rfl) ⟨by decide, by decide⟩ dX12_setOf_10 ?_
    refine k_ldc2 hC (x := 1000000) (v := 1000000) dX12_setOf_13 (by decide) wk_X12_113 ?_
    refine k_lmul hC dX12_setOf_16 ?_
    refine k_lload hC dX12_setOf_17 3 rfl ?_
    refine k_pureS hC (c_X12_floor l hls G hN w fl (((x).natAbs : Int) * 1000000) r (by omega) (by omega)) yy_X12_floor wm_X12_92 rfl rfl (Nat.le_of_ble_eq_true rfl) (by decide) (by decide) ⟨by decide, by decide⟩ dX12_setOf_19 ?_
    have hfd := k_fdivb (a := (x.natAbs : Int) * 1000000) (b := r) (by omega)
    have hfe : ((x.natAbs : Int) * 1000000).fdiv r ≤ 1000000 := by
      rw [Int.fdiv_eq_ediv_of_nonneg _ (by omega)]
      exact Int.ediv_le_of_le_mul (by omega) (by omega)
    have hlm : limM (((x.natAbs : Int) * 1000000).fdiv r) = ((x.natAbs : Int) * 1000000).fdiv r := by unfold limM; omega
    refine k_pureS hC (c_X12_arcOf l hls G hN w fl ((((x).natAbs : Int) * 1000000).fdiv r) (by omega)) yy_X12_arcOf wm_X12_110 rfl rfl (Nat.le_of_ble_eq_true rfl) (by decide) (by decide) ⟨by decide, by decide⟩ dX12_setOf_22 ?_
    have hb_1 := arcM_b ((((x).natAbs : Int) * 1000000).fdiv r)
    refine k_topL (fun an ean => ?_)
    refine k_lstore hC [(7, vL an), (0, .ref (kad G 133)), (1, vL x), (3, vL y), (5, vL r)] dX12_setOf_25 (by decide) rfl ?_
    have han := arcM_b (((x.natAbs : Int) * 1000000).fdiv r)
    have han0 := arcM_nn (v := ((x.natAbs : Int) * 1000000).fdiv r) (by omega)
    rw [← ean] at han han0
    refine k_lload_n hC dX12_setOf_27 rfl 2 rfl ?_
    refine k_lconst (x := 0) hC dX12_setOf_28 (by decide) ?_
    refine k_lcmp_lt hC 51 dX12_setOf_29 dX12_setOf_30 rfl (by omega) (by omega) (fun c_29 => ?_) (fun c_29 => ?_)
    · refine k_lload_n hC dX12_setOf_51 rfl 3 rfl ?_
      refine k_lconst (x := 0) hC dX12_setOf_52 (by decide) ?_
      refine k_lcmp_ge hC 66 dX12_setOf_53 dX12_setOf_54 rfl (by omega) (by omega) (fun c_53 => ?_) (fun c_53 => ?_)
      · refine k_ldc2 hC (x := 21600) (v := 21600) dX12_setOf_66 (by decide) wk_X12_90 ?_
        refine k_lload hC dX12_setOf_69 0 rfl ?_
        refine k_lsub hC dX12_setOf_71 ?_
        refine k_pureS hC (c_X12_turned l hls G hN w fl (21600 - an) (by omega)) yy_X12_turned wm_X12_95 rfl rfl (Nat.le_of_ble_eq_true rfl) (by decide) (by decide) ⟨by decide, by decide⟩ dX12_setOf_72 ?_
        subst hQ
        exact k_lret hC hr ⟨by decide, by decide⟩ (⟨congrArg (fun z => some (vL z)) (show (dirM x y r : Int) = (21600 - an) % 21600 from by unfold dirM; rw [hlm, ← ean, if_neg (by omega)]; first | (rw [if_pos (by omega), if_pos (by omega)]; done) | (rw [if_pos (by omega), if_neg (by omega)]; done) | (rw [if_neg (by omega), if_pos (by omega)]; done) | (rw [if_neg (by omega), if_neg (by omega)]; by_cases hz0 : an = 0; (rw [if_pos hz0]; omega); (rw [if_neg hz0]; omega))), rfl, rfl⟩) dX12_setOf_75
      · refine k_ldc2 hC (x := 10800) (v := 10800) dX12_setOf_57 (by decide) wk_X12_99 ?_
        refine k_lload hC dX12_setOf_60 0 rfl ?_
        refine k_ladd hC dX12_setOf_62 ?_
        refine k_goto hC 75 dX12_setOf_63 rfl ?_
        subst hQ
        exact k_lret hC hr ⟨by decide, by decide⟩ (⟨congrArg (fun z => some (vL z)) (show (dirM x y r : Int) = 10800 + an from by unfold dirM; rw [hlm, ← ean, if_neg (by omega)]; first | (rw [if_pos (by omega), if_pos (by omega)]; done) | (rw [if_pos (by omega), if_neg (by omega)]; done) | (rw [if_neg (by omega), if_pos (by omega)]; done) | (rw [if_neg (by omega), if_neg (by omega)]; by_cases hz0 : an = 0; (rw [if_pos hz0]; omega); (rw [if_neg hz0]; omega))), rfl, rfl⟩) dX12_setOf_75
    · refine k_lload_n hC dX12_setOf_33 rfl 3 rfl ?_
      refine k_lconst (x := 0) hC dX12_setOf_34 (by decide) ?_
      refine k_lcmp_lt hC 44 dX12_setOf_35 dX12_setOf_36 rfl (by omega) (by omega) (fun c_35 => ?_) (fun c_35 => ?_)
      · refine k_ldc2 hC (x := 10800) (v := 10800) dX12_setOf_44 (by decide) wk_X12_99 ?_
        refine k_lload hC dX12_setOf_47 0 rfl ?_
        refine k_lsub hC dX12_setOf_49 ?_
        subst hQ
        exact k_lret hC hr ⟨by decide, by decide⟩ (⟨congrArg (fun z => some (vL z)) (show (dirM x y r : Int) = 10800 - an from by unfold dirM; rw [hlm, ← ean, if_neg (by omega)]; first | (rw [if_pos (by omega), if_pos (by omega)]; done) | (rw [if_pos (by omega), if_neg (by omega)]; done) | (rw [if_neg (by omega), if_pos (by omega)]; done) | (rw [if_neg (by omega), if_neg (by omega)]; by_cases hz0 : an = 0; (rw [if_pos hz0]; omega); (rw [if_neg hz0]; omega))), rfl, rfl⟩) dX12_setOf_50
      · refine k_lload hC dX12_setOf_39 0 rfl ?_
        refine k_goto hC 50 dX12_setOf_41 rfl ?_
        subst hQ
        exact k_lret hC hr ⟨by decide, by decide⟩ (⟨congrArg (fun z => some (vL z)) (show (dirM x y r : Int) = an from by unfold dirM; rw [hlm, ← ean, if_neg (by omega)]; first | (rw [if_pos (by omega), if_pos (by omega)]; done) | (rw [if_pos (by omega), if_neg (by omega)]; done) | (rw [if_neg (by omega), if_pos (by omega)]; done) | (rw [if_neg (by omega), if_neg (by omega)]; by_cases hz0 : an = 0; (rw [if_pos hz0]; omega); (rw [if_neg hz0]; omega))), rfl, rfl⟩) dX12_setOf_50
  · refine k_lconst (x := 0) hC dX12_setOf_7 (by decide) ?_
    subst hQ
    exact k_lret hC hr ⟨by decide, by decide⟩ (⟨congrArg (fun z => some (vL z)) (show (dirM x y r : Int) = 0 from by unfold dirM; rw [if_pos (by omega)]), rfl, rfl⟩) dX12_setOf_8

set_option maxRecDepth 100000 in
set_option maxHeartbeats 4000000 in
theorem c_X12_unknownCurrent (l : Launch) (hls : l.stackTraces = false) (G : kG) (hN : kN G = 150) (w : Nat → va_E) (fl : va_W) (u g : Nat → Int) (T dr : Int) (hT : -2147483648 ≤ T ∧ T ≤ 2147483647) (hdr : dr = 0 ∨ dr = 1) (hI : Inv g) (hm : w 133 = mdO G u) (hn : w 134 = lA G 93 g) (hSc : kScr G w) : KM l G yX12_unknownCurrent cX12_unknownCurrent 5 (some (FieldType.int)) 15 0 0 [.ref (kad G 133), vI T, vI dr] w fl (kRt (thR (1 ≤ T ∧ T ≤ 5000) (unkV g T dr) (False) 1 (¬ (1 ≤ T ∧ T ≤ 5000)) 1) fl (fun th w1 => mSt G w w1 u th)) := by
  refine KM_of2 hls (by decide +kernel) rfl (lv0 := [(0, .ref (kad G 133)), (1, vI T), (2, vI dr)]) rfl (Nat.le_of_ble_eq_true rfl) (fun p e R s m args below meth c Q hC hr hQ => ?_)
  obtain ⟨⟨ls, lc, lo, hLs⟩, hx, hy, hHt⟩ := hSc
  have h0 := hI.c
  refine k_aload_n hC dX12_unknownCurrent_0 rfl 0 rfl ?_
  refine k_iconst hC dX12_unknownCurrent_1 ?_
  refine k_put hC fd_X12_74 (kl hN (by decide)) hm [.ref (kad G 134), .ref (kad G 135), .ref (kad G 136), .ref (kad G 137), vI (u 4), vI 0, vI (u 6), .ref (kad G 138), .ref (kad G 139), .ref (kad G 140), .ref (kad G 141), .ref (kad G 142), vL (u 12), vL (u 13), .ref (kad G 143), vI (u 15), .ref (kad G 144), vI (u 17), vI (u 18), vI (u 19), vI (u 20), vI (u 21), vI (u 22), vI (u 23), vI (u 24), vI (u 25), .ref (kad G 145), .ref (kad G 146), .ref (kad G 147), vI (u 29)] rfl (Nat.le_of_ble_eq_true rfl) rfl rfl dX12_unknownCurrent_2 (fun w1 hw1 hf1 => ?_)
  refine k_iload_n hC dX12_unknownCurrent_5 rfl 1 rfl ?_
  refine k_i2l hC dX12_unknownCurrent_6 (by omega) ?_
  refine k_lconst (x := 1) hC dX12_unknownCurrent_7 (by decide) ?_
  refine k_ldc2 hC (x := 5000) (v := 5000) dX12_unknownCurrent_8 (by decide) wk_X12_260 ?_
  refine k_pureS hC (c_X12_inRange l hls G hN w1 fl T 1 5000 (by omega) (by omega) (by omega)) yy_X12_inRange wm_X12_243 rfl rfl (Nat.le_of_ble_eq_true rfl) (by decide) (by decide) ⟨by decide, by decide⟩ dX12_unknownCurrent_11 ?_
  refine k_topv (vI (if 1 ≤ T ∧ T ≤ 5000 then 1 else 0)) rfl ?_
  obtain ⟨z_2, ez_2, hz_2⟩ := k_bI (1 ≤ T ∧ T ≤ 5000)
  refine k_topv (vI z_2) (by rw [ez_2]) ?_
  refine k_if_ne hC 23 dX12_unknownCurrent_14 rfl (by omega) (fun c_14 => ?_) (fun c_14 => ?_)
  · have ht : 0 ≤ T ∧ T ≤ 5000 := by omega
    refine k_aload_n hC dX12_unknownCurrent_23 rfl 0 rfl ?_
    refine k_iload_n hC dX12_unknownCurrent_24 rfl 1 rfl ?_
    refine k_i2l hC dX12_unknownCurrent_25 (by omega) ?_
    have h_3 : w1 134 = lA G 93 g := (hf1 134 (by decide)).trans hn
    have hB_4 : kLns G w1 ls lc lo := hLs.fr (fun j q1 q2 => (hf1 j (by omega)))
    refine k_mutV hC (c_X12_layFix l hls G hN w1 fl (kup u 5 0) g ls lc lo T hI (by omega) hw1 h_3 hB_4) yy_X12_layFix wm_X12_289 (kl hN (by decide)) hw1 rfl rfl rfl rfl (Nat.le_of_ble_eq_true rfl) (by decide) (by decide) ⟨by decide, by decide⟩ dX12_unknownCurrent_26 (fun w5 hp5 => ?_)
    obtain ⟨⟨ls5, lc5, lo5, hl5, hall5⟩, ⟨fe5, fn5, hu5, hfe5⟩, hf5⟩ := hp5
    have hall := hall5
    obtain ⟨zf, ezf, hzf⟩ := (⟨fixI g, rfl, fixI_c g⟩ : ∃ z : Int, fixI g = z ∧ ((z = 1 ∧ fixP g) ∨ (z = 0 ∧ ¬ fixP g)))
    refine k_topv (vI zf) (by rw [ezf]) ?_
    refine k_if_ne hC 36 dX12_unknownCurrent_29 rfl (by omega) (fun c_29 => ?_) (fun c_29 => ?_)
    · have hfp : fixP g := (hzf.resolve_right (fun q1 => by omega)).2
      have hft := hfe5 hfp
      have hfeb := fixE_b g T
      have hfnb := fixN_b g T
      have hd1 := dispM_b hI ht false
      have hd2 := dispM_b hI ht true
      have hdg := dstM_ge g T
      refine k_aload_n hC dX12_unknownCurrent_36 rfl 0 rfl ?_
      refine k_iload_n hC dX12_unknownCurrent_37 rfl 1 rfl ?_
      refine k_i2l hC dX12_unknownCurrent_38 (by omega) ?_
      have h_6 : w5 134 = lA G 93 g := (hf5 134 (by omega)).trans h_3
      refine k_pureV hC (c_X12_distance l hls G hN w5 fl (kup (kup (kup u 5 0) 12 fe5) 13 fn5) g T hI (by omega) hft hu5 h_6) yy_X12_distance wm_X12_296 (kl hN (by decide)) hu5 rfl rfl rfl rfl (Nat.le_of_ble_eq_true rfl) (by decide) (by decide) ⟨by decide, by decide⟩ dX12_unknownCurrent_39 ?_
      refine k_topv (vL (dstM g T)) rfl ?_
      have hdb_7 := dstM_b hI ht
      refine k_lstore_n hC [(3, vL (dstM g T)), (0, .ref (kad G 133)), (1, vI T), (2, vI dr)] dX12_unknownCurrent_42 rfl (by decide) rfl ?_
      refine k_iload_n hC dX12_unknownCurrent_43 rfl 3 rfl ?_
      refine k_if_eq hC 58 dX12_unknownCurrent_44 rfl (by omega) (fun c_44 => ?_) (fun c_44 => ?_)
      · refine k_aload_n hC dX12_unknownCurrent_58 rfl 1 rfl ?_
        refine k_aload_n hC dX12_unknownCurrent_59 rfl 1 rfl ?_
        refine k_get hC fd_X12_234 (kl hN (by decide)) hu5 rfl dX12_unknownCurrent_60 ?_
        refine k_aload_n hC dX12_unknownCurrent_63 rfl 1 rfl ?_
        refine k_iload_n hC dX12_unknownCurrent_64 rfl 2 rfl ?_
        refine k_i2l hC dX12_unknownCurrent_65 (by omega) ?_
        refine k_iconst hC dX12_unknownCurrent_66 ?_
        refine k_pureV hC (c_X12_displaced l hls G hN w5 fl (kup (kup (kup u 5 0) 12 fe5) 13 fn5) g T 0 hI (by omega) (by omega) hu5 h_6) yy_X12_displaced wm_X12_131 (kl hN (by decide)) hu5 rfl rfl rfl rfl (Nat.le_of_ble_eq_true rfl) (by decide) (by decide) ⟨by decide, by decide⟩ dX12_unknownCurrent_67 ?_
        refine k_topv (vL (dispM g T false)) rfl ?_
        have hb_8 := dispM_b hI (t := T) (by omega) false
        refine k_lsub hC dX12_unknownCurrent_70 ?_
        refine k_aload_n hC dX12_unknownCurrent_71 rfl 1 rfl ?_
        refine k_get hC fd_X12_238 (kl hN (by decide)) hu5 rfl dX12_unknownCurrent_72 ?_
        refine k_aload_n hC dX12_unknownCurrent_75 rfl 1 rfl ?_
        refine k_iload_n hC dX12_unknownCurrent_76 rfl 2 rfl ?_
        refine k_i2l hC dX12_unknownCurrent_77 (by omega) ?_
        refine k_iconst hC dX12_unknownCurrent_78 ?_
        refine k_pureV hC (c_X12_displaced l hls G hN w5 fl (kup (kup (kup u 5 0) 12 fe5) 13 fn5) g T 1 hI (by omega) (by omega) hu5 h_6) yy_X12_displaced wm_X12_131 (kl hN (by decide)) hu5 rfl rfl rfl rfl (Nat.le_of_ble_eq_true rfl) (by decide) (by decide) ⟨by decide, by decide⟩ dX12_unknownCurrent_79 ?_
        refine k_topv (vL (dispM g T true)) rfl ?_
        have hb_9 := dispM_b hI (t := T) (by omega) true
        refine k_lsub hC dX12_unknownCurrent_82 ?_
        refine k_lload_n hC dX12_unknownCurrent_83 rfl 0 rfl ?_
        refine k_pureV hC (c_X12_setOf l hls G hN w5 fl (kup (kup (kup u 5 0) 12 fe5) 13 fn5) (fe5 - (dispM g T false)) (fn5 - (dispM g T true)) (dstM g T) (by rw [hft.1]; exact hdg) (by omega) (by omega) hu5) yy_X12_setOf wm_X12_299 (kl hN (by decide)) hu5 rfl rfl rfl rfl (Nat.le_of_ble_eq_true rfl) (by decide) (by decide) ⟨by decide, by decide⟩ dX12_unknownCurrent_84 ?_
        refine k_l2i hC dX12_unknownCurrent_87 ?_
        have hB_10 : kHts G w5 hx hy := hHt.fr (fun j q1 q2 => (hf5 j (by omega)).trans (hf1 j (by omega)))
        subst hQ
        exact k_iret hC hr ⟨by decide, by decide⟩ (⟨_, 0, rfl, rfl, Or.inl ⟨by omega, rfl, (show ((dirM (fe5 - (dispM g T false)) (fn5 - (dispM g T true)) (dstM g T) : Int) = unkV g T dr) from (by unfold unkV; rw [selI_1 hfp, if_pos (by omega), hft.1, hft.2]))⟩, ⟨⟨fe5, fn5, hu5⟩, ⟨⟨_, _, _, hl5⟩, _, _, hB_10⟩, fun j hj => (hf5 j (by omega)).trans (hf1 j (by omega))⟩⟩) dX12_unknownCurrent_88
      · refine k_ldc2 hC (x := 6) (v := 6) dX12_unknownCurrent_47 (by decide) wk_X12_115 ?_
        refine k_lload_n hC dX12_unknownCurrent_50 rfl 0 rfl ?_
        refine k_lmul hC dX12_unknownCurrent_51 ?_
        refine k_iload_n hC dX12_unknownCurrent_52 rfl 2 rfl ?_
        refine k_i2l hC dX12_unknownCurrent_53 (by omega) ?_
        refine k_ldiv hC dX12_unknownCurrent_54 (by omega) (by omega) ?_
        refine k_topL (fun q_11 eq_11 => ?_)
        have eq_11 : q_11 = (6 * (dstM g T)).fdiv T := by rw [eq_11]; exact (fdiv_4 (by omega) (by omega)).symm
        refine k_goto hC 87 dX12_unknownCurrent_55 rfl ?_
        refine k_l2i hC dX12_unknownCurrent_87 ?_
        have hB_12 : kHts G w5 hx hy := hHt.fr (fun j q1 q2 => (hf5 j (by omega)).trans (hf1 j (by omega)))
        subst hQ
        exact k_iret hC hr ⟨by decide, by decide⟩ (⟨_, 0, rfl, rfl, Or.inl ⟨by omega, rfl, (show ((q_11 : Int) = unkV g T dr) from (by unfold unkV; rw [selI_1 hfp, if_neg (by omega)]; exact eq_11))⟩, ⟨⟨fe5, fn5, hu5⟩, ⟨⟨_, _, _, hl5⟩, _, _, hB_12⟩, fun j hj => (hf5 j (by omega)).trans (hf1 j (by omega))⟩⟩) dX12_unknownCurrent_88
    · have nfp : ¬ fixP g := (hzf.resolve_left (fun q1 => by omega)).2
      refine k_ldcw hC (x := (-1000000000)) (v := (-1000000000)) dX12_unknownCurrent_32 (by decide) wk_X12_268 ?_
      have hB_13 : kHts G w5 hx hy := hHt.fr (fun j q1 q2 => (hf5 j (by omega)).trans (hf1 j (by omega)))
      subst hQ
      exact k_iret hC hr ⟨by decide, by decide⟩ (⟨_, 0, rfl, rfl, Or.inl ⟨by omega, rfl, (show ((-1000000000 : Int) = unkV g T dr) from (by unfold unkV; rw [selI_0 nfp]))⟩, ⟨⟨fe5, fn5, hu5⟩, ⟨⟨_, _, _, hl5⟩, _, _, hB_13⟩, fun j hj => (hf5 j (by omega)).trans (hf1 j (by omega))⟩⟩) dX12_unknownCurrent_35
  · refine k_aload_n hC dX12_unknownCurrent_17 rfl 0 rfl ?_
    refine k_iconst hC dX12_unknownCurrent_18 ?_
    refine k_mutV hC (c_X12_raise l hls G hN w1 fl (kup u 5 0) 1 hw1) yy_X12_raise wm_X12_247 (kl hN (by decide)) hw1 rfl rfl rfl rfl (Nat.le_of_ble_eq_true rfl) (by decide) (by decide) ⟨by decide, by decide⟩ dX12_unknownCurrent_19 (fun w14 hp14 => ?_)
    obtain ⟨hu14, hf14⟩ := hp14
    have hB_15 : kLns G w14 ls lc lo := hLs.fr (fun j q1 q2 => (hf14 j (by omega)).trans (hf1 j (by omega)))
    have hB_16 : kHts G w14 hx hy := hHt.fr (fun j q1 q2 => (hf14 j (by omega)).trans (hf1 j (by omega)))
    subst hQ
    exact k_iret hC hr ⟨by decide, by decide⟩ (⟨_, 1, rfl, rfl, Or.inr (Or.inr ⟨by omega, rfl⟩), ⟨⟨u 12, u 13, hu14⟩, ⟨⟨_, _, _, hB_15⟩, _, _, hB_16⟩, fun j hj => (hf14 j (by omega)).trans (hf1 j (by omega))⟩⟩) dX12_unknownCurrent_22

def kRd (R : UInt64 → Int → Prop) (fl : va_W) (P : Int → (Nat → va_E) → Prop) : Option Value → (Nat → va_E) → va_W → Prop := fun v w1 fl1 => ∃ (b : UInt64) (th : Int), v = some (.double b) ∧ fl = fl1 ∧ R b th ∧ P th w1
def kRf (R : UInt32 → Int → Prop) (fl : va_W) (P : Int → (Nat → va_E) → Prop) : Option Value → (Nat → va_E) → va_W → Prop := fun v w1 fl1 => ∃ (b : UInt32) (th : Int), v = some (.float b) ∧ fl = fl1 ∧ R b th ∧ P th w1
theorem fix_n0 {g : Nat → Int} (h : g 2 = 0) : ¬ fixP g := by
  unfold fixP fixD fxA fxB fxC
  rw [h]
  show ¬ (100000000000 ≤ (0 : Int) * 0 - 0 * 0)
  decide
set_option maxRecDepth 100000 in
set_option maxHeartbeats 4000000 in
theorem c_X12_meanResidual (l : Launch) (hls : l.stackTraces = false) (G : kG) (hN : kN G = 150) (w : Nat → va_E) (fl : va_W) (u g : Nat → Int) (T : Int) (hT : -2147483648 ≤ T ∧ T ≤ 2147483647) (hI : Inv g) (hm : w 133 = mdO G u) (hn : w 134 = lA G 93 g) (hSc : kScr G w) : KM l G yX12_meanResidual cX12_meanResidual 5 (some (FieldType.double)) 15 0 0 [.ref (kad G 133), vI T] w fl (kRd (fun b th => ((0 ≤ T ∧ T ≤ 5000) ∧ th = 0 ∧ b = mrV g T) ∨ (¬ (0 ≤ T ∧ T ≤ 5000) ∧ th = 1)) fl (fun th w1 => mSt G w w1 u th)) := by
  refine KM_of2 hls (by decide +kernel) rfl (lv0 := [(0, .ref (kad G 133)), (1, vI T)]) rfl (Nat.le_of_ble_eq_true rfl) (fun p e R s m args below meth c Q hC hr hQ => ?_)
  obtain ⟨⟨ls, lc, lo, hLs⟩, hx, hy, hHt⟩ := hSc
  have h0 := hI.c
  refine k_aload_n hC dX12_meanResidual_0 rfl 0 rfl ?_
  refine k_aload_n hC dX12_meanResidual_1 rfl 0 rfl ?_
  refine k_iload_n hC dX12_meanResidual_2 rfl 1 rfl ?_
  refine k_pureV hC (c_X12_isTime l hls G hN w fl u g T (by omega) hI hm hn) yy_X12_isTime wm_X12_262 (kl hN (by decide)) hm rfl rfl rfl rfl (Nat.le_of_ble_eq_true rfl) (by decide) (by decide) ⟨by decide, by decide⟩ dX12_meanResidual_3 ?_
  obtain ⟨z_1, ez_1, hz_1⟩ := k_bI (0 ≤ T ∧ T ≤ 5000)
  refine k_topv (vI z_1) (by rw [ez_1]) ?_
  refine k_if_eq hC 13 dX12_meanResidual_6 rfl (by omega) (fun c_6 => ?_) (fun c_6 => ?_)
  · refine k_iconst hC dX12_meanResidual_13 ?_
    refine k_put hC fd_X12_74 (kl hN (by decide)) hm [.ref (kad G 134), .ref (kad G 135), .ref (kad G 136), .ref (kad G 137), vI (u 4), vI 1, vI (u 6), .ref (kad G 138), .ref (kad G 139), .ref (kad G 140), .ref (kad G 141), .ref (kad G 142), vL (u 12), vL (u 13), .ref (kad G 143), vI (u 15), .ref (kad G 144), vI (u 17), vI (u 18), vI (u 19), vI (u 20), vI (u 21), vI (u 22), vI (u 23), vI (u 24), vI (u 25), .ref (kad G 145), .ref (kad G 146), .ref (kad G 147), vI (u 29)] rfl (Nat.le_of_ble_eq_true rfl) rfl rfl dX12_meanResidual_14 (fun w2 hw2 hf2 => ?_)
    refine k_aload_n hC dX12_meanResidual_17 rfl 0 rfl ?_
    refine k_get hC fd_X12_74 (kl hN (by decide)) hw2 rfl dX12_meanResidual_18 ?_
    refine k_if_ne hC 33 dX12_meanResidual_21 rfl (by omega) (fun c_21 => ?_) (fun c_21 => absurd c_21 (by omega))
    refine k_dconst0 hC dX12_meanResidual_33 ?_
    have hB_3 : kLns G w2 ls lc lo := hLs.fr (fun j q1 q2 => (hf2 j (by omega)))
    have hB_4 : kHts G w2 hx hy := hHt.fr (fun j q1 q2 => (hf2 j (by omega)))
    subst hQ
    exact k_dret hC hr ⟨by decide, by decide⟩ (⟨_, 1, rfl, rfl, Or.inr ⟨by omega, rfl⟩, ⟨⟨u 12, u 13, hw2⟩, ⟨⟨_, _, _, hB_3⟩, _, _, hB_4⟩, fun j hj => hf2 j (by omega)⟩⟩) dX12_meanResidual_34
  · refine k_iconst hC dX12_meanResidual_9 ?_
    refine k_goto hC 14 dX12_meanResidual_10 rfl ?_
    refine k_put hC fd_X12_74 (kl hN (by decide)) hm [.ref (kad G 134), .ref (kad G 135), .ref (kad G 136), .ref (kad G 137), vI (u 4), vI 0, vI (u 6), .ref (kad G 138), .ref (kad G 139), .ref (kad G 140), .ref (kad G 141), .ref (kad G 142), vL (u 12), vL (u 13), .ref (kad G 143), vI (u 15), .ref (kad G 144), vI (u 17), vI (u 18), vI (u 19), vI (u 20), vI (u 21), vI (u 22), vI (u 23), vI (u 24), vI (u 25), .ref (kad G 145), .ref (kad G 146), .ref (kad G 147), vI (u 29)] rfl (Nat.le_of_ble_eq_true rfl) rfl rfl dX12_meanResidual_14 (fun w5 hw5 hf5 => ?_)
    have ht : 0 ≤ T ∧ T ≤ 5000 := by omega
    refine k_aload_n hC dX12_meanResidual_17 rfl 0 rfl ?_
    refine k_get hC fd_X12_74 (kl hN (by decide)) hw5 rfl dX12_meanResidual_18 ?_
    refine k_if_ne hC 33 dX12_meanResidual_21 rfl (by omega) (fun c_21 => absurd c_21 (by omega)) (fun c_21 => ?_)
    refine k_aload_n hC dX12_meanResidual_24 rfl 0 rfl ?_
    refine k_iload_n hC dX12_meanResidual_25 rfl 1 rfl ?_
    refine k_i2l hC dX12_meanResidual_26 (by omega) ?_
    have h_6 : w5 134 = lA G 93 g := (hf5 134 (by decide)).trans hn
    have hB_7 : kLns G w5 ls lc lo := hLs.fr (fun j q1 q2 => (hf5 j (by omega)))
    refine k_mutV hC (c_X12_layFix l hls G hN w5 fl (kup u 5 0) g ls lc lo T hI (by omega) hw5 h_6 hB_7) yy_X12_layFix wm_X12_289 (kl hN (by decide)) hw5 rfl rfl rfl rfl (Nat.le_of_ble_eq_true rfl) (by decide) (by decide) ⟨by decide, by decide⟩ dX12_meanResidual_27 (fun w8 hp8 => ?_)
    obtain ⟨⟨ls8, lc8, lo8, hl8, hall8⟩, ⟨fe8, fn8, hu8, hfe8⟩, hf8⟩ := hp8
    have hall := hall8
    obtain ⟨zf, ezf, hzf⟩ := (⟨fixI g, rfl, fixI_c g⟩ : ∃ z : Int, fixI g = z ∧ ((z = 1 ∧ fixP g) ∨ (z = 0 ∧ ¬ fixP g)))
    refine k_topv (vI zf) (by rw [ezf]) ?_
    refine k_if_ne hC 35 dX12_meanResidual_30 rfl (by omega) (fun c_30 => ?_) (fun c_30 => ?_)
    · have hfp : fixP g := (hzf.resolve_right (fun q1 => by omega)).2
      have hft := hfe8 hfp
      have hn0 : g 2 ≠ 0 := fun q => fix_n0 q hfp
      refine k_lconst (x := 0) hC dX12_meanResidual_35 (by decide) ?_
      refine k_lstore_n hC [(2, vL 0), (0, .ref (kad G 133)), (1, vI T)] dX12_meanResidual_36 rfl (by decide) rfl ?_
      refine k_iconst hC dX12_meanResidual_37 ?_
      refine k_istore hC [(4, vI 0), (2, vL 0), (0, .ref (kad G 133)), (1, vI T)] dX12_meanResidual_38 (by decide) rfl ?_
      have loop : ∀ (n : Nat) (k : Nat) (sm : Int), ((g 2).toNat < n + k) → ((k : Int) ≤ g 2) → (0 ≤ sm ∧ sm ≤ 6300000 * (k : Int)) → (sm = sumR g T k) → KW p l e R s m args below meth c 5 G Q w8 fl 0 0 40 [(4, vI (k : Int)), (2, vL sm), (0, .ref (kad G 133)), (1, vI T)] [] := by
        intro n
        induction n with
        | zero =>
          intro k sm hn_ hk hsm hsq
          exact absurd hn_ (by omega)
        | succ n ih =>
          intro k sm hn_ hk hsm hsq
          refine k_iload hC dX12_meanResidual_40 0 rfl ?_
          refine k_i2l hC dX12_meanResidual_42 (by omega) ?_
          refine k_aload_n hC dX12_meanResidual_43 rfl 2 rfl ?_
          refine k_get hC fd_X12_9 (kl hN (by decide)) hu8 rfl dX12_meanResidual_44 ?_
          refine k_iconst hC dX12_meanResidual_47 ?_
          have h_9 : w8 134 = lA G 93 g := (hf8 134 (by omega)).trans h_6
          refine k_lald hC (kl hN (by decide)) h_9 (by omega) (by decide) dX12_meanResidual_48 ?_
          refine k_topv (vL (g 2)) rfl ?_
          refine k_lcmp_ge hC 71 dX12_meanResidual_49 dX12_meanResidual_50 rfl (by omega) (by omega) (fun c_49 => ?_) (fun c_49 => ?_)
          · refine k_lload_n hC dX12_meanResidual_71 rfl 1 rfl ?_
            refine k_l2d hC dX12_meanResidual_72 (by omega) ?_
            refine k_aload_n hC dX12_meanResidual_73 rfl 2 rfl ?_
            refine k_get hC fd_X12_9 (kl hN (by decide)) hu8 rfl dX12_meanResidual_74 ?_
            refine k_iconst hC dX12_meanResidual_77 ?_
            refine k_lald hC (kl hN (by decide)) h_9 (by omega) (by decide) dX12_meanResidual_78 ?_
            refine k_topv (vL (g 2)) rfl ?_
            refine k_l2d hC dX12_meanResidual_79 (by omega) ?_
            refine k_ddiv hC dX12_meanResidual_80 (ddiv_n _ (by omega)) ?_
            have hB_10 : kHts G w8 hx hy := hHt.fr (fun j q1 q2 => (hf8 j (by omega)).trans (hf5 j (by omega)))
            subst hQ
            exact k_dret hC hr ⟨by decide, by decide⟩ (⟨_, 0, rfl, rfl, Or.inl ⟨by omega, rfl, (show ((FP.ddiv (dI sm) (dI (g 2)) : UInt64) = mrV g T) from (by unfold mrV; rw [if_neg (fun q => q.elim hn0 (fun q2 => q2 hfp)), hsq, show (g 2).toNat = k by omega]))⟩, ⟨⟨fe8, fn8, hu8⟩, ⟨⟨_, _, _, hl8⟩, _, _, hB_10⟩, fun j hj => (hf8 j (by omega)).trans (hf5 j (by omega))⟩⟩) dX12_meanResidual_81
          · refine k_lload_n hC dX12_meanResidual_53 rfl 1 rfl ?_
            refine k_aload_n hC dX12_meanResidual_54 rfl 2 rfl ?_
            refine k_iload hC dX12_meanResidual_55 0 rfl ?_
            refine k_pureV hC (c_X12_residualOf l hls G hN w8 fl (kup (kup (kup u 5 0) 12 fe8) 13 fn8) g ls8 lc8 lo8 k T hI (by omega) ht (hall k (by omega)) hft hu8 h_9 hl8) yy_X12_residualOf wm_X12_293 (kl hN (by decide)) hu8 rfl rfl rfl rfl (Nat.le_of_ble_eq_true rfl) (by decide) (by decide) ⟨by decide, by decide⟩ dX12_meanResidual_57 ?_
            have hrb_11 := resM_b hI ht k (by omega)
            refine k_mabsL hC wm_X12_204 wmath_mabsL (by omega) (by decide) (Nat.le_of_ble_eq_true rfl) ⟨by decide, by decide⟩ dX12_meanResidual_60 ?_
            refine k_ladd hC dX12_meanResidual_63 ?_
            refine k_lstore_n hC [(2, vL (sm + ((resM g T k).natAbs : Int))), (4, vI (k : Int)), (0, .ref (kad G 133)), (1, vI T)] dX12_meanResidual_64 rfl (by decide) rfl ?_
            refine k_iinc hC (y := (k : Int) + 1) [(4, vI ((k : Int) + 1)), (2, vL (sm + ((resM g T k).natAbs : Int))), (0, .ref (kad G 133)), (1, vI T)] (j := 1) dX12_meanResidual_65 rfl (by omega) (by decide) rfl ?_
            refine k_goto hC 40 dX12_meanResidual_68 rfl ?_
            refine k_lvs (ls := [0, 1, 2, 3]) [(4, vI ((k + 1 : Nat) : Int)), (2, vL (sm + ((resM g T k).natAbs : Int))), (0, .ref (kad G 133)), (1, vI T)] (by simp only [lv_pick]; rfl) ?_
            exact ih (k + 1) (sm + ((resM g T k).natAbs : Int))  (by omega) (by omega) (by omega) (by rw [hsq]; rfl)
      refine k_lvs (ls := [0, 1, 2, 3]) [(4, vI ((0 : Nat) : Int)), (2, vL 0), (0, .ref (kad G 133)), (1, vI T)] (by simp only [lv_pick]; rfl) ?_
      exact loop 13 0 0  (by omega) (by omega) (by omega) rfl
    · have nfp : ¬ fixP g := (hzf.resolve_left (fun q1 => by omega)).2
      refine k_dconst0 hC dX12_meanResidual_33 ?_
      have hB_12 : kHts G w8 hx hy := hHt.fr (fun j q1 q2 => (hf8 j (by omega)).trans (hf5 j (by omega)))
      subst hQ
      exact k_dret hC hr ⟨by decide, by decide⟩ (⟨_, 0, rfl, rfl, Or.inl ⟨by omega, rfl, (show ((0 : UInt64) = mrV g T) from (by unfold mrV; exact (if_pos (Or.inr nfp)).symm))⟩, ⟨⟨fe8, fn8, hu8⟩, ⟨⟨_, _, _, hl8⟩, _, _, hB_12⟩, fun j hj => (hf8 j (by omega)).trans (hf5 j (by omega))⟩⟩) dX12_meanResidual_34

set_option maxRecDepth 100000 in
set_option maxHeartbeats 4000000 in
theorem c_X12_meanIntercept (l : Launch) (hls : l.stackTraces = false) (G : kG) (hN : kN G = 150) (w : Nat → va_E) (fl : va_W) (u g : Nat → Int) (hI : Inv g) (hm : w 133 = mdO G u) (hn : w 134 = lA G 93 g) (hSc : kScr G w) : KM l G yX12_meanIntercept cX12_meanIntercept 4 (some (FieldType.float)) 11 0 0 [.ref (kad G 133)] w fl (kRf (fun b th => (True ∧ th = 0 ∧ b = miV g) ∨ (False ∧ th = 1)) fl (fun th w1 => mSt G w w1 u th)) := by
  refine KM_of2 hls (by decide +kernel) rfl (lv0 := [(0, .ref (kad G 133))]) rfl (Nat.le_of_ble_eq_true rfl) (fun p e R s m args below meth c Q hC hr hQ => ?_)
  obtain ⟨⟨ls, lc, lo, hLs⟩, hx, hy, hHt⟩ := hSc
  have h0 := hI.c
  refine k_aload_n hC dX12_meanIntercept_0 rfl 0 rfl ?_
  refine k_iconst hC dX12_meanIntercept_1 ?_
  refine k_put hC fd_X12_74 (kl hN (by decide)) hm [.ref (kad G 134), .ref (kad G 135), .ref (kad G 136), .ref (kad G 137), vI (u 4), vI 0, vI (u 6), .ref (kad G 138), .ref (kad G 139), .ref (kad G 140), .ref (kad G 141), .ref (kad G 142), vL (u 12), vL (u 13), .ref (kad G 143), vI (u 15), .ref (kad G 144), vI (u 17), vI (u 18), vI (u 19), vI (u 20), vI (u 21), vI (u 22), vI (u 23), vI (u 24), vI (u 25), .ref (kad G 145), .ref (kad G 146), .ref (kad G 147), vI (u 29)] rfl (Nat.le_of_ble_eq_true rfl) rfl rfl dX12_meanIntercept_2 (fun w1 hw1 hf1 => ?_)
  refine k_lconst (x := 0) hC dX12_meanIntercept_5 (by decide) ?_
  refine k_lstore_n hC [(1, vL 0), (0, .ref (kad G 133))] dX12_meanIntercept_6 rfl (by decide) rfl ?_
  refine k_iconst hC dX12_meanIntercept_7 ?_
  refine k_istore_n hC [(3, vI 0), (1, vL 0), (0, .ref (kad G 133))] dX12_meanIntercept_8 rfl (by decide) rfl ?_
  have loop : ∀ (n : Nat) (k : Nat) (sm : Int), ((g 2).toNat < n + k) → ((k : Int) ≤ g 2) → (-(10560 * (k : Int)) ≤ sm ∧ sm ≤ 10560 * (k : Int)) → (sm = sumI g k) → KW p l e R s m args below meth c 4 G Q w1 fl 0 0 9 [(3, vI (k : Int)), (1, vL sm), (0, .ref (kad G 133))] [] := by
    intro n
    induction n with
    | zero =>
      intro k sm hn_ hk hsm hsq
      exact absurd hn_ (by omega)
    | succ n ih =>
      intro k sm hn_ hk hsm hsq
      refine k_iload_n hC dX12_meanIntercept_9 rfl 0 rfl ?_
      refine k_i2l hC dX12_meanIntercept_10 (by omega) ?_
      refine k_aload_n hC dX12_meanIntercept_11 rfl 2 rfl ?_
      refine k_get hC fd_X12_9 (kl hN (by decide)) hw1 rfl dX12_meanIntercept_12 ?_
      refine k_iconst hC dX12_meanIntercept_15 ?_
      have h_2 : w1 134 = lA G 93 g := (hf1 134 (by decide)).trans hn
      refine k_lald hC (kl hN (by decide)) h_2 (by omega) (by decide) dX12_meanIntercept_16 ?_
      refine k_topv (vL (g 2)) rfl ?_
      refine k_lcmp_ge hC 35 dX12_meanIntercept_17 dX12_meanIntercept_18 rfl (by omega) (by omega) (fun c_17 => ?_) (fun c_17 => ?_)
      · refine k_aload_n hC dX12_meanIntercept_35 rfl 2 rfl ?_
        refine k_get hC fd_X12_9 (kl hN (by decide)) hw1 rfl dX12_meanIntercept_36 ?_
        refine k_iconst hC dX12_meanIntercept_39 ?_
        refine k_lald hC (kl hN (by decide)) h_2 (by omega) (by decide) dX12_meanIntercept_40 ?_
        refine k_topv (vL (g 2)) rfl ?_
        refine k_lconst (x := 0) hC dX12_meanIntercept_41 (by decide) ?_
        refine k_lcmp_ne hC 50 dX12_meanIntercept_42 dX12_meanIntercept_43 rfl (by omega) (by omega) (fun c_42 => ?_) (fun c_42 => ?_)
        · refine k_lload_n hC dX12_meanIntercept_50 rfl 1 rfl ?_
          refine k_l2f hC dX12_meanIntercept_51 (by omega) ?_
          refine k_aload_n hC dX12_meanIntercept_52 rfl 2 rfl ?_
          refine k_get hC fd_X12_9 (kl hN (by decide)) hw1 rfl dX12_meanIntercept_53 ?_
          refine k_iconst hC dX12_meanIntercept_56 ?_
          refine k_lald hC (kl hN (by decide)) h_2 (by omega) (by decide) dX12_meanIntercept_57 ?_
          refine k_topv (vL (g 2)) rfl ?_
          refine k_l2f hC dX12_meanIntercept_58 (by omega) ?_
          refine k_fdiv hC dX12_meanIntercept_59 (fdiv_n _ (by omega)) ?_
          have hB_3 : kLns G w1 ls lc lo := hLs.fr (fun j q1 q2 => (hf1 j (by omega)))
          have hB_4 : kHts G w1 hx hy := hHt.fr (fun j q1 q2 => (hf1 j (by omega)))
          subst hQ
          exact k_fret hC hr ⟨by decide, by decide⟩ (⟨_, 0, rfl, rfl, Or.inl ⟨trivial, rfl, (show ((FP.fdiv (fI sm) (fI (g 2)) : UInt32) = miV g) from (by unfold miV; rw [if_neg (by omega), hsq, show (g 2).toNat = k by omega]))⟩, ⟨⟨u 12, u 13, hw1⟩, ⟨⟨_, _, _, hB_3⟩, _, _, hB_4⟩, fun j hj => hf1 j (by omega)⟩⟩) dX12_meanIntercept_60
        · refine k_fconst0 hC dX12_meanIntercept_46 ?_
          refine k_goto hC 60 dX12_meanIntercept_47 rfl ?_
          have hB_5 : kLns G w1 ls lc lo := hLs.fr (fun j q1 q2 => (hf1 j (by omega)))
          have hB_6 : kHts G w1 hx hy := hHt.fr (fun j q1 q2 => (hf1 j (by omega)))
          subst hQ
          exact k_fret hC hr ⟨by decide, by decide⟩ (⟨_, 0, rfl, rfl, Or.inl ⟨trivial, rfl, (show ((0 : UInt32) = miV g) from (by unfold miV; exact (if_pos (by omega)).symm))⟩, ⟨⟨u 12, u 13, hw1⟩, ⟨⟨_, _, _, hB_5⟩, _, _, hB_6⟩, fun j hj => hf1 j (by omega)⟩⟩) dX12_meanIntercept_60
      · refine k_lload_n hC dX12_meanIntercept_21 rfl 1 rfl ?_
        refine k_aload_n hC dX12_meanIntercept_22 rfl 2 rfl ?_
        refine k_iload_n hC dX12_meanIntercept_23 rfl 0 rfl ?_
        refine k_pureV hC (c_X12_intercept l hls G hN w1 fl (kup u 5 0) g k hI (by omega) hw1 h_2) yy_X12_intercept wm_X12_190 (kl hN (by decide)) hw1 rfl rfl rfl rfl (Nat.le_of_ble_eq_true rfl) (by decide) (by decide) ⟨by decide, by decide⟩ dX12_meanIntercept_24 ?_
        refine k_topv (vL (intM g k)) rfl ?_
        have hb_7 := intM_b hI k (by omega)
        refine k_ladd hC dX12_meanIntercept_27 ?_
        refine k_lstore_n hC [(1, vL (sm + (intM g k))), (3, vI (k : Int)), (0, .ref (kad G 133))] dX12_meanIntercept_28 rfl (by decide) rfl ?_
        refine k_iinc hC (y := (k : Int) + 1) [(3, vI ((k : Int) + 1)), (1, vL (sm + (intM g k))), (0, .ref (kad G 133))] (j := 1) dX12_meanIntercept_29 rfl (by omega) (by decide) rfl ?_
        refine k_goto hC 9 dX12_meanIntercept_32 rfl ?_
        refine k_lvs (ls := [0, 1, 2]) [(3, vI ((k + 1 : Nat) : Int)), (1, vL (sm + (intM g k))), (0, .ref (kad G 133))] (by simp only [lv_pick]; rfl) ?_
        exact ih (k + 1) (sm + (intM g k))  (by omega) (by omega) (by omega) (by rw [hsq]; rfl)
  refine k_lvs (ls := [0, 1, 2]) [(3, vI ((0 : Nat) : Int)), (1, vL 0), (0, .ref (kad G 133))] (by simp only [lv_pick]; rfl) ?_
  exact loop 13 0 0  (by omega) (by omega) (by omega) rfl

