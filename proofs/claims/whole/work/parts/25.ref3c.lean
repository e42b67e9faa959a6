set_option maxRecDepth 100000 in
set_option maxHeartbeats 4000000 in
theorem c_X12_hat (l : Launch) (hls : l.stackTraces = false) (G : kG) (hN : kN G = 150) (w : Nat → va_E) (fl : va_W) (u g : Nat → Int) (i j k T q : Int) (hi : -2147483648 ≤ i ∧ i ≤ 2147483647) (hj : -2147483648 ≤ j ∧ j ≤ 2147483647) (hk : -2147483648 ≤ k ∧ k ≤ 2147483647) (hT : -2147483648 ≤ T ∧ T ≤ 2147483647) (hq : -2147483648 ≤ q ∧ q ≤ 2147483647) (hI : Inv g) (hm : w 133 = mdO G u) (hn : w 134 = lA G 93 g) (hSc : kScr G w) : KM l G yX12_hat cX12_hat 7 (some (FieldType.int)) 14 0 0 [.ref (kad G 133), vI i, vI j, vI k, vI T, vI q] w fl (kRt (thR ((((0 ≤ i ∧ i < g 2) ∧ (0 ≤ j ∧ j < g 2) ∧ (0 ≤ k ∧ k < g 2)) ∧ (0 ≤ T ∧ T ≤ 5000)) ∧ (0 ≤ q ∧ q ≤ 2)) (hatV g i.toNat j.toNat k.toNat T q) (¬ ((0 ≤ i ∧ i < g 2) ∧ (0 ≤ j ∧ j < g 2) ∧ (0 ≤ k ∧ k < g 2))) 1 (((0 ≤ i ∧ i < g 2) ∧ (0 ≤ j ∧ j < g 2) ∧ (0 ≤ k ∧ k < g 2)) ∧ ¬ ((0 ≤ T ∧ T ≤ 5000) ∧ (0 ≤ q ∧ q ≤ 2))) 2) fl (fun th w1 => mSt G w w1 u th)) := by
  refine KM_of2 hls (by decide +kernel) rfl (lv0 := [(0, .ref (kad G 133)), (1, vI i), (2, vI j), (3, vI k), (4, vI T), (5, vI q)]) rfl (Nat.le_of_ble_eq_true rfl) (fun p e R s m args below meth c Q hC hr hQ => ?_)
  obtain ⟨⟨ls, lc, lo, hLs⟩, hx, hy, hHt⟩ := hSc
  have h0 := hI.c
  refine k_aload_n hC dX12_hat_0 rfl 0 rfl ?_
  refine k_aload_n hC dX12_hat_1 rfl 0 rfl ?_
  refine k_iload_n hC dX12_hat_2 rfl 1 rfl ?_
  refine k_iload_n hC dX12_hat_3 rfl 2 rfl ?_
  refine k_iload_n hC dX12_hat_4 rfl 3 rfl ?_
  refine k_pureV hC (c_X12_areSights l hls G hN w fl u g i j k (by omega) (by omega) (by omega) hI hm hn) yy_X12_areSights wm_X12_273 (kl hN (by decide)) hm rfl rfl rfl rfl (Nat.le_of_ble_eq_true rfl) (by decide) (by decide) ⟨by decide, by decide⟩ dX12_hat_5 ?_
  obtain ⟨z_1, ez_1, hz_1⟩ := k_bI ((0 ≤ i ∧ i < g 2) ∧ (0 ≤ j ∧ j < g 2) ∧ (0 ≤ k ∧ k < g 2))
  refine k_topv (vI z_1) (by rw [ez_1]) ?_
  refine k_if_ne hC 15 dX12_hat_8 rfl (by omega) (fun c_8 => ?_) (fun c_8 => ?_)
  · refine k_aload_n hC dX12_hat_15 rfl 0 rfl ?_
    refine k_iload hC dX12_hat_16 4 rfl ?_
    refine k_pureV hC (c_X12_isTime l hls G hN w fl u g T (by omega) hI hm hn) yy_X12_isTime wm_X12_262 (kl hN (by decide)) hm rfl rfl rfl rfl (Nat.le_of_ble_eq_true rfl) (by decide) (by decide) ⟨by decide, by decide⟩ dX12_hat_18 ?_
    obtain ⟨z_2, ez_2, hz_2⟩ := k_bI (0 ≤ T ∧ T ≤ 5000)
    refine k_topv (vI z_2) (by rw [ez_2]) ?_
    refine k_if_eq hC 41 dX12_hat_21 rfl (by omega) (fun c_21 => ?_) (fun c_21 => ?_)
    · refine k_iconst hC dX12_hat_41 ?_
      refine k_put hC fd_X12_74 (kl hN (by decide)) hm [.ref (kad G 134), .ref (kad G 135), .ref (kad G 136), .ref (kad G 137), vI (u 4), vI 2, vI (u 6), .ref (kad G 138), .ref (kad G 139), .ref (kad G 140), .ref (kad G 141), .ref (kad G 142), vL (u 12), vL (u 13), .ref (kad G 143), vI (u 15), .ref (kad G 144), vI (u 17), vI (u 18), vI (u 19), vI (u 20), vI (u 21), vI (u 22), vI (u 23), vI (u 24), vI (u 25), .ref (kad G 145), .ref (kad G 146), .ref (kad G 147), vI (u 29)] rfl (Nat.le_of_ble_eq_true rfl) rfl rfl dX12_hat_42 (fun w3 hw3 hf3 => ?_)
      refine k_aload_n hC dX12_hat_45 rfl 0 rfl ?_
      refine k_get hC fd_X12_74 (kl hN (by decide)) hw3 rfl dX12_hat_46 ?_
      refine k_if_eq hC 54 dX12_hat_49 rfl (by omega) (fun c_49 => absurd c_49 (by omega)) (fun c_49 => ?_)
      refine k_iconst hC dX12_hat_52 ?_
      have hB_4 : kLns G w3 ls lc lo := hLs.fr (fun j q1 q2 => (hf3 j (by omega)))
      have hB_5 : kHts G w3 hx hy := hHt.fr (fun j q1 q2 => (hf3 j (by omega)))
      subst hQ
      exact k_iret hC hr ⟨by decide, by decide⟩ (⟨_, 2, rfl, rfl, Or.inr (Or.inr ⟨by omega, rfl⟩), ⟨⟨u 12, u 13, hw3⟩, ⟨⟨_, _, _, hB_4⟩, _, _, hB_5⟩, fun j hj => hf3 j (by omega)⟩⟩) dX12_hat_53
    · refine k_iload hC dX12_hat_24 5 rfl ?_
      refine k_i2l hC dX12_hat_26 (by omega) ?_
      refine k_lconst (x := 0) hC dX12_hat_27 (by decide) ?_
      refine k_ldc2 hC (x := 2) (v := 2) dX12_hat_28 (by decide) wk_X12_88 ?_
      refine k_pureS hC (c_X12_inRange l hls G hN w fl q 0 2 (by omega) (by omega) (by omega)) yy_X12_inRange wm_X12_243 rfl rfl (Nat.le_of_ble_eq_true rfl) (by decide) (by decide) ⟨by decide, by decide⟩ dX12_hat_31 ?_
      refine k_topv (vI (if 0 ≤ q ∧ q ≤ 2 then 1 else 0)) rfl ?_
      obtain ⟨z_6, ez_6, hz_6⟩ := k_bI (0 ≤ q ∧ q ≤ 2)
      refine k_topv (vI z_6) (by rw [ez_6]) ?_
      refine k_if_eq hC 41 dX12_hat_34 rfl (by omega) (fun c_34 => ?_) (fun c_34 => ?_)
      · refine k_iconst hC dX12_hat_41 ?_
        refine k_put hC fd_X12_74 (kl hN (by decide)) hm [.ref (kad G 134), .ref (kad G 135), .ref (kad G 136), .ref (kad G 137), vI (u 4), vI 2, vI (u 6), .ref (kad G 138), .ref (kad G 139), .ref (kad G 140), .ref (kad G 141), .ref (kad G 142), vL (u 12), vL (u 13), .ref (kad G 143), vI (u 15), .ref (kad G 144), vI (u 17), vI (u 18), vI (u 19), vI (u 20), vI (u 21), vI (u 22), vI (u 23), vI (u 24), vI (u 25), .ref (kad G 145), .ref (kad G 146), .ref (kad G 147), vI (u 29)] rfl (Nat.le_of_ble_eq_true rfl) rfl rfl dX12_hat_42 (fun w7 hw7 hf7 => ?_)
        refine k_aload_n hC dX12_hat_45 rfl 0 rfl ?_
        refine k_get hC fd_X12_74 (kl hN (by decide)) hw7 rfl dX12_hat_46 ?_
        refine k_if_eq hC 54 dX12_hat_49 rfl (by omega) (fun c_49 => absurd c_49 (by omega)) (fun c_49 => ?_)
        refine k_iconst hC dX12_hat_52 ?_
        have hB_8 : kLns G w7 ls lc lo := hLs.fr (fun j q1 q2 => (hf7 j (by omega)))
        have hB_9 : kHts G w7 hx hy := hHt.fr (fun j q1 q2 => (hf7 j (by omega)))
        subst hQ
        exact k_iret hC hr ⟨by decide, by decide⟩ (⟨_, 2, rfl, rfl, Or.inr (Or.inr ⟨by omega, rfl⟩), ⟨⟨u 12, u 13, hw7⟩, ⟨⟨_, _, _, hB_8⟩, _, _, hB_9⟩, fun j hj => hf7 j (by omega)⟩⟩) dX12_hat_53
      · refine k_iconst hC dX12_hat_37 ?_
        refine k_goto hC 42 dX12_hat_38 rfl ?_
        refine k_put hC fd_X12_74 (kl hN (by decide)) hm [.ref (kad G 134), .ref (kad G 135), .ref (kad G 136), .ref (kad G 137), vI (u 4), vI 0, vI (u 6), .ref (kad G 138), .ref (kad G 139), .ref (kad G 140), .ref (kad G 141), .ref (kad G 142), vL (u 12), vL (u 13), .ref (kad G 143), vI (u 15), .ref (kad G 144), vI (u 17), vI (u 18), vI (u 19), vI (u 20), vI (u 21), vI (u 22), vI (u 23), vI (u 24), vI (u 25), .ref (kad G 145), .ref (kad G 146), .ref (kad G 147), vI (u 29)] rfl (Nat.le_of_ble_eq_true rfl) rfl rfl dX12_hat_42 (fun w10 hw10 hf10 => ?_)
        obtain ⟨a, ea⟩ : ∃ zz : Nat, i = (zz : Int) := ⟨i.toNat, by omega⟩
        subst ea
        obtain ⟨b, eb⟩ : ∃ zz : Nat, j = (zz : Int) := ⟨j.toNat, by omega⟩
        subst eb
        obtain ⟨d, ed⟩ : ∃ zz : Nat, k = (zz : Int) := ⟨k.toNat, by omega⟩
        subst ed
        refine k_aload_n hC dX12_hat_45 rfl 0 rfl ?_
        refine k_get hC fd_X12_74 (kl hN (by decide)) hw10 rfl dX12_hat_46 ?_
        refine k_if_eq hC 54 dX12_hat_49 rfl (by omega) (fun c_49 => ?_) (fun c_49 => absurd c_49 (by omega))
        refine k_aload_n hC dX12_hat_54 rfl 0 rfl ?_
        refine k_iload_n hC dX12_hat_55 rfl 1 rfl ?_
        refine k_iload_n hC dX12_hat_56 rfl 2 rfl ?_
        refine k_iload_n hC dX12_hat_57 rfl 3 rfl ?_
        refine k_iload hC dX12_hat_58 4 rfl ?_
        have h_11 : w10 134 = lA G 93 g := (hf10 134 (by decide)).trans hn
        have hB_12 : kLns G w10 ls lc lo := hLs.fr (fun j q1 q2 => (hf10 j (by omega)))
        have hB_13 : kHts G w10 hx hy := hHt.fr (fun j q1 q2 => (hf10 j (by omega)))
        refine k_mutV hC (c_X12_carryHat l hls G hN w10 fl (kup u 5 0) g a b d T (by omega) (by omega) (by omega) (by omega) hI hw10 h_11 ⟨⟨_, _, _, hB_12⟩, _, _, hB_13⟩) yy_X12_carryHat wm_X12_276 (kl hN (by decide)) hw10 rfl rfl rfl rfl (Nat.le_of_ble_eq_true rfl) (by decide) (by decide) ⟨by decide, by decide⟩ dX12_hat_60 (fun w14 hp14 => ?_)
        obtain ⟨⟨ls14, lc14, lo14, hl14⟩, ⟨hx14, hy14, hh14, hxy14⟩, hf14⟩ := hp14
        obtain ⟨z14, ez14, hz14⟩ := selI_c (hatP g a b d)
        refine k_topv (vI z14) (by rw [ez14]) ?_
        refine k_if_ne hC 70 dX12_hat_63 rfl (by omega) (fun c_63 => ?_) (fun c_63 => ?_)
        · have hok : hatP g a b d := (hz14.resolve_right (fun q1 => by omega)).2
          have hhx_15 : kHts G w14 (htX g a b d T) (htY g a b d T) := by have q := hh14; rw [(hxy14 hok).1, (hxy14 hok).2] at q; exact q
          have hcE_16 := cE_b g a b T
          have hcN_17 := cN_b g a b T
          have hcE_18 := cE_b g a d T
          have hcN_19 := cN_b g a d T
          have hcE_20 := cE_b g b d T
          have hcN_21 := cN_b g b d T
          refine k_iload hC dX12_hat_70 5 rfl ?_
          refine k_iconst hC dX12_hat_72 ?_
          refine k_icmp_ne hC 83 dX12_hat_73 rfl (by omega) (by omega) (fun c_73 => ?_) (fun c_73 => ?_)
          · refine k_aload_n hC dX12_hat_83 rfl 0 rfl ?_
            have h_22 : w14 133 = .inr (12, [.ref (kad G 134), .ref (kad G 135), .ref (kad G 136), .ref (kad G 137), vI (u 4), vI 0, vI (u 6), .ref (kad G 138), .ref (kad G 139), .ref (kad G 140), .ref (kad G 141), .ref (kad G 142), vL (u 12), vL (u 13), .ref (kad G 143), vI (u 15), .ref (kad G 144), vI (u 17), vI (u 18), vI (u 19), vI (u 20), vI (u 21), vI (u 22), vI (u 23), vI (u 24), vI (u 25), .ref (kad G 145), .ref (kad G 146), .ref (kad G 147), vI (u 29)]) := (hf14 133 (by omega)).trans hw10
            refine k_get hC fd_X12_34 (kl hN (by decide)) h_22 rfl dX12_hat_84 ?_
            refine k_astore hC [(6, .ref (kad G 142)), (0, .ref (kad G 133)), (1, vI (a : Int)), (2, vI (b : Int)), (3, vI (d : Int)), (4, vI T), (5, vI q)] dX12_hat_87 (by decide) rfl ?_
            refine k_iload hC dX12_hat_89 6 rfl ?_
            refine k_if_ne hC 107 dX12_hat_91 rfl (by omega) (fun c_91 => ?_) (fun c_91 => ?_)
            · refine k_aload hC dX12_hat_107 0 rfl ?_
              refine k_iconst hC dX12_hat_109 ?_
              refine k_lald hC (kl hN (by decide)) hhx_15.2 (by omega) (by decide) dX12_hat_110 ?_
              refine k_topv (vL ((htY g a b d T) (0 : Nat))) rfl ?_
              refine k_topv (vL (cN g a b T)) rfl ?_
              refine k_aload hC dX12_hat_111 0 rfl ?_
              refine k_iconst hC dX12_hat_113 ?_
              refine k_lald hC (kl hN (by decide)) hhx_15.2 (by omega) (by decide) dX12_hat_114 ?_
              refine k_topv (vL ((htY g a b d T) (1 : Nat))) rfl ?_
              refine k_topv (vL (cN g a d T)) rfl ?_
              refine k_ladd hC dX12_hat_115 ?_
              refine k_aload hC dX12_hat_116 0 rfl ?_
              refine k_iconst hC dX12_hat_118 ?_
              refine k_lald hC (kl hN (by decide)) hhx_15.2 (by omega) (by decide) dX12_hat_119 ?_
              refine k_topv (vL ((htY g a b d T) (2 : Nat))) rfl ?_
              refine k_topv (vL (cN g b d T)) rfl ?_
              refine k_ladd hC dX12_hat_120 ?_
              refine k_ldc2 hC (x := 3) (v := 3) dX12_hat_121 (by decide) wk_X12_142 ?_
              refine k_pureS hC (c_X12_floor l hls G hN w14 fl (((cN g a b T) + (cN g a d T)) + (cN g b d T)) 3 (by omega) (by omega)) yy_X12_floor wm_X12_92 rfl rfl (Nat.le_of_ble_eq_true rfl) (by decide) (by decide) ⟨by decide, by decide⟩ dX12_hat_124 ?_
              refine k_l2i hC dX12_hat_127 ?_
              subst hQ
              exact k_iret hC hr ⟨by decide, by decide⟩ (⟨_, 0, rfl, rfl, Or.inl ⟨by omega, rfl, (show (((((cN g a b T) + (cN g a d T)) + (cN g b d T)).fdiv 3 : Int) = hatV g a b d T q) from (by unfold hatV; rw [selI_1 hok]; first | (rw [if_pos (by omega)]; done) | (rw [if_neg (by omega)]; first | (rw [if_pos (by omega), Int.fdiv_eq_ediv_of_nonneg _ (by decide)]; done) | (rw [if_neg (by omega), Int.fdiv_eq_ediv_of_nonneg _ (by decide)]; done))))⟩, ⟨⟨u 12, u 13, h_22⟩, ⟨⟨_, _, _, hl14⟩, _, _, hhx_15⟩, fun j hj => (hf14 j (by omega)).trans (hf10 j (by omega))⟩⟩) dX12_hat_128
            · refine k_ldc2 hC (x := 1000000000) (v := 1000000000) dX12_hat_94 (by decide) wk_X12_280 ?_
              refine k_aload_n hC dX12_hat_97 rfl 1 rfl ?_
              refine k_pureV hC (c_X12_hatArea l hls G hN w14 fl (kup u 5 0) (cE g a b T) (cN g a b T) (cE g a d T) (cN g a d T) (cE g b d T) (cN g b d T) (by omega) (by omega) (by omega) (by omega) (by omega) (by omega) h_22 hhx_15) yy_X12_hatArea wm_X12_282 (kl hN (by decide)) h_22 rfl rfl rfl rfl (Nat.le_of_ble_eq_true rfl) (by decide) (by decide) ⟨by decide, by decide⟩ dX12_hat_98 ?_
              have hab := hatA_b g a b d T
              refine k_topv (vL (hatA g a b d T)) rfl ?_
              refine k_mminL hC wm_X12_77 wmath_mminL (by omega) (by omega) (by decide) (Nat.le_of_ble_eq_true rfl) ⟨by decide, by decide⟩ dX12_hat_101 ?_
              refine k_topv (vL (hatA g a b d T)) (congrArg vL (by omega)) ?_
              refine k_goto hC 127 dX12_hat_104 rfl ?_
              refine k_l2i hC dX12_hat_127 ?_
              subst hQ
              exact k_iret hC hr ⟨by decide, by decide⟩ (⟨_, 0, rfl, rfl, Or.inl ⟨by omega, rfl, (show ((hatA g a b d T : Int) = hatV g a b d T q) from (by unfold hatV; rw [selI_1 hok]; first | (rw [if_pos (by omega)]; done) | (rw [if_neg (by omega)]; first | (rw [if_pos (by omega), Int.fdiv_eq_ediv_of_nonneg _ (by decide)]; done) | (rw [if_neg (by omega), Int.fdiv_eq_ediv_of_nonneg _ (by decide)]; done))))⟩, ⟨⟨u 12, u 13, h_22⟩, ⟨⟨_, _, _, hl14⟩, _, _, hhx_15⟩, fun j hj => (hf14 j (by omega)).trans (hf10 j (by omega))⟩⟩) dX12_hat_128
          · refine k_aload_n hC dX12_hat_76 rfl 0 rfl ?_
            have h_23 : w14 133 = .inr (12, [.ref (kad G 134), .ref (kad G 135), .ref (kad G 136), .ref (kad G 137), vI (u 4), vI 0, vI (u 6), .ref (kad G 138), .ref (kad G 139), .ref (kad G 140), .ref (kad G 141), .ref (kad G 142), vL (u 12), vL (u 13), .ref (kad G 143), vI (u 15), .ref (kad G 144), vI (u 17), vI (u 18), vI (u 19), vI (u 20), vI (u 21), vI (u 22), vI (u 23), vI (u 24), vI (u 25), .ref (kad G 145), .ref (kad G 146), .ref (kad G 147), vI (u 29)]) := (hf14 133 (by omega)).trans hw10
            refine k_get hC fd_X12_31 (kl hN (by decide)) h_23 rfl dX12_hat_77 ?_
            refine k_goto hC 87 dX12_hat_80 rfl ?_
            refine k_astore hC [(6, .ref (kad G 141)), (0, .ref (kad G 133)), (1, vI (a : Int)), (2, vI (b : Int)), (3, vI (d : Int)), (4, vI T), (5, vI q)] dX12_hat_87 (by decide) rfl ?_
            refine k_iload hC dX12_hat_89 6 rfl ?_
            refine k_if_ne hC 107 dX12_hat_91 rfl (by omega) (fun c_91 => ?_) (fun c_91 => ?_)
            · refine k_aload hC dX12_hat_107 0 rfl ?_
              refine k_iconst hC dX12_hat_109 ?_
              refine k_lald hC (kl hN (by decide)) hhx_15.1 (by omega) (by decide) dX12_hat_110 ?_
              refine k_topv (vL ((htX g a b d T) (0 : Nat))) rfl ?_
              refine k_topv (vL (cE g a b T)) rfl ?_
              refine k_aload hC dX12_hat_111 0 rfl ?_
              refine k_iconst hC dX12_hat_113 ?_
              refine k_lald hC (kl hN (by decide)) hhx_15.1 (by omega) (by decide) dX12_hat_114 ?_
              refine k_topv (vL ((htX g a b d T) (1 : Nat))) rfl ?_
              refine k_topv (vL (cE g a d T)) rfl ?_
              refine k_ladd hC dX12_hat_115 ?_
              refine k_aload hC dX12_hat_116 0 rfl ?_
              refine k_iconst hC dX12_hat_118 ?_
              refine k_lald hC (kl hN (by decide)) hhx_15.1 (by omega) (by decide) dX12_hat_119 ?_
              refine k_topv (vL ((htX g a b d T) (2 : Nat))) rfl ?_
              refine k_topv (vL (cE g b d T)) rfl ?_
              refine k_ladd hC dX12_hat_120 ?_
              refine k_ldc2 hC (x := 3) (v := 3) dX12_hat_121 (by decide) wk_X12_142 ?_
              refine k_pureS hC (c_X12_floor l hls G hN w14 fl (((cE g a b T) + (cE g a d T)) + (cE g b d T)) 3 (by omega) (by omega)) yy_X12_floor wm_X12_92 rfl rfl (Nat.le_of_ble_eq_true rfl) (by decide) (by decide) ⟨by decide, by decide⟩ dX12_hat_124 ?_
              refine k_l2i hC dX12_hat_127 ?_
              subst hQ
              exact k_iret hC hr ⟨by decide, by decide⟩ (⟨_, 0, rfl, rfl, Or.inl ⟨by omega, rfl, (show (((((cE g a b T) + (cE g a d T)) + (cE g b d T)).fdiv 3 : Int) = hatV g a b d T q) from (by unfold hatV; rw [selI_1 hok]; first | (rw [if_pos (by omega)]; done) | (rw [if_neg (by omega)]; first | (rw [if_pos (by omega), Int.fdiv_eq_ediv_of_nonneg _ (by decide)]; done) | (rw [if_neg (by omega), Int.fdiv_eq_ediv_of_nonneg _ (by decide)]; done))))⟩, ⟨⟨u 12, u 13, h_23⟩, ⟨⟨_, _, _, hl14⟩, _, _, hhx_15⟩, fun j hj => (hf14 j (by omega)).trans (hf10 j (by omega))⟩⟩) dX12_hat_128
            · refine k_ldc2 hC (x := 1000000000) (v := 1000000000) dX12_hat_94 (by decide) wk_X12_280 ?_
              refine k_aload_n hC dX12_hat_97 rfl 1 rfl ?_
              refine k_pureV hC (c_X12_hatArea l hls G hN w14 fl (kup u 5 0) (cE g a b T) (cN g a b T) (cE g a d T) (cN g a d T) (cE g b d T) (cN g b d T) (by omega) (by omega) (by omega) (by omega) (by omega) (by omega) h_23 hhx_15) yy_X12_hatArea wm_X12_282 (kl hN (by decide)) h_23 rfl rfl rfl rfl (Nat.le_of_ble_eq_true rfl) (by decide) (by decide) ⟨by decide, by decide⟩ dX12_hat_98 ?_
              have hab := hatA_b g a b d T
              refine k_topv (vL (hatA g a b d T)) rfl ?_
              refine k_mminL hC wm_X12_77 wmath_mminL (by omega) (by omega) (by decide) (Nat.le_of_ble_eq_true rfl) ⟨by decide, by decide⟩ dX12_hat_101 ?_
              refine k_topv (vL (hatA g a b d T)) (congrArg vL (by omega)) ?_
              refine k_goto hC 127 dX12_hat_104 rfl ?_
              refine k_l2i hC dX12_hat_127 ?_
              subst hQ
              exact k_iret hC hr ⟨by decide, by decide⟩ (⟨_, 0, rfl, rfl, Or.inl ⟨by omega, rfl, (show ((hatA g a b d T : Int) = hatV g a b d T q) from (by unfold hatV; rw [selI_1 hok]; first | (rw [if_pos (by omega)]; done) | (rw [if_neg (by omega)]; first | (rw [if_pos (by omega), Int.fdiv_eq_ediv_of_nonneg _ (by decide)]; done) | (rw [if_neg (by omega), Int.fdiv_eq_ediv_of_nonneg _ (by decide)]; done))))⟩, ⟨⟨u 12, u 13, h_23⟩, ⟨⟨_, _, _, hl14⟩, _, _, hhx_15⟩, fun j hj => (hf14 j (by omega)).trans (hf10 j (by omega))⟩⟩) dX12_hat_128
        · have nok : ¬ hatP g a b d := (hz14.resolve_left (fun q1 => by omega)).2
          refine k_ldcw hC (x := (-1000000000)) (v := (-1000000000)) dX12_hat_66 (by decide) wk_X12_268 ?_
          have h_24 : w14 133 = .inr (12, [.ref (kad G 134), .ref (kad G 135), .ref (kad G 136), .ref (kad G 137), vI (u 4), vI 0, vI (u 6), .ref (kad G 138), .ref (kad G 139), .ref (kad G 140), .ref (kad G 141), .ref (kad G 142), vL (u 12), vL (u 13), .ref (kad G 143), vI (u 15), .ref (kad G 144), vI (u 17), vI (u 18), vI (u 19), vI (u 20), vI (u 21), vI (u 22), vI (u 23), vI (u 24), vI (u 25), .ref (kad G 145), .ref (kad G 146), .ref (kad G 147), vI (u 29)]) := (hf14 133 (by omega)).trans hw10
          subst hQ
          exact k_iret hC hr ⟨by decide, by decide⟩ (⟨_, 0, rfl, rfl, Or.inl ⟨by omega, rfl, (show ((-1000000000 : Int) = hatV g a b d T q) from (by unfold hatV; rw [selI_0 nok]))⟩, ⟨⟨u 12, u 13, h_24⟩, ⟨⟨_, _, _, hl14⟩, _, _, hh14⟩, fun j hj => (hf14 j (by omega)).trans (hf10 j (by omega))⟩⟩) dX12_hat_69
  · refine k_iconst hC dX12_hat_11 ?_
    refine k_goto hC 42 dX12_hat_12 rfl ?_
    refine k_put hC fd_X12_74 (kl hN (by decide)) hm [.ref (kad G 134), .ref (kad G 135), .ref (kad G 136), .ref (kad G 137), vI (u 4), vI 1, vI (u 6), .ref (kad G 138), .ref (kad G 139), .ref (kad G 140), .ref (kad G 141), .ref (kad G 142), vL (u 12), vL (u 13), .ref (kad G 143), vI (u 15), .ref (kad G 144), vI (u 17), vI (u 18), vI (u 19), vI (u 20), vI (u 21), vI (u 22), vI (u 23), vI (u 24), vI (u 25), .ref (kad G 145), .ref (kad G 146), .ref (kad G 147), vI (u 29)] rfl (Nat.le_of_ble_eq_true rfl) rfl rfl dX12_hat_42 (fun w25 hw25 hf25 => ?_)
    refine k_aload_n hC dX12_hat_45 rfl 0 rfl ?_
    refine k_get hC fd_X12_74 (kl hN (by decide)) hw25 rfl dX12_hat_46 ?_
    refine k_if_eq hC 54 dX12_hat_49 rfl (by omega) (fun c_49 => absurd c_49 (by omega)) (fun c_49 => ?_)
    refine k_iconst hC dX12_hat_52 ?_
    have hB_26 : kLns G w25 ls lc lo := hLs.fr (fun j q1 q2 => (hf25 j (by omega)))
    have hB_27 : kHts G w25 hx hy := hHt.fr (fun j q1 q2 => (hf25 j (by omega)))
    subst hQ
    exact k_iret hC hr ⟨by decide, by decide⟩ (⟨_, 1, rfl, rfl, Or.inr (Or.inl ⟨by omega, rfl⟩), ⟨⟨u 12, u 13, hw25⟩, ⟨⟨_, _, _, hB_26⟩, _, _, hB_27⟩, fun j hj => hf25 j (by omega)⟩⟩) dX12_hat_53

set_option maxRecDepth 100000 in
set_option maxHeartbeats 4000000 in
theorem c_X12_isInside (l : Launch) (hls : l.stackTraces = false) (G : kG) (hN : kN G = 150) (w : Nat → va_E) (fl : va_W) (u g : Nat → Int) (i j k T x y : Int) (hi : -2147483648 ≤ i ∧ i ≤ 2147483647) (hj : -2147483648 ≤ j ∧ j ≤ 2147483647) (hk : -2147483648 ≤ k ∧ k ≤ 2147483647) (hT : -2147483648 ≤ T ∧ T ≤ 2147483647) (hx1 : -2147483648 ≤ x ∧ x ≤ 2147483647) (hy1 : -2147483648 ≤ y ∧ y ≤ 2147483647) (hI : Inv g) (hm : w 133 = mdO G u) (hn : w 134 = lA G 93 g) (hSc : kScr G w) : KM l G yX12_isInside cX12_isInside 8 (some (FieldType.boolean)) 14 0 0 [.ref (kad G 133), vI i, vI j, vI k, vI T, vI x, vI y] w fl (kRt (thR ((((0 ≤ i ∧ i < g 2) ∧ (0 ≤ j ∧ j < g 2) ∧ (0 ≤ k ∧ k < g 2)) ∧ (0 ≤ T ∧ T ≤ 5000)) ∧ ((-1000000 ≤ x ∧ x ≤ 1000000) ∧ (-1000000 ≤ y ∧ y ≤ 1000000))) (insV g i.toNat j.toNat k.toNat T x y) (¬ ((0 ≤ i ∧ i < g 2) ∧ (0 ≤ j ∧ j < g 2) ∧ (0 ≤ k ∧ k < g 2))) 1 (((0 ≤ i ∧ i < g 2) ∧ (0 ≤ j ∧ j < g 2) ∧ (0 ≤ k ∧ k < g 2)) ∧ ¬ ((0 ≤ T ∧ T ≤ 5000) ∧ ((-1000000 ≤ x ∧ x ≤ 1000000) ∧ (-1000000 ≤ y ∧ y ≤ 1000000)))) 2) fl (fun th w1 => mSt G w w1 u th)) := by
  refine KM_of2 hls (by decide +kernel) rfl (lv0 := [(0, .ref (kad G 133)), (1, vI i), (2, vI j), (3, vI k), (4, vI T), (5, vI x), (6, vI y)]) rfl (Nat.le_of_ble_eq_true rfl) (fun p e R s m args below meth c Q hC hr hQ => ?_)
  obtain ⟨⟨ls, lc, lo, hLs⟩, hx, hy, hHt⟩ := hSc
  have h0 := hI.c
  refine k_iload hC dX12_isInside_0 5 rfl ?_
  refine k_i2l hC dX12_isInside_2 (by omega) ?_
  refine k_ldc2 hC (x := (-1000000)) (v := (-1000000)) dX12_isInside_3 (by decide) wk_X12_241 ?_
  refine k_ldc2 hC (x := 1000000) (v := 1000000) dX12_isInside_6 (by decide) wk_X12_113 ?_
  refine k_pureS hC (c_X12_inRange l hls G hN w fl x (-1000000) 1000000 (by omega) (by omega) (by omega)) yy_X12_inRange wm_X12_243 rfl rfl (Nat.le_of_ble_eq_true rfl) (by decide) (by decide) ⟨by decide, by decide⟩ dX12_isInside_9 ?_
  refine k_topv (vI (if -1000000 ≤ x ∧ x ≤ 1000000 then 1 else 0)) rfl ?_
  obtain ⟨z_1, ez_1, hz_1⟩ := k_bI (-1000000 ≤ x ∧ x ≤ 1000000)
  refine k_topv (vI z_1) (by rw [ez_1]) ?_
  refine k_if_eq hC 34 dX12_isInside_12 rfl (by omega) (fun c_12 => ?_) (fun c_12 => ?_)
  · refine k_iconst hC dX12_isInside_34 ?_
    refine k_istore hC [(7, vI 0), (0, .ref (kad G 133)), (1, vI i), (2, vI j), (3, vI k), (4, vI T), (5, vI x), (6, vI y)] dX12_isInside_35 (by decide) rfl ?_
    refine k_aload_n hC dX12_isInside_37 rfl 1 rfl ?_
    refine k_aload_n hC dX12_isInside_38 rfl 1 rfl ?_
    refine k_iload_n hC dX12_isInside_39 rfl 2 rfl ?_
    refine k_iload_n hC dX12_isInside_40 rfl 3 rfl ?_
    refine k_iload_n hC dX12_isInside_41 rfl 4 rfl ?_
    refine k_pureV hC (c_X12_areSights l hls G hN w fl u g i j k (by omega) (by omega) (by omega) hI hm hn) yy_X12_areSights wm_X12_273 (kl hN (by decide)) hm rfl rfl rfl rfl (Nat.le_of_ble_eq_true rfl) (by decide) (by decide) ⟨by decide, by decide⟩ dX12_isInside_42 ?_
    obtain ⟨z_2, ez_2, hz_2⟩ := k_bI ((0 ≤ i ∧ i < g 2) ∧ (0 ≤ j ∧ j < g 2) ∧ (0 ≤ k ∧ k < g 2))
    refine k_topv (vI z_2) (by rw [ez_2]) ?_
    refine k_if_ne hC 52 dX12_isInside_45 rfl (by omega) (fun c_45 => ?_) (fun c_45 => ?_)
    · refine k_aload_n hC dX12_isInside_52 rfl 1 rfl ?_
      refine k_iload hC dX12_isInside_53 5 rfl ?_
      refine k_pureV hC (c_X12_isTime l hls G hN w fl u g T (by omega) hI hm hn) yy_X12_isTime wm_X12_262 (kl hN (by decide)) hm rfl rfl rfl rfl (Nat.le_of_ble_eq_true rfl) (by decide) (by decide) ⟨by decide, by decide⟩ dX12_isInside_55 ?_
      obtain ⟨z_3, ez_3, hz_3⟩ := k_bI (0 ≤ T ∧ T ≤ 5000)
      refine k_topv (vI z_3) (by rw [ez_3]) ?_
      refine k_if_eq hC 70 dX12_isInside_58 rfl (by omega) (fun c_58 => ?_) (fun c_58 => ?_)
      · refine k_iconst hC dX12_isInside_70 ?_
        refine k_put hC fd_X12_74 (kl hN (by decide)) hm [.ref (kad G 134), .ref (kad G 135), .ref (kad G 136), .ref (kad G 137), vI (u 4), vI 2, vI (u 6), .ref (kad G 138), .ref (kad G 139), .ref (kad G 140), .ref (kad G 141), .ref (kad G 142), vL (u 12), vL (u 13), .ref (kad G 143), vI (u 15), .ref (kad G 144), vI (u 17), vI (u 18), vI (u 19), vI (u 20), vI (u 21), vI (u 22), vI (u 23), vI (u 24), vI (u 25), .ref (kad G 145), .ref (kad G 146), .ref (kad G 147), vI (u 29)] rfl (Nat.le_of_ble_eq_true rfl) rfl rfl dX12_isInside_71 (fun w4 hw4 hf4 => ?_)
        refine k_aload_n hC dX12_isInside_74 rfl 1 rfl ?_
        refine k_get hC fd_X12_74 (kl hN (by decide)) hw4 rfl dX12_isInside_75 ?_
        refine k_if_ne hC 93 dX12_isInside_78 rfl (by omega) (fun c_78 => ?_) (fun c_78 => absurd c_78 (by omega))
        refine k_iconst hC dX12_isInside_93 ?_
        have hB_5 : kLns G w4 ls lc lo := hLs.fr (fun j q1 q2 => (hf4 j (by omega)))
        have hB_6 : kHts G w4 hx hy := hHt.fr (fun j q1 q2 => (hf4 j (by omega)))
        subst hQ
        exact k_zret hC (by omega) hr ⟨by decide, by decide⟩ (⟨_, 2, rfl, rfl, Or.inr (Or.inr ⟨by omega, rfl⟩), ⟨⟨u 12, u 13, hw4⟩, ⟨⟨_, _, _, hB_5⟩, _, _, hB_6⟩, fun j hj => hf4 j (by omega)⟩⟩) dX12_isInside_94
      · refine k_iload hC dX12_isInside_61 0 rfl ?_
        refine k_if_eq hC 70 dX12_isInside_63 rfl (by omega) (fun c_63 => ?_) (fun c_63 => absurd c_63 (by omega))
        refine k_iconst hC dX12_isInside_70 ?_
        refine k_put hC fd_X12_74 (kl hN (by decide)) hm [.ref (kad G 134), .ref (kad G 135), .ref (kad G 136), .ref (kad G 137), vI (u 4), vI 2, vI (u 6), .ref (kad G 138), .ref (kad G 139), .ref (kad G 140), .ref (kad G 141), .ref (kad G 142), vL (u 12), vL (u 13), .ref (kad G 143), vI (u 15), .ref (kad G 144), vI (u 17), vI (u 18), vI (u 19), vI (u 20), vI (u 21), vI (u 22), vI (u 23), vI (u 24), vI (u 25), .ref (kad G 145), .ref (kad G 146), .ref (kad G 147), vI (u 29)] rfl (Nat.le_of_ble_eq_true rfl) rfl rfl dX12_isInside_71 (fun w7 hw7 hf7 => ?_)
        refine k_aload_n hC dX12_isInside_74 rfl 1 rfl ?_
        refine k_get hC fd_X12_74 (kl hN (by decide)) hw7 rfl dX12_isInside_75 ?_
        refine k_if_ne hC 93 dX12_isInside_78 rfl (by omega) (fun c_78 => ?_) (fun c_78 => absurd c_78 (by omega))
        refine k_iconst hC dX12_isInside_93 ?_
        have hB_8 : kLns G w7 ls lc lo := hLs.fr (fun j q1 q2 => (hf7 j (by omega)))
        have hB_9 : kHts G w7 hx hy := hHt.fr (fun j q1 q2 => (hf7 j (by omega)))
        subst hQ
        exact k_zret hC (by omega) hr ⟨by decide, by decide⟩ (⟨_, 2, rfl, rfl, Or.inr (Or.inr ⟨by omega, rfl⟩), ⟨⟨u 12, u 13, hw7⟩, ⟨⟨_, _, _, hB_8⟩, _, _, hB_9⟩, fun j hj => hf7 j (by omega)⟩⟩) dX12_isInside_94
    · refine k_iconst hC dX12_isInside_48 ?_
      refine k_goto hC 71 dX12_isInside_49 rfl ?_
      refine k_put hC fd_X12_74 (kl hN (by decide)) hm [.ref (kad G 134), .ref (kad G 135), .ref (kad G 136), .ref (kad G 137), vI (u 4), vI 1, vI (u 6), .ref (kad G 138), .ref (kad G 139), .ref (kad G 140), .ref (kad G 141), .ref (kad G 142), vL (u 12), vL (u 13), .ref (kad G 143), vI (u 15), .ref (kad G 144), vI (u 17), vI (u 18), vI (u 19), vI (u 20), vI (u 21), vI (u 22), vI (u 23), vI (u 24), vI (u 25), .ref (kad G 145), .ref (kad G 146), .ref (kad G 147), vI (u 29)] rfl (Nat.le_of_ble_eq_true rfl) rfl rfl dX12_isInside_71 (fun w10 hw10 hf10 => ?_)
      refine k_aload_n hC dX12_isInside_74 rfl 1 rfl ?_
      refine k_get hC fd_X12_74 (kl hN (by decide)) hw10 rfl dX12_isInside_75 ?_
      refine k_if_ne hC 93 dX12_isInside_78 rfl (by omega) (fun c_78 => ?_) (fun c_78 => absurd c_78 (by omega))
      refine k_iconst hC dX12_isInside_93 ?_
      have hB_11 : kLns G w10 ls lc lo := hLs.fr (fun j q1 q2 => (hf10 j (by omega)))
      have hB_12 : kHts G w10 hx hy := hHt.fr (fun j q1 q2 => (hf10 j (by omega)))
      subst hQ
      exact k_zret hC (by omega) hr ⟨by decide, by decide⟩ (⟨_, 1, rfl, rfl, Or.inr (Or.inl ⟨by omega, rfl⟩), ⟨⟨u 12, u 13, hw10⟩, ⟨⟨_, _, _, hB_11⟩, _, _, hB_12⟩, fun j hj => hf10 j (by omega)⟩⟩) dX12_isInside_94
  · refine k_iload hC dX12_isInside_15 6 rfl ?_
    refine k_i2l hC dX12_isInside_17 (by omega) ?_
    refine k_ldc2 hC (x := (-1000000)) (v := (-1000000)) dX12_isInside_18 (by decide) wk_X12_241 ?_
    refine k_ldc2 hC (x := 1000000) (v := 1000000) dX12_isInside_21 (by decide) wk_X12_113 ?_
    refine k_pureS hC (c_X12_inRange l hls G hN w fl y (-1000000) 1000000 (by omega) (by omega) (by omega)) yy_X12_inRange wm_X12_243 rfl rfl (Nat.le_of_ble_eq_true rfl) (by decide) (by decide) ⟨by decide, by decide⟩ dX12_isInside_24 ?_
    refine k_topv (vI (if -1000000 ≤ y ∧ y ≤ 1000000 then 1 else 0)) rfl ?_
    obtain ⟨z_13, ez_13, hz_13⟩ := k_bI (-1000000 ≤ y ∧ y ≤ 1000000)
    refine k_topv (vI z_13) (by rw [ez_13]) ?_
    refine k_if_eq hC 34 dX12_isInside_27 rfl (by omega) (fun c_27 => ?_) (fun c_27 => ?_)
    · refine k_iconst hC dX12_isInside_34 ?_
      refine k_istore hC [(7, vI 0), (0, .ref (kad G 133)), (1, vI i), (2, vI j), (3, vI k), (4, vI T), (5, vI x), (6, vI y)] dX12_isInside_35 (by decide) rfl ?_
      refine k_aload_n hC dX12_isInside_37 rfl 1 rfl ?_
      refine k_aload_n hC dX12_isInside_38 rfl 1 rfl ?_
      refine k_iload_n hC dX12_isInside_39 rfl 2 rfl ?_
      refine k_iload_n hC dX12_isInside_40 rfl 3 rfl ?_
      refine k_iload_n hC dX12_isInside_41 rfl 4 rfl ?_
      refine k_pureV hC (c_X12_areSights l hls G hN w fl u g i j k (by omega) (by omega) (by omega) hI hm hn) yy_X12_areSights wm_X12_273 (kl hN (by decide)) hm rfl rfl rfl rfl (Nat.le_of_ble_eq_true rfl) (by decide) (by decide) ⟨by decide, by decide⟩ dX12_isInside_42 ?_
      obtain ⟨z_14, ez_14, hz_14⟩ := k_bI ((0 ≤ i ∧ i < g 2) ∧ (0 ≤ j ∧ j < g 2) ∧ (0 ≤ k ∧ k < g 2))
      refine k_topv (vI z_14) (by rw [ez_14]) ?_
      refine k_if_ne hC 52 dX12_isInside_45 rfl (by omega) (fun c_45 => ?_) (fun c_45 => ?_)
      · refine k_aload_n hC dX12_isInside_52 rfl 1 rfl ?_
        refine k_iload hC dX12_isInside_53 5 rfl ?_
        refine k_pureV hC (c_X12_isTime l hls G hN w fl u g T (by omega) hI hm hn) yy_X12_isTime wm_X12_262 (kl hN (by decide)) hm rfl rfl rfl rfl (Nat.le_of_ble_eq_true rfl) (by decide) (by decide) ⟨by decide, by decide⟩ dX12_isInside_55 ?_
        obtain ⟨z_15, ez_15, hz_15⟩ := k_bI (0 ≤ T ∧ T ≤ 5000)
        refine k_topv (vI z_15) (by rw [ez_15]) ?_
        refine k_if_eq hC 70 dX12_isInside_58 rfl (by omega) (fun c_58 => ?_) (fun c_58 => ?_)
        · refine k_iconst hC dX12_isInside_70 ?_
          refine k_put hC fd_X12_74 (kl hN (by decide)) hm [.ref (kad G 134), .ref (kad G 135), .ref (kad G 136), .ref (kad G 137), vI (u 4), vI 2, vI (u 6), .ref (kad G 138), .ref (kad G 139), .ref (kad G 140), .ref (kad G 141), .ref (kad G 142), vL (u 12), vL (u 13), .ref (kad G 143), vI (u 15), .ref (kad G 144), vI (u 17), vI (u 18), vI (u 19), vI (u 20), vI (u 21), vI (u 22), vI (u 23), vI (u 24), vI (u 25), .ref (kad G 145), .ref (kad G 146), .ref (kad G 147), vI (u 29)] rfl (Nat.le_of_ble_eq_true rfl) rfl rfl dX12_isInside_71 (fun w16 hw16 hf16 => ?_)
          refine k_aload_n hC dX12_isInside_74 rfl 1 rfl ?_
          refine k_get hC fd_X12_74 (kl hN (by decide)) hw16 rfl dX12_isInside_75 ?_
          refine k_if_ne hC 93 dX12_isInside_78 rfl (by omega) (fun c_78 => ?_) (fun c_78 => absurd c_78 (by omega))
          refine k_iconst hC dX12_isInside_93 ?_
          have hB_17 : kLns G w16 ls lc lo := hLs.fr (fun j q1 q2 => (hf16 j (by omega)))
          have hB_18 : kHts G w16 hx hy := hHt.fr (fun j q1 q2 => (hf16 j (by omega)))
          subst hQ
          exact k_zret hC (by omega) hr ⟨by decide, by decide⟩ (⟨_, 2, rfl, rfl, Or.inr (Or.inr ⟨by omega, rfl⟩), ⟨⟨u 12, u 13, hw16⟩, ⟨⟨_, _, _, hB_17⟩, _, _, hB_18⟩, fun j hj => hf16 j (by omega)⟩⟩) dX12_isInside_94
        · refine k_iload hC dX12_isInside_61 0 rfl ?_
          refine k_if_eq hC 70 dX12_isInside_63 rfl (by omega) (fun c_63 => ?_) (fun c_63 => absurd c_63 (by omega))
          refine k_iconst hC dX12_isInside_70 ?_
          refine k_put hC fd_X12_74 (kl hN (by decide)) hm [.ref (kad G 134), .ref (kad G 135), .ref (kad G 136), .ref (kad G 137), vI (u 4), vI 2, vI (u 6), .ref (kad G 138), .ref (kad G 139), .ref (kad G 140), .ref (kad G 141), .ref (kad G 142), vL (u 12), vL (u 13), .ref (kad G 143), vI (u 15), .ref (kad G 144), vI (u 17), vI (u 18), vI (u 19), vI (u 20), vI (u 21), vI (u 22), vI (u 23), vI (u 24), vI (u 25), .ref (kad G 145), .ref (kad G 146), .ref (kad G 147), vI (u 29)] rfl (Nat.le_of_ble_eq_true rfl) rfl rfl dX12_isInside_71 (fun w19 hw19 hf19 => ?_)
          refine k_aload_n hC dX12_isInside_74 rfl 1 rfl ?_
          refine k_get hC fd_X12_74 (kl hN (by decide)) hw19 rfl dX12_isInside_75 ?_
          refine k_if_ne hC 93 dX12_isInside_78 rfl (by omega) (fun c_78 => ?_) (fun c_78 => absurd c_78 (by omega))
          refine k_iconst hC dX12_isInside_93 ?_
          have hB_20 : kLns G w19 ls lc lo := hLs.fr (fun j q1 q2 => (hf19 j (by omega)))
          have hB_21 : kHts G w19 hx hy := hHt.fr (fun j q1 q2 => (hf19 j (by omega)))
          subst hQ
          exact k_zret hC (by omega) hr ⟨by decide, by decide⟩ (⟨_, 2, rfl, rfl, Or.inr (Or.inr ⟨by omega, rfl⟩), ⟨⟨u 12, u 13, hw19⟩, ⟨⟨_, _, _, hB_20⟩, _, _, hB_21⟩, fun j hj => hf19 j (by omega)⟩⟩) dX12_isInside_94
      · refine k_iconst hC dX12_isInside_48 ?_
        refine k_goto hC 71 dX12_isInside_49 rfl ?_
        refine k_put hC fd_X12_74 (kl hN (by decide)) hm [.ref (kad G 134), .ref (kad G 135), .ref (kad G 136), .ref (kad G 137), vI (u 4), vI 1, vI (u 6), .ref (kad G 138), .ref (kad G 139), .ref (kad G 140), .ref (kad G 141), .ref (kad G 142), vL (u 12), vL (u 13), .ref (kad G 143), vI (u 15), .ref (kad G 144), vI (u 17), vI (u 18), vI (u 19), vI (u 20), vI (u 21), vI (u 22), vI (u 23), vI (u 24), vI (u 25), .ref (kad G 145), .ref (kad G 146), .ref (kad G 147), vI (u 29)] rfl (Nat.le_of_ble_eq_true rfl) rfl rfl dX12_isInside_71 (fun w22 hw22 hf22 => ?_)
        refine k_aload_n hC dX12_isInside_74 rfl 1 rfl ?_
        refine k_get hC fd_X12_74 (kl hN (by decide)) hw22 rfl dX12_isInside_75 ?_
        refine k_if_ne hC 93 dX12_isInside_78 rfl (by omega) (fun c_78 => ?_) (fun c_78 => absurd c_78 (by omega))
        refine k_iconst hC dX12_isInside_93 ?_
        have hB_23 : kLns G w22 ls lc lo := hLs.fr (fun j q1 q2 => (hf22 j (by omega)))
        have hB_24 : kHts G w22 hx hy := hHt.fr (fun j q1 q2 => (hf22 j (by omega)))
        subst hQ
        exact k_zret hC (by omega) hr ⟨by decide, by decide⟩ (⟨_, 1, rfl, rfl, Or.inr (Or.inl ⟨by omega, rfl⟩), ⟨⟨u 12, u 13, hw22⟩, ⟨⟨_, _, _, hB_23⟩, _, _, hB_24⟩, fun j hj => hf22 j (by omega)⟩⟩) dX12_isInside_94
    · refine k_iconst hC dX12_isInside_30 ?_
      refine k_goto hC 35 dX12_isInside_31 rfl ?_
      refine k_istore hC [(7, vI 1), (0, .ref (kad G 133)), (1, vI i), (2, vI j), (3, vI k), (4, vI T), (5, vI x), (6, vI y)] dX12_isInside_35 (by decide) rfl ?_
      refine k_aload_n hC dX12_isInside_37 rfl 1 rfl ?_
      refine k_aload_n hC dX12_isInside_38 rfl 1 rfl ?_
      refine k_iload_n hC dX12_isInside_39 rfl 2 rfl ?_
      refine k_iload_n hC dX12_isInside_40 rfl 3 rfl ?_
      refine k_iload_n hC dX12_isInside_41 rfl 4 rfl ?_
      refine k_pureV hC (c_X12_areSights l hls G hN w fl u g i j k (by omega) (by omega) (by omega) hI hm hn) yy_X12_areSights wm_X12_273 (kl hN (by decide)) hm rfl rfl rfl rfl (Nat.le_of_ble_eq_true rfl) (by decide) (by decide) ⟨by decide, by decide⟩ dX12_isInside_42 ?_
      obtain ⟨z_25, ez_25, hz_25⟩ := k_bI ((0 ≤ i ∧ i < g 2) ∧ (0 ≤ j ∧ j < g 2) ∧ (0 ≤ k ∧ k < g 2))
      refine k_topv (vI z_25) (by rw [ez_25]) ?_
      refine k_if_ne hC 52 dX12_isInside_45 rfl (by omega) (fun c_45 => ?_) (fun c_45 => ?_)
      · refine k_aload_n hC dX12_isInside_52 rfl 1 rfl ?_
        refine k_iload hC dX12_isInside_53 5 rfl ?_
        refine k_pureV hC (c_X12_isTime l hls G hN w fl u g T (by omega) hI hm hn) yy_X12_isTime wm_X12_262 (kl hN (by decide)) hm rfl rfl rfl rfl (Nat.le_of_ble_eq_true rfl) (by decide) (by decide) ⟨by decide, by decide⟩ dX12_isInside_55 ?_
        obtain ⟨z_26, ez_26, hz_26⟩ := k_bI (0 ≤ T ∧ T ≤ 5000)
        refine k_topv (vI z_26) (by rw [ez_26]) ?_
        refine k_if_eq hC 70 dX12_isInside_58 rfl (by omega) (fun c_58 => ?_) (fun c_58 => ?_)
        · refine k_iconst hC dX12_isInside_70 ?_
          refine k_put hC fd_X12_74 (kl hN (by decide)) hm [.ref (kad G 134), .ref (kad G 135), .ref (kad G 136), .ref (kad G 137), vI (u 4), vI 2, vI (u 6), .ref (kad G 138), .ref (kad G 139), .ref (kad G 140), .ref (kad G 141), .ref (kad G 142), vL (u 12), vL (u 13), .ref (kad G 143), vI (u 15), .ref (kad G 144), vI (u 17), vI (u 18), vI (u 19), vI (u 20), vI (u 21), vI (u 22), vI (u 23), vI (u 24), vI (u 25), .ref (kad G 145), .ref (kad G 146), .ref (kad G 147), vI (u 29)] rfl (Nat.le_of_ble_eq_true rfl) rfl rfl dX12_isInside_71 (fun w27 hw27 hf27 => ?_)
          refine k_aload_n hC dX12_isInside_74 rfl 1 rfl ?_
          refine k_get hC fd_X12_74 (kl hN (by decide)) hw27 rfl dX12_isInside_75 ?_
          refine k_if_ne hC 93 dX12_isInside_78 rfl (by omega) (fun c_78 => ?_) (fun c_78 => absurd c_78 (by omega))
          refine k_iconst hC dX12_isInside_93 ?_
          have hB_28 : kLns G w27 ls lc lo := hLs.fr (fun j q1 q2 => (hf27 j (by omega)))
          have hB_29 : kHts G w27 hx hy := hHt.fr (fun j q1 q2 => (hf27 j (by omega)))
          subst hQ
          exact k_zret hC (by omega) hr ⟨by decide, by decide⟩ (⟨_, 2, rfl, rfl, Or.inr (Or.inr ⟨by omega, rfl⟩), ⟨⟨u 12, u 13, hw27⟩, ⟨⟨_, _, _, hB_28⟩, _, _, hB_29⟩, fun j hj => hf27 j (by omega)⟩⟩) dX12_isInside_94
        · refine k_iload hC dX12_isInside_61 0 rfl ?_
          refine k_if_eq hC 70 dX12_isInside_63 rfl (by omega) (fun c_63 => absurd c_63 (by omega)) (fun c_63 => ?_)
          refine k_iconst hC dX12_isInside_66 ?_
          refine k_goto hC 71 dX12_isInside_67 rfl ?_
          refine k_put hC fd_X12_74 (kl hN (by decide)) hm [.ref (kad G 134), .ref (kad G 135), .ref (kad G 136), .ref (kad G 137), vI (u 4), vI 0, vI (u 6), .ref (kad G 138), .ref (kad G 139), .ref (kad G 140), .ref (kad G 141), .ref (kad G 142), vL (u 12), vL (u 13), .ref (kad G 143), vI (u 15), .ref (kad G 144), vI (u 17), vI (u 18), vI (u 19), vI (u 20), vI (u 21), vI (u 22), vI (u 23), vI (u 24), vI (u 25), .ref (kad G 145), .ref (kad G 146), .ref (kad G 147), vI (u 29)] rfl (Nat.le_of_ble_eq_true rfl) rfl rfl dX12_isInside_71 (fun w30 hw30 hf30 => ?_)
          obtain ⟨a, ea⟩ : ∃ zz : Nat, i = (zz : Int) := ⟨i.toNat, by omega⟩
          subst ea
          obtain ⟨b, eb⟩ : ∃ zz : Nat, j = (zz : Int) := ⟨j.toNat, by omega⟩
          subst eb
          obtain ⟨d, ed⟩ : ∃ zz : Nat, k = (zz : Int) := ⟨k.toNat, by omega⟩
          subst ed
          refine k_aload_n hC dX12_isInside_74 rfl 1 rfl ?_
          refine k_get hC fd_X12_74 (kl hN (by decide)) hw30 rfl dX12_isInside_75 ?_
          refine k_if_ne hC 93 dX12_isInside_78 rfl (by omega) (fun c_78 => absurd c_78 (by omega)) (fun c_78 => ?_)
          refine k_aload_n hC dX12_isInside_81 rfl 1 rfl ?_
          refine k_iload_n hC dX12_isInside_82 rfl 2 rfl ?_
          refine k_iload_n hC dX12_isInside_83 rfl 3 rfl ?_
          refine k_iload_n hC dX12_isInside_84 rfl 4 rfl ?_
          refine k_iload hC dX12_isInside_85 5 rfl ?_
          have h_31 : w30 134 = lA G 93 g := (hf30 134 (by decide)).trans hn
          have hB_32 : kLns G w30 ls lc lo := hLs.fr (fun j q1 q2 => (hf30 j (by omega)))
          have hB_33 : kHts G w30 hx hy := hHt.fr (fun j q1 q2 => (hf30 j (by omega)))
          refine k_mutV hC (c_X12_carryHat l hls G hN w30 fl (kup u 5 0) g a b d T (by omega) (by omega) (by omega) (by omega) hI hw30 h_31 ⟨⟨_, _, _, hB_32⟩, _, _, hB_33⟩) yy_X12_carryHat wm_X12_276 (kl hN (by decide)) hw30 rfl rfl rfl rfl (Nat.le_of_ble_eq_true rfl) (by decide) (by decide) ⟨by decide, by decide⟩ dX12_isInside_87 (fun w34 hp34 => ?_)
          obtain ⟨⟨ls34, lc34, lo34, hl34⟩, ⟨hx34, hy34, hh34, hxy34⟩, hf34⟩ := hp34
          obtain ⟨z34, ez34, hz34⟩ := selI_c (hatP g a b d)
          refine k_topv (vI z34) (by rw [ez34]) ?_
          refine k_if_ne hC 95 dX12_isInside_90 rfl (by omega) (fun c_90 => ?_) (fun c_90 => ?_)
          · have hok : hatP g a b d := (hz34.resolve_right (fun q1 => by omega)).2
            have hhx_35 : kHts G w34 (htX g a b d T) (htY g a b d T) := by have q := hh34; rw [(hxy34 hok).1, (hxy34 hok).2] at q; exact q
            have hcE_36 := cE_b g a b T
            have hcN_37 := cN_b g a b T
            have hcE_38 := cE_b g a d T
            have hcN_39 := cN_b g a d T
            have hcE_40 := cE_b g b d T
            have hcN_41 := cN_b g b d T
            refine k_aload_n hC dX12_isInside_95 rfl 1 rfl ?_
            refine k_iconst hC dX12_isInside_96 ?_
            refine k_iconst hC dX12_isInside_97 ?_
            refine k_iconst hC dX12_isInside_98 ?_
            refine k_iload hC dX12_isInside_99 6 rfl ?_
            refine k_i2l hC dX12_isInside_101 (by omega) ?_
            refine k_iload hC dX12_isInside_102 7 rfl ?_
            refine k_i2l hC dX12_isInside_104 (by omega) ?_
            have h_42 : w34 133 = .inr (12, [.ref (kad G 134), .ref (kad G 135), .ref (kad G 136), .ref (kad G 137), vI (u 4), vI 0, vI (u 6), .ref (kad G 138), .ref (kad G 139), .ref (kad G 140), .ref (kad G 141), .ref (kad G 142), vL (u 12), vL (u 13), .ref (kad G 143), vI (u 15), .ref (kad G 144), vI (u 17), vI (u 18), vI (u 19), vI (u 20), vI (u 21), vI (u 22), vI (u 23), vI (u 24), vI (u 25), .ref (kad G 145), .ref (kad G 146), .ref (kad G 147), vI (u 29)]) := (hf34 133 (by omega)).trans hw30
            refine k_pureV hC (c_X12_isBeside012 l hls G hN w34 fl (kup u 5 0) (cE g a b T) (cN g a b T) (cE g a d T) (cN g a d T) (cE g b d T) (cN g b d T) x y (by omega) (by omega) (by omega) (by omega) (by omega) (by omega) (by omega) (by omega) h_42 hhx_35) yy_X12_isBeside wm_X12_285 (kl hN (by decide)) h_42 rfl rfl rfl rfl (Nat.le_of_ble_eq_true rfl) (by decide) (by decide) ⟨by decide, by decide⟩ dX12_isInside_105 ?_
            obtain ⟨z_43, ez_43, hz_43⟩ := selI_c (besQ (cE g a b T) (cN g a b T) (cE g a d T) (cN g a d T) (cE g b d T) (cN g b d T) x y)
            refine k_topv (vI z_43) (by rw [ez_43]) ?_
            refine k_if_eq hC 147 dX12_isInside_108 rfl (by omega) (fun c_108 => ?_) (fun c_108 => ?_)
            · refine k_iconst hC dX12_isInside_147 ?_
              subst hQ
              exact k_zret hC (by omega) hr ⟨by decide, by decide⟩ (⟨_, 0, rfl, rfl, Or.inl ⟨by omega, rfl, (show ((0 : Int) = insV g a b d T x y) from (by unfold insV; exact (selI_0 (fun q => (hz_43.resolve_left (fun q1 => by omega)).2 q.2.1)).symm))⟩, ⟨⟨u 12, u 13, h_42⟩, ⟨⟨_, _, _, hl34⟩, _, _, hhx_35⟩, fun j hj => (hf34 j (by omega)).trans (hf30 j (by omega))⟩⟩) dX12_isInside_148
            · refine k_aload_n hC dX12_isInside_111 rfl 1 rfl ?_
              refine k_iconst hC dX12_isInside_112 ?_
              refine k_iconst hC dX12_isInside_113 ?_
              refine k_iconst hC dX12_isInside_114 ?_
              refine k_iload hC dX12_isInside_115 6 rfl ?_
              refine k_i2l hC dX12_isInside_117 (by omega) ?_
              refine k_iload hC dX12_isInside_118 7 rfl ?_
              refine k_i2l hC dX12_isInside_120 (by omega) ?_
              refine k_pureV hC (c_X12_isBeside021 l hls G hN w34 fl (kup u 5 0) (cE g a b T) (cN g a b T) (cE g a d T) (cN g a d T) (cE g b d T) (cN g b d T) x y (by omega) (by omega) (by omega) (by omega) (by omega) (by omega) (by omega) (by omega) h_42 hhx_35) yy_X12_isBeside wm_X12_285 (kl hN (by decide)) h_42 rfl rfl rfl rfl (Nat.le_of_ble_eq_true rfl) (by decide) (by decide) ⟨by decide, by decide⟩ dX12_isInside_121 ?_
              obtain ⟨z_44, ez_44, hz_44⟩ := selI_c (besQ (cE g a b T) (cN g a b T) (cE g b d T) (cN g b d T) (cE g a d T) (cN g a d T) x y)
              refine k_topv (vI z_44) (by rw [ez_44]) ?_
              refine k_if_eq hC 147 dX12_isInside_124 rfl (by omega) (fun c_124 => ?_) (fun c_124 => ?_)
              · refine k_iconst hC dX12_isInside_147 ?_
                subst hQ
                exact k_zret hC (by omega) hr ⟨by decide, by decide⟩ (⟨_, 0, rfl, rfl, Or.inl ⟨by omega, rfl, (show ((0 : Int) = insV g a b d T x y) from (by unfold insV; exact (selI_0 (fun q => (hz_44.resolve_left (fun q1 => by omega)).2 q.2.2.1)).symm))⟩, ⟨⟨u 12, u 13, h_42⟩, ⟨⟨_, _, _, hl34⟩, _, _, hhx_35⟩, fun j hj => (hf34 j (by omega)).trans (hf30 j (by omega))⟩⟩) dX12_isInside_148
              · refine k_aload_n hC dX12_isInside_127 rfl 1 rfl ?_
                refine k_iconst hC dX12_isInside_128 ?_
                refine k_iconst hC dX12_isInside_129 ?_
                refine k_iconst hC dX12_isInside_130 ?_
                refine k_iload hC dX12_isInside_131 6 rfl ?_
                refine k_i2l hC dX12_isInside_133 (by omega) ?_
                refine k_iload hC dX12_isInside_134 7 rfl ?_
                refine k_i2l hC dX12_isInside_136 (by omega) ?_
                refine k_pureV hC (c_X12_isBeside120 l hls G hN w34 fl (kup u 5 0) (cE g a b T) (cN g a b T) (cE g a d T) (cN g a d T) (cE g b d T) (cN g b d T) x y (by omega) (by omega) (by omega) (by omega) (by omega) (by omega) (by omega) (by omega) h_42 hhx_35) yy_X12_isBeside wm_X12_285 (kl hN (by decide)) h_42 rfl rfl rfl rfl (Nat.le_of_ble_eq_true rfl) (by decide) (by decide) ⟨by decide, by decide⟩ dX12_isInside_137 ?_
                obtain ⟨z_45, ez_45, hz_45⟩ := selI_c (besQ (cE g a d T) (cN g a d T) (cE g b d T) (cN g b d T) (cE g a b T) (cN g a b T) x y)
                refine k_topv (vI z_45) (by rw [ez_45]) ?_
                refine k_if_eq hC 147 dX12_isInside_140 rfl (by omega) (fun c_140 => ?_) (fun c_140 => ?_)
                · refine k_iconst hC dX12_isInside_147 ?_
                  subst hQ
                  exact k_zret hC (by omega) hr ⟨by decide, by decide⟩ (⟨_, 0, rfl, rfl, Or.inl ⟨by omega, rfl, (show ((0 : Int) = insV g a b d T x y) from (by unfold insV; exact (selI_0 (fun q => (hz_45.resolve_left (fun q1 => by omega)).2 q.2.2.2)).symm))⟩, ⟨⟨u 12, u 13, h_42⟩, ⟨⟨_, _, _, hl34⟩, _, _, hhx_35⟩, fun j hj => (hf34 j (by omega)).trans (hf30 j (by omega))⟩⟩) dX12_isInside_148
                · refine k_iconst hC dX12_isInside_143 ?_
                  refine k_goto hC 148 dX12_isInside_144 rfl ?_
                  subst hQ
                  exact k_zret hC (by omega) hr ⟨by decide, by decide⟩ (⟨_, 0, rfl, rfl, Or.inl ⟨by omega, rfl, (show ((1 : Int) = insV g a b d T x y) from (by unfold insV; exact (selI_1 ⟨hok, (hz_43.resolve_right (fun q => by omega)).2, (hz_44.resolve_right (fun q => by omega)).2, (hz_45.resolve_right (fun q => by omega)).2⟩).symm))⟩, ⟨⟨u 12, u 13, h_42⟩, ⟨⟨_, _, _, hl34⟩, _, _, hhx_35⟩, fun j hj => (hf34 j (by omega)).trans (hf30 j (by omega))⟩⟩) dX12_isInside_148
          · have nok : ¬ hatP g a b d := (hz34.resolve_left (fun q1 => by omega)).2
            refine k_iconst hC dX12_isInside_93 ?_
            have h_46 : w34 133 = .inr (12, [.ref (kad G 134), .ref (kad G 135), .ref (kad G 136), .ref (kad G 137), vI (u 4), vI 0, vI (u 6), .ref (kad G 138), .ref (kad G 139), .ref (kad G 140), .ref (kad G 141), .ref (kad G 142), vL (u 12), vL (u 13), .ref (kad G 143), vI (u 15), .ref (kad G 144), vI (u 17), vI (u 18), vI (u 19), vI (u 20), vI (u 21), vI (u 22), vI (u 23), vI (u 24), vI (u 25), .ref (kad G 145), .ref (kad G 146), .ref (kad G 147), vI (u 29)]) := (hf34 133 (by omega)).trans hw30
            subst hQ
            exact k_zret hC (by omega) hr ⟨by decide, by decide⟩ (⟨_, 0, rfl, rfl, Or.inl ⟨by omega, rfl, (show ((0 : Int) = insV g a b d T x y) from (by unfold insV; exact (selI_0 (fun q => nok q.1)).symm))⟩, ⟨⟨u 12, u 13, h_46⟩, ⟨⟨_, _, _, hl34⟩, _, _, hh34⟩, fun j hj => (hf34 j (by omega)).trans (hf30 j (by omega))⟩⟩) dX12_isInside_94
      · refine k_iconst hC dX12_isInside_48 ?_
        refine k_goto hC 71 dX12_isInside_49 rfl ?_
        refine k_put hC fd_X12_74 (kl hN (by decide)) hm [.ref (kad G 134), .ref (kad G 135), .ref (kad G 136), .ref (kad G 137), vI (u 4), vI 1, vI (u 6), .ref (kad G 138), .ref (kad G 139), .ref (kad G 140), .ref (kad G 141), .ref (kad G 142), vL (u 12), vL (u 13), .ref (kad G 143), vI (u 15), .ref (kad G 144), vI (u 17), vI (u 18), vI (u 19), vI (u 20), vI (u 21), vI (u 22), vI (u 23), vI (u 24), vI (u 25), .ref (kad G 145), .ref (kad G 146), .ref (kad G 147), vI (u 29)] rfl (Nat.le_of_ble_eq_true rfl) rfl rfl dX12_isInside_71 (fun w47 hw47 hf47 => ?_)
        refine k_aload_n hC dX12_isInside_74 rfl 1 rfl ?_
        refine k_get hC fd_X12_74 (kl hN (by decide)) hw47 rfl dX12_isInside_75 ?_
        refine k_if_ne hC 93 dX12_isInside_78 rfl (by omega) (fun c_78 => ?_) (fun c_78 => absurd c_78 (by omega))
        refine k_iconst hC dX12_isInside_93 ?_
        have hB_48 : kLns G w47 ls lc lo := hLs.fr (fun j q1 q2 => (hf47 j (by omega)))
        have hB_49 : kHts G w47 hx hy := hHt.fr (fun j q1 q2 => (hf47 j (by omega)))
        subst hQ
        exact k_zret hC (by omega) hr ⟨by decide, by decide⟩ (⟨_, 1, rfl, rfl, Or.inr (Or.inl ⟨by omega, rfl⟩), ⟨⟨u 12, u 13, hw47⟩, ⟨⟨_, _, _, hB_48⟩, _, _, hB_49⟩, fun j hj => hf47 j (by omega)⟩⟩) dX12_isInside_94

