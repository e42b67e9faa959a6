noncomputable def fmM (g : Nat → Int) (i : Nat) : List Int := [] ++ dgN 27 (96) 7 (g (12 + 4 * (g (57 + 3 * i)).toNat)) ++ [32] ++ dgN 10 (48) 1 (obsM g i / 60) ++ [39] ++ [48 + obsM g i % 60 / 10] ++ [48 + obsM g i % 60 % 10] ++ [32] ++ [122] ++ dgN 10 (48) 2 (aziM g i / 60) ++ [32] ++ [if 0 ≤ intM g i then 116 else 97] ++ dgN 10 (48) 4 ((intM g i).natAbs : Int)
def fmO (G : kG) (w w1 : Nat → va_E) (u : Nat → Int) (T : List Int) (th : Int) : Prop :=
  (th ≠ 0 ∧ w1 133 = mdO G (kup u 5 th) ∧ ∀ j, j ≠ 133 → w1 j = w j) ∨
  (th = 0 ∧ (∃ u1, w1 133 = mdO G u1 ∧ wrR G w1 u1 T ∧ u1 5 = 0 ∧ ∀ j, (j ≠ 5 ∧ j ≠ 15) → u1 j = u j) ∧ ∀ j, (j ≠ 133 ∧ j ≠ 143) → w1 j = w j)
set_option maxRecDepth 100000 in
set_option maxHeartbeats 4000000 in
theorem c_X12_format (l : Launch) (hls : l.stackTraces = false) (G : kG) (hN : kN G = 150) (w : Nat → va_E) (fl : va_W) (u g ff0 : Nat → Int) (b : Int) (hb : -2147483648 ≤ b ∧ b ≤ 2147483647) (hI : Inv g) (hNb : NmB g) (hm : w 133 = mdO G u) (hn : w 134 = lA G 93 g) (h143 : w 143 = iA G 80 ff0) : KM l G yX12_format cX12_format 8 (some (FieldType.int)) 11 0 0 [.ref (kad G 133), vI b] w fl (kRt (thR (0 ≤ b ∧ b < g 2) ((fmM g b.toNat).length : Int) (False) 1 (¬ (0 ≤ b ∧ b < g 2)) 1) fl (fun th w1 => fmO G w w1 u (fmM g b.toNat) th)) := by
  refine KM_of2 hls (by decide +kernel) rfl (lv0 := [(0, .ref (kad G 133)), (1, vI b)]) rfl (Nat.le_of_ble_eq_true rfl) (fun p e R s m args below meth c Q hC hr hQ => ?_)
  have h0 := hI.c
  refine k_aload_n hC dX12_format_0 rfl 0 rfl ?_
  refine k_iconst hC dX12_format_1 ?_
  refine k_put hC fd_X12_74 (kl hN (by decide)) hm [.ref (kad G 134), .ref (kad G 135), .ref (kad G 136), .ref (kad G 137), vI (u 4), vI 0, vI (u 6), .ref (kad G 138), .ref (kad G 139), .ref (kad G 140), .ref (kad G 141), .ref (kad G 142), vL (u 12), vL (u 13), .ref (kad G 143), vI (u 15), .ref (kad G 144), vI (u 17), vI (u 18), vI (u 19), vI (u 20), vI (u 21), vI (u 22), vI (u 23), vI (u 24), vI (u 25), .ref (kad G 145), .ref (kad G 146), .ref (kad G 147), vI (u 29)] rfl (Nat.le_of_ble_eq_true rfl) rfl rfl dX12_format_2 (fun w1 hw1 hf1 => ?_)
  refine k_aload_n hC dX12_format_5 rfl 0 rfl ?_
  refine k_iload_n hC dX12_format_6 rfl 1 rfl ?_
  have h_2 : w1 134 = lA G 93 g := (hf1 134 (by decide)).trans hn
  refine k_pureV hC (c_X12_isSight l hls G hN w1 fl (kup u 5 0) g b (by omega) hI hw1 h_2) yy_X12_isSight wm_X12_265 (kl hN (by decide)) hw1 rfl rfl rfl rfl (Nat.le_of_ble_eq_true rfl) (by decide) (by decide) ⟨by decide, by decide⟩ dX12_format_7 ?_
  obtain ⟨z_3, ez_3, hz_3⟩ := k_bI (0 ≤ b ∧ b ≤ g 2 - 1)
  refine k_topv (vI z_3) (by rw [ez_3]) ?_
  refine k_if_ne hC 19 dX12_format_10 rfl (by omega) (fun c_10 => ?_) (fun c_10 => ?_)
  · obtain ⟨i9, ei9⟩ : ∃ zz : Nat, b = (zz : Int) := ⟨b.toNat, by omega⟩
    subst ei9
    have hsk := hI.sight i9 (by omega)
    have hnb9 := hNb (g (57 + 3 * i9)).toNat (by omega)
    have hob9 := obsM_b hI i9 (by omega)
    have hab9 := aziM_b g i9
    have hib9 := intM_b hI i9 (by omega)
    refine k_aload_n hC dX12_format_19 rfl 0 rfl ?_
    refine k_iconst hC dX12_format_20 ?_
    refine k_put hC fd_X12_331 (kl hN (by decide)) hw1 [.ref (kad G 134), .ref (kad G 135), .ref (kad G 136), .ref (kad G 137), vI (u 4), vI 0, vI (u 6), .ref (kad G 138), .ref (kad G 139), .ref (kad G 140), .ref (kad G 141), .ref (kad G 142), vL (u 12), vL (u 13), .ref (kad G 143), vI 0, .ref (kad G 144), vI (u 17), vI (u 18), vI (u 19), vI (u 20), vI (u 21), vI (u 22), vI (u 23), vI (u 24), vI (u 25), .ref (kad G 145), .ref (kad G 146), .ref (kad G 147), vI (u 29)] rfl (Nat.le_of_ble_eq_true rfl) rfl rfl dX12_format_21 (fun w4 hw4 hf4 => ?_)
    have h_5 : w4 143 = iA G 80 ff0 := (hf4 143 (by decide)).trans ((hf1 143 (by decide)).trans h143)
    have hwr0 : wrR G w4 (kup (kup u 5 0) 15 0) [] := ⟨0, ff0, rfl, by omega, h_5, ⟨rfl, fun j hj => absurd hj (Nat.not_lt_zero j)⟩⟩
    refine k_aload_n hC dX12_format_24 rfl 0 rfl ?_
    refine k_aload_n hC dX12_format_25 rfl 0 rfl ?_
    refine k_aload_n hC dX12_format_26 rfl 0 rfl ?_
    refine k_iload_n hC dX12_format_27 rfl 1 rfl ?_
    refine k_iconst hC dX12_format_28 ?_
    have h_6 : w4 134 = lA G 93 g := (hf4 134 (by decide)).trans h_2
    refine k_pureV hC (c_X12_ofSight l hls G hN w4 fl (kup (kup u 5 0) 15 0) g i9 0 (by omega) (by decide) hw4 h_6) yy_X12_ofSight wm_X12_147 (kl hN (by decide)) hw4 rfl rfl rfl rfl (Nat.le_of_ble_eq_true rfl) (by decide) (by decide) ⟨by decide, by decide⟩ dX12_format_29 ?_
    refine k_topv (vL (g (57 + 3 * i9))) rfl ?_
    refine k_iconst hC dX12_format_32 ?_
    refine k_pureV hC (c_X12_ofBody l hls G hN w4 fl (kup (kup u 5 0) 15 0) g (g (57 + 3 * i9)) 3 (by omega) (by decide) hw4 h_6) yy_X12_ofBody wm_X12_158 (kl hN (by decide)) hw4 rfl rfl rfl rfl (Nat.le_of_ble_eq_true rfl) (by decide) (by decide) ⟨by decide, by decide⟩ dX12_format_33 ?_
    refine k_topv (vL (g (12 + 4 * (g (57 + 3 * i9)).toNat))) rfl ?_
    refine k_muvV hC (c_X12_writeName_7 l hls G hN w4 fl (kup (kup u 5 0) 15 0) ([]) (g (12 + 4 * (g (57 + 3 * i9)).toNat)) (by omega) (by simp only [List.length_append, List.length_cons, List.length_nil]; omega) hw4 hwr0) yy_X12_writeName wm_X12_348 (kl hN (by decide)) hw4 rfl rfl rfl rfl (Nat.le_of_ble_eq_true rfl) (by decide) (by decide) ⟨by decide, by decide⟩ dX12_format_36 (fun w7 hp7 => ?_)
    obtain ⟨⟨u7, hu7, hwr7, hs7⟩, hf7⟩ := hp7
    have hdl_8 := dgN_l 27 (96) 7 (g (12 + 4 * (g (57 + 3 * i9)).toNat))
    refine k_aload_n hC dX12_format_39 rfl 0 rfl ?_
    refine k_bipush hC dX12_format_40 (by decide) ?_
    refine k_muvV hC (c_X12_write l hls G hN w7 fl u7 ([] ++ dgN 27 (96) 7 (g (12 + 4 * (g (57 + 3 * i9)).toNat))) 32 (by simp only [List.length_append, List.length_cons, List.length_nil]; omega) hu7 hwr7) yy_X12_write wm_X12_341 (kl hN (by decide)) hu7 rfl rfl rfl rfl (Nat.le_of_ble_eq_true rfl) (by decide) (by decide) ⟨by decide, by decide⟩ dX12_format_42 (fun w9 hp9 => ?_)
    obtain ⟨⟨u9, hu9, hwr9, hs9⟩, hf9⟩ := hp9
    refine k_aload_n hC dX12_format_45 rfl 0 rfl ?_
    refine k_iload_n hC dX12_format_46 rfl 1 rfl ?_
    have h_10 : w9 134 = lA G 93 g := (hf9 134 (by decide)).trans ((hf7 134 (by decide)).trans h_6)
    refine k_pureV hC (c_X12_observed l hls G hN w9 fl u9 g i9 hI (by omega) hu9 h_10) yy_X12_observed wm_X12_181 (kl hN (by decide)) hu9 rfl rfl rfl rfl (Nat.le_of_ble_eq_true rfl) (by decide) (by decide) ⟨by decide, by decide⟩ dX12_format_47 ?_
    refine k_topv (vL (obsM g i9)) rfl ?_
    have hb_11 := obsM_b hI i9 (by omega)
    refine k_lstore_n hC [(2, vL (obsM g i9)), (0, .ref (kad G 133)), (1, vI (i9 : Int))] dX12_format_50 rfl (by decide) rfl ?_
    refine k_lload_n hC dX12_format_51 rfl 0 rfl ?_
    refine k_lconst (x := 0) hC dX12_format_52 (by decide) ?_
    refine k_lcmp_ge hC 63 dX12_format_53 dX12_format_54 rfl (by omega) (by omega) (fun c_53 => ?_) (fun c_53 => absurd c_53 (by omega))
    refine k_lload_n hC dX12_format_63 rfl 0 rfl ?_
    refine k_mabsL hC wm_X12_204 wmath_mabsL (by omega) (by decide) (Nat.le_of_ble_eq_true rfl) ⟨by decide, by decide⟩ dX12_format_64 ?_
    refine k_topv (vL (obsM g i9)) (congrArg vL (by omega)) ?_
    refine k_lstore hC [(4, vL (obsM g i9)), (2, vL (obsM g i9)), (0, .ref (kad G 133)), (1, vI (i9 : Int))] dX12_format_67 (by decide) rfl ?_
    refine k_aload_n hC dX12_format_69 rfl 2 rfl ?_
    refine k_lload hC dX12_format_70 0 rfl ?_
    refine k_ldc2 hC (x := 60) (v := 60) dX12_format_72 (by decide) wk_X12_329 ?_
    refine k_ldiv hC dX12_format_75 (by omega) (by omega) ?_
    refine k_topv (vL (obsM g i9 / 60)) (congrArg vL (Int.tdiv_eq_ediv_of_nonneg (by omega))) ?_
    refine k_muvV hC (c_X12_writeNumber_1 l hls G hN w9 fl u9 ([] ++ dgN 27 (96) 7 (g (12 + 4 * (g (57 + 3 * i9)).toNat)) ++ [32]) (obsM g i9 / 60) (by omega) (by simp only [List.length_append, List.length_cons, List.length_nil]; omega) hu9 hwr9) yy_X12_writeNumber wm_X12_338 (kl hN (by decide)) hu9 rfl rfl rfl rfl (Nat.le_of_ble_eq_true rfl) (by decide) (by decide) ⟨by decide, by decide⟩ dX12_format_76 (fun w12 hp12 => ?_)
    obtain ⟨⟨u12, hu12, hwr12, hs12⟩, hf12⟩ := hp12
    have hdl_13 := dgN_l 10 (48) 1 (obsM g i9 / 60)
    refine k_aload_n hC dX12_format_79 rfl 2 rfl ?_
    refine k_bipush hC dX12_format_80 (by decide) ?_
    refine k_muvV hC (c_X12_write l hls G hN w12 fl u12 ([] ++ dgN 27 (96) 7 (g (12 + 4 * (g (57 + 3 * i9)).toNat)) ++ [32] ++ dgN 10 (48) 1 (obsM g i9 / 60)) 39 (by simp only [List.length_append, List.length_cons, List.length_nil]; omega) hu12 hwr12) yy_X12_write wm_X12_341 (kl hN (by decide)) hu12 rfl rfl rfl rfl (Nat.le_of_ble_eq_true rfl) (by decide) (by decide) ⟨by decide, by decide⟩ dX12_format_82 (fun w14 hp14 => ?_)
    obtain ⟨⟨u14, hu14, hwr14, hs14⟩, hf14⟩ := hp14
    refine k_aload_n hC dX12_format_85 rfl 2 rfl ?_
    refine k_bipush hC dX12_format_86 (by decide) ?_
    refine k_lload hC dX12_format_88 0 rfl ?_
    refine k_ldc2 hC (x := 60) (v := 60) dX12_format_90 (by decide) wk_X12_329 ?_
    refine k_lrem hC dX12_format_93 (by omega) (by omega) ?_
    refine k_topv (vL (obsM g i9 % 60)) (congrArg vL (Int.tmod_eq_emod_of_nonneg (by omega))) ?_
    refine k_ldc2 hC (x := 10) (v := 10) dX12_format_94 (by decide) wk_X12_336 ?_
    refine k_ldiv hC dX12_format_97 (by omega) (by omega) ?_
    refine k_topv (vL (obsM g i9 % 60 / 10)) (congrArg vL (Int.tdiv_eq_ediv_of_nonneg (by omega))) ?_
    refine k_l2i hC dX12_format_98 ?_
    refine k_iadd hC dX12_format_99 ?_
    refine k_muvV hC (c_X12_write l hls G hN w14 fl u14 ([] ++ dgN 27 (96) 7 (g (12 + 4 * (g (57 + 3 * i9)).toNat)) ++ [32] ++ dgN 10 (48) 1 (obsM g i9 / 60) ++ [39]) (48 + (obsM g i9 % 60 / 10)) (by simp only [List.length_append, List.length_cons, List.length_nil]; omega) hu14 hwr14) yy_X12_write wm_X12_341 (kl hN (by decide)) hu14 rfl rfl rfl rfl (Nat.le_of_ble_eq_true rfl) (by decide) (by decide) ⟨by decide, by decide⟩ dX12_format_100 (fun w15 hp15 => ?_)
    obtain ⟨⟨u15, hu15, hwr15, hs15⟩, hf15⟩ := hp15
    refine k_aload_n hC dX12_format_103 rfl 2 rfl ?_
    refine k_bipush hC dX12_format_104 (by decide) ?_
    refine k_lload hC dX12_format_106 0 rfl ?_
    refine k_ldc2 hC (x := 60) (v := 60) dX12_format_108 (by decide) wk_X12_329 ?_
    refine k_lrem hC dX12_format_111 (by omega) (by omega) ?_
    refine k_topv (vL (obsM g i9 % 60)) (congrArg vL (Int.tmod_eq_emod_of_nonneg (by omega))) ?_
    refine k_ldc2 hC (x := 10) (v := 10) dX12_format_112 (by decide) wk_X12_336 ?_
    refine k_lrem hC dX12_format_115 (by omega) (by omega) ?_
    refine k_topv (vL (obsM g i9 % 60 % 10)) (congrArg vL (Int.tmod_eq_emod_of_nonneg (by omega))) ?_
    refine k_l2i hC dX12_format_116 ?_
    refine k_iadd hC dX12_format_117 ?_
    refine k_muvV hC (c_X12_write l hls G hN w15 fl u15 ([] ++ dgN 27 (96) 7 (g (12 + 4 * (g (57 + 3 * i9)).toNat)) ++ [32] ++ dgN 10 (48) 1 (obsM g i9 / 60) ++ [39] ++ [48 + (obsM g i9 % 60 / 10)]) (48 + (obsM g i9 % 60 % 10)) (by simp only [List.length_append, List.length_cons, List.length_nil]; omega) hu15 hwr15) yy_X12_write wm_X12_341 (kl hN (by decide)) hu15 rfl rfl rfl rfl (Nat.le_of_ble_eq_true rfl) (by decide) (by decide) ⟨by decide, by decide⟩ dX12_format_118 (fun w16 hp16 => ?_)
    obtain ⟨⟨u16, hu16, hwr16, hs16⟩, hf16⟩ := hp16
    refine k_aload_n hC dX12_format_121 rfl 2 rfl ?_
    refine k_bipush hC dX12_format_122 (by decide) ?_
    refine k_muvV hC (c_X12_write l hls G hN w16 fl u16 ([] ++ dgN 27 (96) 7 (g (12 + 4 * (g (57 + 3 * i9)).toNat)) ++ [32] ++ dgN 10 (48) 1 (obsM g i9 / 60) ++ [39] ++ [48 + (obsM g i9 % 60 / 10)] ++ [48 + (obsM g i9 % 60 % 10)]) 32 (by simp only [List.length_append, List.length_cons, List.length_nil]; omega) hu16 hwr16) yy_X12_write wm_X12_341 (kl hN (by decide)) hu16 rfl rfl rfl rfl (Nat.le_of_ble_eq_true rfl) (by decide) (by decide) ⟨by decide, by decide⟩ dX12_format_124 (fun w17 hp17 => ?_)
    obtain ⟨⟨u17, hu17, hwr17, hs17⟩, hf17⟩ := hp17
    refine k_aload_n hC dX12_format_127 rfl 2 rfl ?_
    refine k_bipush hC dX12_format_128 (by decide) ?_
    refine k_muvV hC (c_X12_write l hls G hN w17 fl u17 ([] ++ dgN 27 (96) 7 (g (12 + 4 * (g (57 + 3 * i9)).toNat)) ++ [32] ++ dgN 10 (48) 1 (obsM g i9 / 60) ++ [39] ++ [48 + (obsM g i9 % 60 / 10)] ++ [48 + (obsM g i9 % 60 % 10)] ++ [32]) 122 (by simp only [List.length_append, List.length_cons, List.length_nil]; omega) hu17 hwr17) yy_X12_write wm_X12_341 (kl hN (by decide)) hu17 rfl rfl rfl rfl (Nat.le_of_ble_eq_true rfl) (by decide) (by decide) ⟨by decide, by decide⟩ dX12_format_130 (fun w18 hp18 => ?_)
    obtain ⟨⟨u18, hu18, hwr18, hs18⟩, hf18⟩ := hp18
    refine k_aload_n hC dX12_format_133 rfl 2 rfl ?_
    refine k_aload_n hC dX12_format_134 rfl 2 rfl ?_
    refine k_iload_n hC dX12_format_135 rfl 3 rfl ?_
    have h_19 : w18 134 = lA G 93 g := (hf18 134 (by decide)).trans ((hf17 134 (by decide)).trans ((hf16 134 (by decide)).trans ((hf15 134 (by decide)).trans ((hf14 134 (by decide)).trans ((hf12 134 (by decide)).trans h_10)))))
    refine k_pureV hC (c_X12_azimuth l hls G hN w18 fl u18 g i9 hI (by omega) hu18 h_19) yy_X12_azimuth wm_X12_184 (kl hN (by decide)) hu18 rfl rfl rfl rfl (Nat.le_of_ble_eq_true rfl) (by decide) (by decide) ⟨by decide, by decide⟩ dX12_format_136 ?_
    refine k_topv (vL (aziM g i9)) rfl ?_
    have hb_20 := aziM_b g i9
    refine k_ldc2 hC (x := 60) (v := 60) dX12_format_139 (by decide) wk_X12_329 ?_
    refine k_ldiv hC dX12_format_142 (by omega) (by omega) ?_
    refine k_topv (vL (aziM g i9 / 60)) (congrArg vL (Int.tdiv_eq_ediv_of_nonneg (by omega))) ?_
    refine k_muvV hC (c_X12_writeNumber_2 l hls G hN w18 fl u18 ([] ++ dgN 27 (96) 7 (g (12 + 4 * (g (57 + 3 * i9)).toNat)) ++ [32] ++ dgN 10 (48) 1 (obsM g i9 / 60) ++ [39] ++ [48 + (obsM g i9 % 60 / 10)] ++ [48 + (obsM g i9 % 60 % 10)] ++ [32] ++ [122]) (aziM g i9 / 60) (by omega) (by simp only [List.length_append, List.length_cons, List.length_nil]; omega) hu18 hwr18) yy_X12_writeNumber wm_X12_338 (kl hN (by decide)) hu18 rfl rfl rfl rfl (Nat.le_of_ble_eq_true rfl) (by decide) (by decide) ⟨by decide, by decide⟩ dX12_format_143 (fun w21 hp21 => ?_)
    obtain ⟨⟨u21, hu21, hwr21, hs21⟩, hf21⟩ := hp21
    have hdl_22 := dgN_l 10 (48) 2 (aziM g i9 / 60)
    refine k_aload_n hC dX12_format_146 rfl 2 rfl ?_
    refine k_bipush hC dX12_format_147 (by decide) ?_
    refine k_muvV hC (c_X12_write l hls G hN w21 fl u21 ([] ++ dgN 27 (96) 7 (g (12 + 4 * (g (57 + 3 * i9)).toNat)) ++ [32] ++ dgN 10 (48) 1 (obsM g i9 / 60) ++ [39] ++ [48 + (obsM g i9 % 60 / 10)] ++ [48 + (obsM g i9 % 60 % 10)] ++ [32] ++ [122] ++ dgN 10 (48) 2 (aziM g i9 / 60)) 32 (by simp only [List.length_append, List.length_cons, List.length_nil]; omega) hu21 hwr21) yy_X12_write wm_X12_341 (kl hN (by decide)) hu21 rfl rfl rfl rfl (Nat.le_of_ble_eq_true rfl) (by decide) (by decide) ⟨by decide, by decide⟩ dX12_format_149 (fun w23 hp23 => ?_)
    obtain ⟨⟨u23, hu23, hwr23, hs23⟩, hf23⟩ := hp23
    refine k_aload_n hC dX12_format_152 rfl 2 rfl ?_
    refine k_iload_n hC dX12_format_153 rfl 3 rfl ?_
    have h_24 : w23 134 = lA G 93 g := (hf23 134 (by decide)).trans ((hf21 134 (by decide)).trans h_19)
    refine k_pureV hC (c_X12_intercept l hls G hN w23 fl u23 g i9 hI (by omega) hu23 h_24) yy_X12_intercept wm_X12_190 (kl hN (by decide)) hu23 rfl rfl rfl rfl (Nat.le_of_ble_eq_true rfl) (by decide) (by decide) ⟨by decide, by decide⟩ dX12_format_154 ?_
    refine k_topv (vL (intM g i9)) rfl ?_
    have hb_25 := intM_b hI i9 (by omega)
    refine k_lstore hC [(6, vL (intM g i9)), (4, vL (obsM g i9)), (2, vL (obsM g i9)), (0, .ref (kad G 133)), (1, vI (i9 : Int))] dX12_format_157 (by decide) rfl ?_
    refine k_aload_n hC dX12_format_159 rfl 3 rfl ?_
    refine k_lload hC dX12_format_160 0 rfl ?_
    refine k_lconst (x := 0) hC dX12_format_162 (by decide) ?_
    refine k_lcmp_lt hC 172 dX12_format_163 dX12_format_164 rfl (by omega) (by omega) (fun c_163 => ?_) (fun c_163 => ?_)
    · refine k_bipush hC dX12_format_172 (by decide) ?_
      refine k_topv (vI (if 0 ≤ intM g i9 then 116 else 97)) (congrArg vI ((if_neg (by omega)).symm)) ?_
      refine k_muvV hC (c_X12_write l hls G hN w23 fl u23 ([] ++ dgN 27 (96) 7 (g (12 + 4 * (g (57 + 3 * i9)).toNat)) ++ [32] ++ dgN 10 (48) 1 (obsM g i9 / 60) ++ [39] ++ [48 + (obsM g i9 % 60 / 10)] ++ [48 + (obsM g i9 % 60 % 10)] ++ [32] ++ [122] ++ dgN 10 (48) 2 (aziM g i9 / 60) ++ [32]) (if 0 ≤ intM g i9 then 116 else 97) (by simp only [List.length_append, List.length_cons, List.length_nil]; omega) hu23 hwr23) yy_X12_write wm_X12_341 (kl hN (by decide)) hu23 rfl rfl rfl rfl (Nat.le_of_ble_eq_true rfl) (by decide) (by decide) ⟨by decide, by decide⟩ dX12_format_174 (fun w26 hp26 => ?_)
      obtain ⟨⟨u26, hu26, hwr26, hs26⟩, hf26⟩ := hp26
      refine k_aload_n hC dX12_format_177 rfl 3 rfl ?_
      refine k_lload hC dX12_format_178 0 rfl ?_
      refine k_mabsL hC wm_X12_204 wmath_mabsL (by omega) (by decide) (Nat.le_of_ble_eq_true rfl) ⟨by decide, by decide⟩ dX12_format_180 ?_
      refine k_muvV hC (c_X12_writeNumber_4 l hls G hN w26 fl u26 ([] ++ dgN 27 (96) 7 (g (12 + 4 * (g (57 + 3 * i9)).toNat)) ++ [32] ++ dgN 10 (48) 1 (obsM g i9 / 60) ++ [39] ++ [48 + (obsM g i9 % 60 / 10)] ++ [48 + (obsM g i9 % 60 % 10)] ++ [32] ++ [122] ++ dgN 10 (48) 2 (aziM g i9 / 60) ++ [32] ++ [if 0 ≤ intM g i9 then 116 else 97]) ((intM g i9).natAbs : Int) (by omega) (by simp only [List.length_append, List.length_cons, List.length_nil]; omega) hu26 hwr26) yy_X12_writeNumber wm_X12_338 (kl hN (by decide)) hu26 rfl rfl rfl rfl (Nat.le_of_ble_eq_true rfl) (by decide) (by decide) ⟨by decide, by decide⟩ dX12_format_183 (fun w27 hp27 => ?_)
      obtain ⟨⟨u27, hu27, hwr27, hs27⟩, hf27⟩ := hp27
      have hdl_28 := dgN_l 10 (48) 4 (((intM g i9).natAbs : Int))
      refine k_aload_n hC dX12_format_186 rfl 3 rfl ?_
      have hwz := hwr27
      obtain ⟨cz, ffz, hz15, hzc, hz143, hzcd⟩ := hwz
      have hzl := hzcd.1
      have hfm : [] ++ dgN 27 (96) 7 (g (12 + 4 * (g (57 + 3 * i9)).toNat)) ++ [32] ++ dgN 10 (48) 1 (obsM g i9 / 60) ++ [39] ++ [48 + (obsM g i9 % 60 / 10)] ++ [48 + (obsM g i9 % 60 % 10)] ++ [32] ++ [122] ++ dgN 10 (48) 2 (aziM g i9 / 60) ++ [32] ++ [if 0 ≤ intM g i9 then 116 else 97] ++ dgN 10 (48) 4 (((intM g i9).natAbs : Int)) = fmM g i9 := rfl
      rw [hfm] at hzl
      refine k_get hC fd_X12_331 (kl hN (by decide)) hu27 rfl dX12_format_187 ?_
      subst hQ
      exact k_iret hC hr ⟨by decide, by decide⟩ (⟨_, 0, rfl, rfl, Or.inl ⟨by omega, rfl, (by show (u27 15 : Int) = ((fmM g i9).length : Int); omega)⟩, Or.inr ⟨rfl, ⟨u27, hu27, hwr27, (((fun j hj => (hs27 j hj).trans ((fun j hj => (hs26 j hj).trans ((fun j hj => (hs23 j hj).trans ((fun j hj => (hs21 j hj).trans ((fun j hj => (hs18 j hj).trans ((fun j hj => (hs17 j hj).trans ((fun j hj => (hs16 j hj).trans ((fun j hj => (hs15 j hj).trans ((fun j hj => (hs14 j hj).trans ((fun j hj => (hs12 j hj).trans ((fun j hj => (hs9 j hj).trans ((fun j hj => (hs7 j hj).trans ((fun j _ => rfl) j hj)) j hj)) j hj)) j hj)) j hj)) j hj)) j hj)) j hj)) j hj)) j hj)) j hj)) j hj)) 5 (by decide)).trans rfl), fun j hj => ((fun j hj => (hs27 j hj).trans ((fun j hj => (hs26 j hj).trans ((fun j hj => (hs23 j hj).trans ((fun j hj => (hs21 j hj).trans ((fun j hj => (hs18 j hj).trans ((fun j hj => (hs17 j hj).trans ((fun j hj => (hs16 j hj).trans ((fun j hj => (hs15 j hj).trans ((fun j hj => (hs14 j hj).trans ((fun j hj => (hs12 j hj).trans ((fun j hj => (hs9 j hj).trans ((fun j hj => (hs7 j hj).trans ((fun j _ => rfl) j hj)) j hj)) j hj)) j hj)) j hj)) j hj)) j hj)) j hj)) j hj)) j hj)) j hj)) j hj)) j hj.2).trans ((kup_n hj.2).trans (kup_n hj.1))⟩, fun j hj => (hf27 j (by omega)).trans ((hf26 j (by omega)).trans ((hf23 j (by omega)).trans ((hf21 j (by omega)).trans ((hf18 j (by omega)).trans ((hf17 j (by omega)).trans ((hf16 j (by omega)).trans ((hf15 j (by omega)).trans ((hf14 j (by omega)).trans ((hf12 j (by omega)).trans ((hf9 j (by omega)).trans ((hf7 j (by omega)).trans ((hf4 j (by omega)).trans (hf1 j (by omega))))))))))))))⟩⟩) dX12_format_190
    · refine k_bipush hC dX12_format_167 (by decide) ?_
      refine k_topv (vI (if 0 ≤ intM g i9 then 116 else 97)) (congrArg vI ((if_pos (by omega)).symm)) ?_
      refine k_goto hC 174 dX12_format_169 rfl ?_
      refine k_muvV hC (c_X12_write l hls G hN w23 fl u23 ([] ++ dgN 27 (96) 7 (g (12 + 4 * (g (57 + 3 * i9)).toNat)) ++ [32] ++ dgN 10 (48) 1 (obsM g i9 / 60) ++ [39] ++ [48 + (obsM g i9 % 60 / 10)] ++ [48 + (obsM g i9 % 60 % 10)] ++ [32] ++ [122] ++ dgN 10 (48) 2 (aziM g i9 / 60) ++ [32]) (if 0 ≤ intM g i9 then 116 else 97) (by simp only [List.length_append, List.length_cons, List.length_nil]; omega) hu23 hwr23) yy_X12_write wm_X12_341 (kl hN (by decide)) hu23 rfl rfl rfl rfl (Nat.le_of_ble_eq_true rfl) (by decide) (by decide) ⟨by decide, by decide⟩ dX12_format_174 (fun w29 hp29 => ?_)
      obtain ⟨⟨u29, hu29, hwr29, hs29⟩, hf29⟩ := hp29
      refine k_aload_n hC dX12_format_177 rfl 3 rfl ?_
      refine k_lload hC dX12_format_178 0 rfl ?_
      refine k_mabsL hC wm_X12_204 wmath_mabsL (by omega) (by decide) (Nat.le_of_ble_eq_true rfl) ⟨by decide, by decide⟩ dX12_format_180 ?_
      refine k_muvV hC (c_X12_writeNumber_4 l hls G hN w29 fl u29 ([] ++ dgN 27 (96) 7 (g (12 + 4 * (g (57 + 3 * i9)).toNat)) ++ [32] ++ dgN 10 (48) 1 (obsM g i9 / 60) ++ [39] ++ [48 + (obsM g i9 % 60 / 10)] ++ [48 + (obsM g i9 % 60 % 10)] ++ [32] ++ [122] ++ dgN 10 (48) 2 (aziM g i9 / 60) ++ [32] ++ [if 0 ≤ intM g i9 then 116 else 97]) ((intM g i9).natAbs : Int) (by omega) (by simp only [List.length_append, List.length_cons, List.length_nil]; omega) hu29 hwr29) yy_X12_writeNumber wm_X12_338 (kl hN (by decide)) hu29 rfl rfl rfl rfl (Nat.le_of_ble_eq_true rfl) (by decide) (by decide) ⟨by decide, by decide⟩ dX12_format_183 (fun w30 hp30 => ?_)
      obtain ⟨⟨u30, hu30, hwr30, hs30⟩, hf30⟩ := hp30
      have hdl_31 := dgN_l 10 (48) 4 (((intM g i9).natAbs : Int))
      refine k_aload_n hC dX12_format_186 rfl 3 rfl ?_
      have hwz := hwr30
      obtain ⟨cz, ffz, hz15, hzc, hz143, hzcd⟩ := hwz
      have hzl := hzcd.1
      have hfm : [] ++ dgN 27 (96) 7 (g (12 + 4 * (g (57 + 3 * i9)).toNat)) ++ [32] ++ dgN 10 (48) 1 (obsM g i9 / 60) ++ [39] ++ [48 + (obsM g i9 % 60 / 10)] ++ [48 + (obsM g i9 % 60 % 10)] ++ [32] ++ [122] ++ dgN 10 (48) 2 (aziM g i9 / 60) ++ [32] ++ [if 0 ≤ intM g i9 then 116 else 97] ++ dgN 10 (48) 4 (((intM g i9).natAbs : Int)) = fmM g i9 := rfl
      rw [hfm] at hzl
      refine k_get hC fd_X12_331 (kl hN (by decide)) hu30 rfl dX12_format_187 ?_
      subst hQ
      exact k_iret hC hr ⟨by decide, by decide⟩ (⟨_, 0, rfl, rfl, Or.inl ⟨by omega, rfl, (by show (u30 15 : Int) = ((fmM g i9).length : Int); omega)⟩, Or.inr ⟨rfl, ⟨u30, hu30, hwr30, (((fun j hj => (hs30 j hj).trans ((fun j hj => (hs29 j hj).trans ((fun j hj => (hs23 j hj).trans ((fun j hj => (hs21 j hj).trans ((fun j hj => (hs18 j hj).trans ((fun j hj => (hs17 j hj).trans ((fun j hj => (hs16 j hj).trans ((fun j hj => (hs15 j hj).trans ((fun j hj => (hs14 j hj).trans ((fun j hj => (hs12 j hj).trans ((fun j hj => (hs9 j hj).trans ((fun j hj => (hs7 j hj).trans ((fun j _ => rfl) j hj)) j hj)) j hj)) j hj)) j hj)) j hj)) j hj)) j hj)) j hj)) j hj)) j hj)) j hj)) 5 (by decide)).trans rfl), fun j hj => ((fun j hj => (hs30 j hj).trans ((fun j hj => (hs29 j hj).trans ((fun j hj => (hs23 j hj).trans ((fun j hj => (hs21 j hj).trans ((fun j hj => (hs18 j hj).trans ((fun j hj => (hs17 j hj).trans ((fun j hj => (hs16 j hj).trans ((fun j hj => (hs15 j hj).trans ((fun j hj => (hs14 j hj).trans ((fun j hj => (hs12 j hj).trans ((fun j hj => (hs9 j hj).trans ((fun j hj => (hs7 j hj).trans ((fun j _ => rfl) j hj)) j hj)) j hj)) j hj)) j hj)) j hj)) j hj)) j hj)) j hj)) j hj)) j hj)) j hj)) j hj.2).trans ((kup_n hj.2).trans (kup_n hj.1))⟩, fun j hj => (hf30 j (by omega)).trans ((hf29 j (by omega)).trans ((hf23 j (by omega)).trans ((hf21 j (by omega)).trans ((hf18 j (by omega)).trans ((hf17 j (by omega)).trans ((hf16 j (by omega)).trans ((hf15 j (by omega)).trans ((hf14 j (by omega)).trans ((hf12 j (by omega)).trans ((hf9 j (by omega)).trans ((hf7 j (by omega)).trans ((hf4 j (by omega)).trans (hf1 j (by omega))))))))))))))⟩⟩) dX12_format_190
  · refine k_aload_n hC dX12_format_13 rfl 0 rfl ?_
    refine k_iconst hC dX12_format_14 ?_
    refine k_mutV hC (c_X12_raise l hls G hN w1 fl (kup u 5 0) 1 hw1) yy_X12_raise wm_X12_247 (kl hN (by decide)) hw1 rfl rfl rfl rfl (Nat.le_of_ble_eq_true rfl) (by decide) (by decide) ⟨by decide, by decide⟩ dX12_format_15 (fun w32 hp32 => ?_)
    obtain ⟨hu32, hf32⟩ := hp32
    subst hQ
    exact k_iret hC hr ⟨by decide, by decide⟩ (⟨_, 1, rfl, rfl, Or.inr (Or.inr ⟨by omega, rfl⟩), Or.inl ⟨by decide, hu32, fun j hj => (hf32 j (by omega)).trans (hf1 j (by omega))⟩⟩) dX12_format_18

set_option maxRecDepth 100000 in
set_option maxHeartbeats 4000000 in
theorem c_X12_formattedByte (l : Launch) (hls : l.stackTraces = false) (G : kG) (hN : kN G = 150) (w : Nat → va_E) (fl : va_W) (u : Nat → Int) (T : List Int) (b : Int) (hb : -2147483648 ≤ b ∧ b ≤ 2147483647) (hm : w 133 = mdO G u) (hwr : wrR G w u T) : KM l G yX12_formattedByte cX12_formattedByte 2 (some (FieldType.int)) 1 0 0 [.ref (kad G 133), vI b] w fl (kMut (vI (if 0 ≤ b ∧ b < (T.length : Int) then T.getD b.toNat 0 else -1)) fl (fun w1 => w1 133 = mdO G (kup u 5 0) ∧ ∀ j, j ≠ 133 → w1 j = w j)) := by
  refine KM_of2 hls (by decide +kernel) rfl (lv0 := [(0, .ref (kad G 133)), (1, vI b)]) rfl (Nat.le_of_ble_eq_true rfl) (fun p e R s m args below meth c Q hC hr hQ => ?_)
  have hwr0 := hwr
  obtain ⟨c9, ff, h15, hc9, h143, hcd⟩ := hwr0
  have hlen := hcd.1
  refine k_aload_n hC dX12_formattedByte_0 rfl 0 rfl ?_
  refine k_iconst hC dX12_formattedByte_1 ?_
  refine k_put hC fd_X12_74 (kl hN (by decide)) hm [.ref (kad G 134), .ref (kad G 135), .ref (kad G 136), .ref (kad G 137), vI (u 4), vI 0, vI (u 6), .ref (kad G 138), .ref (kad G 139), .ref (kad G 140), .ref (kad G 141), .ref (kad G 142), vL (u 12), vL (u 13), .ref (kad G 143), vI (u 15), .ref (kad G 144), vI (u 17), vI (u 18), vI (u 19), vI (u 20), vI (u 21), vI (u 22), vI (u 23), vI (u 24), vI (u 25), .ref (kad G 145), .ref (kad G 146), .ref (kad G 147), vI (u 29)] rfl (Nat.le_of_ble_eq_true rfl) rfl rfl dX12_formattedByte_2 (fun w1 hw1 hf1 => ?_)
  refine k_iload_n hC dX12_formattedByte_5 rfl 1 rfl ?_
  refine k_i2l hC dX12_formattedByte_6 (by omega) ?_
  refine k_lconst (x := 0) hC dX12_formattedByte_7 (by decide) ?_
  refine k_aload_n hC dX12_formattedByte_8 rfl 0 rfl ?_
  refine k_get hC fd_X12_331 (kl hN (by decide)) hw1 rfl dX12_formattedByte_9 ?_
  refine k_topv (vI (u 15)) rfl ?_
  refine k_i2l hC dX12_formattedByte_12 (by omega) ?_
  refine k_lconst (x := 1) hC dX12_formattedByte_13 (by decide) ?_
  refine k_lsub hC dX12_formattedByte_14 ?_
  refine k_pureS hC (c_X12_inRange l hls G hN w1 fl b 0 ((u 15) - 1) (by omega) (by omega) (by omega)) yy_X12_inRange wm_X12_243 rfl rfl (Nat.le_of_ble_eq_true rfl) (by decide) (by decide) ⟨by decide, by decide⟩ dX12_formattedByte_15 ?_
  refine k_topv (vI (if 0 ≤ b ∧ b ≤ (u 15) - 1 then 1 else 0)) rfl ?_
  obtain ⟨z_2, ez_2, hz_2⟩ := k_bI (0 ≤ b ∧ b ≤ (u 15) - 1)
  refine k_topv (vI z_2) (by rw [ez_2]) ?_
  refine k_if_eq hC 30 dX12_formattedByte_18 rfl (by omega) (fun c_18 => ?_) (fun c_18 => ?_)
  · refine k_iconst hC dX12_formattedByte_30 ?_
    subst hQ
    exact k_iret hC hr ⟨by decide, by decide⟩ (⟨congrArg (fun z => some (vI z)) (if_neg (by omega)), rfl, hw1, fun j hj => hf1 j (by omega)⟩) dX12_formattedByte_31
  · obtain ⟨i9, ei9⟩ : ∃ zz : Nat, b = (zz : Int) := ⟨b.toNat, by omega⟩
    subst ei9
    have hg9 := hcd.2 i9 (by omega)
    refine k_aload_n hC dX12_formattedByte_21 rfl 0 rfl ?_
    refine k_get hC fd_X12_37 (kl hN (by decide)) hw1 rfl dX12_formattedByte_22 ?_
    refine k_iload_n hC dX12_formattedByte_25 rfl 1 rfl ?_
    have h_3 : w1 143 = iA G 80 ff := (hf1 143 (by decide)).trans h143
    refine k_iald hC (kl hN (by decide)) h_3 (by omega) (by decide) dX12_formattedByte_26 ?_
    refine k_topv (vI (ff i9)) rfl ?_
    refine k_goto hC 31 dX12_formattedByte_27 rfl ?_
    subst hQ
    exact k_iret hC hr ⟨by decide, by decide⟩ (⟨congrArg (fun z => some (vI z)) ((if_pos (by omega)).trans (by rw [Int.toNat_natCast]; exact hg9.symm)), rfl, hw1, fun j hj => hf1 j (by omega)⟩) dX12_formattedByte_31

