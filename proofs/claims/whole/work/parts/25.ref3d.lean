set_option maxRecDepth 100000 in
set_option maxHeartbeats 4000000 in
theorem c_X12_smallestHat (l : Launch) (hls : l.stackTraces = false) (G : kG) (hN : kN G = 150) (w : Nat → va_E) (fl : va_W) (u g : Nat → Int) (T : Int) (hT : -2147483648 ≤ T ∧ T ≤ 2147483647) (hI : Inv g) (hm : w 133 = mdO G u) (hn : w 134 = lA G 93 g) (hSc : kScr G w) : KM l G yX12_smallestHat cX12_smallestHat 8 (some (FieldType.int)) 14 0 0 [.ref (kad G 133), vI T] w fl (kRt (thR ((0 ≤ T ∧ T ≤ 5000)) (leastM g T) (False) 1 (¬ (0 ≤ T ∧ T ≤ 5000)) 1) fl (fun th w1 => mSt G w w1 u th)) := by
  refine KM_of2 hls (by decide +kernel) rfl (lv0 := [(0, .ref (kad G 133)), (1, vI T)]) rfl (Nat.le_of_ble_eq_true rfl) (fun p e R s m args below meth c Q hC hr hQ => ?_)
  obtain ⟨⟨ls, lc, lo, hLs⟩, hx, hy, hHt⟩ := hSc
  have h0 := hI.c
  refine k_aload_n hC dX12_smallestHat_0 rfl 0 rfl ?_
  refine k_iconst hC dX12_smallestHat_1 ?_
  refine k_put hC fd_X12_74 (kl hN (by decide)) hm [.ref (kad G 134), .ref (kad G 135), .ref (kad G 136), .ref (kad G 137), vI (u 4), vI 0, vI (u 6), .ref (kad G 138), .ref (kad G 139), .ref (kad G 140), .ref (kad G 141), .ref (kad G 142), vL (u 12), vL (u 13), .ref (kad G 143), vI (u 15), .ref (kad G 144), vI (u 17), vI (u 18), vI (u 19), vI (u 20), vI (u 21), vI (u 22), vI (u 23), vI (u 24), vI (u 25), .ref (kad G 145), .ref (kad G 146), .ref (kad G 147), vI (u 29)] rfl (Nat.le_of_ble_eq_true rfl) rfl rfl dX12_smallestHat_2 (fun w1 hw1 hf1 => ?_)
  refine k_aload_n hC dX12_smallestHat_5 rfl 0 rfl ?_
  refine k_iload_n hC dX12_smallestHat_6 rfl 1 rfl ?_
  have h_2 : w1 134 = lA G 93 g := (hf1 134 (by decide)).trans hn
  refine k_pureV hC (c_X12_isTime l hls G hN w1 fl (kup u 5 0) g T (by omega) hI hw1 h_2) yy_X12_isTime wm_X12_262 (kl hN (by decide)) hw1 rfl rfl rfl rfl (Nat.le_of_ble_eq_true rfl) (by decide) (by decide) ⟨by decide, by decide⟩ dX12_smallestHat_7 ?_
  obtain ⟨z_3, ez_3, hz_3⟩ := k_bI (0 ≤ T ∧ T ≤ 5000)
  refine k_topv (vI z_3) (by rw [ez_3]) ?_
  refine k_if_ne hC 19 dX12_smallestHat_10 rfl (by omega) (fun c_10 => ?_) (fun c_10 => ?_)
  · refine k_aload_n hC dX12_smallestHat_19 rfl 0 rfl ?_
    refine k_iload_n hC dX12_smallestHat_20 rfl 1 rfl ?_
    refine k_i2l hC dX12_smallestHat_21 (by omega) ?_
    have hB_4 : kLns G w1 ls lc lo := hLs.fr (fun j q1 q2 => (hf1 j (by omega)))
    refine k_muvV hC (c_X12_carryAll l hls G hN w1 fl (kup u 5 0) g ls lc lo T hI (by omega) hw1 h_2 hB_4) yy_X12_carryAll wm_X12_228 (kl hN (by decide)) hw1 rfl rfl rfl rfl (Nat.le_of_ble_eq_true rfl) (by decide) (by decide) ⟨by decide, by decide⟩ dX12_smallestHat_22 (fun w5 hp5 => ?_)
    obtain ⟨⟨ls5, lc5, lo5, hl5, hall5⟩, hf5⟩ := hp5
    have hall := hall5
    refine k_iconst hC dX12_smallestHat_25 ?_
    refine k_istore_n hC [(2, vI (-1)), (0, .ref (kad G 133)), (1, vI T)] dX12_smallestHat_26 rfl (by decide) rfl ?_
    refine k_lconst (x := 0) hC dX12_smallestHat_27 (by decide) ?_
    refine k_lstore_n hC [(3, vL 0), (2, vI (-1)), (0, .ref (kad G 133)), (1, vI T)] dX12_smallestHat_28 rfl (by decide) rfl ?_
    refine k_iconst hC dX12_smallestHat_29 ?_
    refine k_istore hC [(5, vI 0), (3, vL 0), (2, vI (-1)), (0, .ref (kad G 133)), (1, vI T)] dX12_smallestHat_30 (by decide) rfl ?_
    have ht : 0 ≤ T ∧ T ≤ 5000 := by omega
    have loop1 : ∀ (n1 : Nat) (a : Nat) (f : Int) (le : Int) (hxa1 : Nat → Int) (hya1 : Nat → Int) (wv1 : Nat → va_E), ((g 2).toNat < n1 + a) → (a ≤ (g 2).toNat) → ((-1 ≤ f ∧ f ≤ 200000) ∧ (0 ≤ le ∧ le ≤ 400000000)) → ((f, le) = lh1 g T (g 2).toNat a (-1, 0)) → (wv1 133 = .inr (12, [.ref (kad G 134), .ref (kad G 135), .ref (kad G 136), .ref (kad G 137), vI (u 4), vI 0, vI (u 6), .ref (kad G 138), .ref (kad G 139), .ref (kad G 140), .ref (kad G 141), .ref (kad G 142), vL (u 12), vL (u 13), .ref (kad G 143), vI (u 15), .ref (kad G 144), vI (u 17), vI (u 18), vI (u 19), vI (u 20), vI (u 21), vI (u 22), vI (u 23), vI (u 24), vI (u 25), .ref (kad G 145), .ref (kad G 146), .ref (kad G 147), vI (u 29)])) → (wv1 134 = lA G 93 g) → (kLns G wv1 ls5 lc5 lo5) → (kHts G wv1 hxa1 hya1) → ((∀ j, (j ≠ 133 ∧ (j < 138 ∨ 142 < j)) → wv1 j = w j)) → KW p l e R s m args below meth c 8 G Q wv1 fl 0 0 32 [(5, vI (a : Int)), (3, vL le), (2, vI f), (0, .ref (kad G 133)), (1, vI T)] [] := by
      intro n1
      induction n1 with
      | zero =>
        intro a f le hxa1 hya1 wv1 hn_1 ha hst hq hm1 hn1 hLs1 hHt1 hfr1
        exact absurd hn_1 (by omega)
      | succ n1 ih1 =>
        intro a f le hxa1 hya1 wv1 hn_1 ha hst hq hm1 hn1 hLs1 hHt1 hfr1
        refine k_iload hC dX12_smallestHat_32 0 rfl ?_
        refine k_i2l hC dX12_smallestHat_34 (by omega) ?_
        refine k_aload_n hC dX12_smallestHat_35 rfl 3 rfl ?_
        refine k_get hC fd_X12_9 (kl hN (by decide)) hm1 rfl dX12_smallestHat_36 ?_
        refine k_iconst hC dX12_smallestHat_39 ?_
        refine k_lald hC (kl hN (by decide)) hn1 (by omega) (by decide) dX12_smallestHat_40 ?_
        refine k_topv (vL (g 2)) rfl ?_
        refine k_lcmp_ge hC 149 dX12_smallestHat_41 dX12_smallestHat_42 rfl (by omega) (by omega) (fun c_41 => ?_) (fun c_41 => ?_)
        · refine k_iload_n hC dX12_smallestHat_149 rfl 2 rfl ?_
          subst hQ
          exact k_iret hC hr ⟨by decide, by decide⟩ (⟨_, 0, rfl, rfl, Or.inl ⟨by omega, rfl, (show ((f : Int) = leastM g T) from (by unfold leastM; rw [show (lh1 g T (g 2).toNat (g 2).toNat (-1, 0)) = (f, le) from by rw [hq, show a = (g 2).toNat by omega]]))⟩, ⟨⟨u 12, u 13, hm1⟩, ⟨⟨_, _, _, hLs1⟩, _, _, hHt1⟩, fun j hj => hfr1 j (by omega)⟩⟩) dX12_smallestHat_150
        · refine k_iload hC dX12_smallestHat_45 0 rfl ?_
          refine k_iconst hC dX12_smallestHat_47 ?_
          refine k_iadd hC dX12_smallestHat_48 ?_
          refine k_istore hC [(6, vI ((a : Int) + 1)), (5, vI (a : Int)), (3, vL le), (2, vI f), (0, .ref (kad G 133)), (1, vI T)] dX12_smallestHat_49 (by decide) rfl ?_
          have loop2 : ∀ (n2 : Nat) (b : Nat) (f2 : Int) (le2 : Int) (hxa2 : Nat → Int) (hya2 : Nat → Int) (wv2 : Nat → va_E), ((g 2).toNat < n2 + (a + 1 + b)) → (a + 1 + b ≤ (g 2).toNat) → ((-1 ≤ f2 ∧ f2 ≤ 200000) ∧ (0 ≤ le2 ∧ le2 ≤ 400000000)) → ((f2, le2) = lh2 g T (g 2).toNat a (a + 1) b (f, le)) → (wv2 133 = .inr (12, [.ref (kad G 134), .ref (kad G 135), .ref (kad G 136), .ref (kad G 137), vI (u 4), vI 0, vI (u 6), .ref (kad G 138), .ref (kad G 139), .ref (kad G 140), .ref (kad G 141), .ref (kad G 142), vL (u 12), vL (u 13), .ref (kad G 143), vI (u 15), .ref (kad G 144), vI (u 17), vI (u 18), vI (u 19), vI (u 20), vI (u 21), vI (u 22), vI (u 23), vI (u 24), vI (u 25), .ref (kad G 145), .ref (kad G 146), .ref (kad G 147), vI (u 29)])) → (wv2 134 = lA G 93 g) → (kLns G wv2 ls5 lc5 lo5) → (kHts G wv2 hxa2 hya2) → ((∀ j, (j ≠ 133 ∧ (j < 138 ∨ 142 < j)) → wv2 j = w j)) → KW p l e R s m args below meth c 8 G Q wv2 fl 0 0 51 [(6, vI ((a + 1 + b : Nat) : Int)), (5, vI (a : Int)), (3, vL le2), (2, vI f2), (0, .ref (kad G 133)), (1, vI T)] [] := by
            intro n2
            induction n2 with
            | zero =>
              intro b f2 le2 hxa2 hya2 wv2 hn_2 hb hst2 hq2 hm2 hn2 hLs2 hHt2 hfr2
              exact absurd hn_2 (by omega)
            | succ n2 ih2 =>
              intro b f2 le2 hxa2 hya2 wv2 hn_2 hb hst2 hq2 hm2 hn2 hLs2 hHt2 hfr2
              refine k_iload hC dX12_smallestHat_51 0 rfl ?_
              refine k_i2l hC dX12_smallestHat_53 (by omega) ?_
              refine k_aload_n hC dX12_smallestHat_54 rfl 4 rfl ?_
              refine k_get hC fd_X12_9 (kl hN (by decide)) hm2 rfl dX12_smallestHat_55 ?_
              refine k_iconst hC dX12_smallestHat_58 ?_
              refine k_lald hC (kl hN (by decide)) hn2 (by omega) (by decide) dX12_smallestHat_59 ?_
              refine k_topv (vL (g 2)) rfl ?_
              refine k_lcmp_ge hC 143 dX12_smallestHat_60 dX12_smallestHat_61 rfl (by omega) (by omega) (fun c_60 => ?_) (fun c_60 => ?_)
              · refine k_iinc hC (y := (a : Int) + 1) [(5, vI ((a : Int) + 1)), (6, vI ((a + 1 + b : Nat) : Int)), (3, vL le2), (2, vI f2), (0, .ref (kad G 133)), (1, vI T)] (j := 1) dX12_smallestHat_143 rfl (by omega) (by decide) rfl ?_
                refine k_goto hC 32 dX12_smallestHat_146 rfl ?_
                refine k_lvs (ls := [0, 2, 3, 4, 5]) [(5, vI ((a : Int) + 1)), (3, vL le2), (2, vI f2), (0, .ref (kad G 133)), (1, vI T)] rfl ?_
                refine k_lvs (ls := [0, 1, 2, 3, 4]) [(5, vI ((a + 1 : Nat) : Int)), (3, vL le2), (2, vI f2), (0, .ref (kad G 133)), (1, vI T)] (by simp only [lv_pick]; rfl) ?_
                exact ih1 (a + 1) f2 le2 hxa2 hya2 wv2 (by omega) (by omega) (by omega) (by show _ = lh2 g T (g 2).toNat a (a + 1) ((g 2).toNat - (a + 1)) _; rw [← hq, show (g 2).toNat - (a + 1) = b by omega]; exact hq2) hm2 hn2 hLs2 hHt2 (fun j hj => hfr2 j (by omega))
              · refine k_iload hC dX12_smallestHat_64 0 rfl ?_
                refine k_iconst hC dX12_smallestHat_66 ?_
                refine k_iadd hC dX12_smallestHat_67 ?_
                refine k_istore hC [(7, vI (((a + 1 + b : Nat) : Int) + 1)), (6, vI ((a + 1 + b : Nat) : Int)), (5, vI (a : Int)), (3, vL le2), (2, vI f2), (0, .ref (kad G 133)), (1, vI T)] dX12_smallestHat_68 (by decide) rfl ?_
                have loop3 : ∀ (n3 : Nat) (d : Nat) (f3 : Int) (le3 : Int) (hxa3 : Nat → Int) (hya3 : Nat → Int) (wv3 : Nat → va_E), ((g 2).toNat < n3 + (a + 1 + b + 1 + d)) → (a + 1 + b + 1 + d ≤ (g 2).toNat) → ((-1 ≤ f3 ∧ f3 ≤ 200000) ∧ (0 ≤ le3 ∧ le3 ≤ 400000000)) → ((f3, le3) = lh3 g T a (a + 1 + b) (a + 1 + b + 1) d (f2, le2)) → (wv3 133 = .inr (12, [.ref (kad G 134), .ref (kad G 135), .ref (kad G 136), .ref (kad G 137), vI (u 4), vI 0, vI (u 6), .ref (kad G 138), .ref (kad G 139), .ref (kad G 140), .ref (kad G 141), .ref (kad G 142), vL (u 12), vL (u 13), .ref (kad G 143), vI (u 15), .ref (kad G 144), vI (u 17), vI (u 18), vI (u 19), vI (u 20), vI (u 21), vI (u 22), vI (u 23), vI (u 24), vI (u 25), .ref (kad G 145), .ref (kad G 146), .ref (kad G 147), vI (u 29)])) → (wv3 134 = lA G 93 g) → (kLns G wv3 ls5 lc5 lo5) → (kHts G wv3 hxa3 hya3) → ((∀ j, (j ≠ 133 ∧ (j < 138 ∨ 142 < j)) → wv3 j = w j)) → KW p l e R s m args below meth c 8 G Q wv3 fl 0 0 70 [(7, vI ((a + 1 + b + 1 + d : Nat) : Int)), (6, vI ((a + 1 + b : Nat) : Int)), (5, vI (a : Int)), (3, vL le3), (2, vI f3), (0, .ref (kad G 133)), (1, vI T)] [] := by
                  intro n3
                  induction n3 with
                  | zero =>
                    intro d f3 le3 hxa3 hya3 wv3 hn_3 hd hst3 hq3 hm3 hn3 hLs3 hHt3 hfr3
                    exact absurd hn_3 (by omega)
                  | succ n3 ih3 =>
                    intro d f3 le3 hxa3 hya3 wv3 hn_3 hd hst3 hq3 hm3 hn3 hLs3 hHt3 hfr3
                    refine k_iload hC dX12_smallestHat_70 0 rfl ?_
                    refine k_i2l hC dX12_smallestHat_72 (by omega) ?_
                    refine k_aload_n hC dX12_smallestHat_73 rfl 5 rfl ?_
                    refine k_get hC fd_X12_9 (kl hN (by decide)) hm3 rfl dX12_smallestHat_74 ?_
                    refine k_iconst hC dX12_smallestHat_77 ?_
                    refine k_lald hC (kl hN (by decide)) hn3 (by omega) (by decide) dX12_smallestHat_78 ?_
                    refine k_topv (vL (g 2)) rfl ?_
                    refine k_lcmp_ge hC 137 dX12_smallestHat_79 dX12_smallestHat_80 rfl (by omega) (by omega) (fun c_79 => ?_) (fun c_79 => ?_)
                    · refine k_iinc hC (y := ((a + 1 + b : Nat) : Int) + 1) [(6, vI (((a + 1 + b : Nat) : Int) + 1)), (7, vI ((a + 1 + b + 1 + d : Nat) : Int)), (5, vI (a : Int)), (3, vL le3), (2, vI f3), (0, .ref (kad G 133)), (1, vI T)] (j := 1) dX12_smallestHat_137 rfl (by omega) (by decide) rfl ?_
                      refine k_goto hC 51 dX12_smallestHat_140 rfl ?_
                      refine k_lvs (ls := [0, 2, 3, 4, 5, 6]) [(6, vI (((a + 1 + b : Nat) : Int) + 1)), (5, vI (a : Int)), (3, vL le3), (2, vI f3), (0, .ref (kad G 133)), (1, vI T)] rfl ?_
                      refine k_lvs (ls := [0, 1, 2, 3, 4, 5]) [(6, vI ((a + 1 + (b + 1) : Nat) : Int)), (5, vI (a : Int)), (3, vL le3), (2, vI f3), (0, .ref (kad G 133)), (1, vI T)] (by simp only [lv_pick]; rfl) ?_
                      exact ih2 (b + 1) f3 le3 hxa3 hya3 wv3 (by omega) (by omega) (by omega) (by show _ = lh3 g T a (a + 1 + b) (a + 1 + b + 1) ((g 2).toNat - (a + 1 + b + 1)) _; rw [← hq2, show (g 2).toNat - (a + 1 + b + 1) = d by omega]; exact hq3) hm3 hn3 hLs3 hHt3 (fun j hj => hfr3 j (by omega))
                    · refine k_aload_n hC dX12_smallestHat_83 rfl 5 rfl ?_
                      refine k_iload hC dX12_smallestHat_84 2 rfl ?_
                      refine k_iload hC dX12_smallestHat_86 1 rfl ?_
                      refine k_iload hC dX12_smallestHat_88 0 rfl ?_
                      refine k_mutV hC (c_X12_layHat l hls G hN wv3 fl (kup u 5 0) g ls5 lc5 lo5 hxa3 hya3 a (a + 1 + b) (a + 1 + b + 1 + d) T (by omega) (by omega) (by omega) (hall a (by omega)) (hall (a + 1 + b) (by omega)) (hall (a + 1 + b + 1 + d) (by omega)) ht hI hm3 hn3 hLs3 hHt3) yy_X12_layHat wm_X12_269 (kl hN (by decide)) hm3 rfl rfl rfl rfl (Nat.le_of_ble_eq_true rfl) (by decide) (by decide) ⟨by decide, by decide⟩ dX12_smallestHat_90 (fun w6 hp6 => ?_)
                      obtain ⟨⟨hx6, hy6, hh6, hxy6⟩, hf6⟩ := hp6
                      obtain ⟨z6, ez6, hz6⟩ := selI_c (hatP g a (a + 1 + b) (a + 1 + b + 1 + d))
                      refine k_topv (vI z6) (by rw [ez6]) ?_
                      refine k_if_eq hC 131 dX12_smallestHat_93 rfl (by omega) (fun c_93 => ?_) (fun c_93 => ?_)
                      · have nok : ¬ hatP g a (a + 1 + b) (a + 1 + b + 1 + d) := (hz6.resolve_left (fun q1 => by omega)).2
                        refine k_iinc hC (y := ((a + 1 + b + 1 + d : Nat) : Int) + 1) [(7, vI (((a + 1 + b + 1 + d : Nat) : Int) + 1)), (6, vI ((a + 1 + b : Nat) : Int)), (5, vI (a : Int)), (3, vL le3), (2, vI f3), (0, .ref (kad G 133)), (1, vI T)] (j := 0) dX12_smallestHat_131 rfl (by omega) (by decide) rfl ?_
                        refine k_goto hC 70 dX12_smallestHat_134 rfl ?_
                        refine k_lvs (ls := [0, 1, 2, 3, 4, 5, 6]) [(7, vI ((a + 1 + b + 1 + (d + 1) : Nat) : Int)), (6, vI ((a + 1 + b : Nat) : Int)), (5, vI (a : Int)), (3, vL le3), (2, vI f3), (0, .ref (kad G 133)), (1, vI T)] (by simp only [lv_pick]; rfl) ?_
                        have h_7 : w6 133 = .inr (12, [.ref (kad G 134), .ref (kad G 135), .ref (kad G 136), .ref (kad G 137), vI (u 4), vI 0, vI (u 6), .ref (kad G 138), .ref (kad G 139), .ref (kad G 140), .ref (kad G 141), .ref (kad G 142), vL (u 12), vL (u 13), .ref (kad G 143), vI (u 15), .ref (kad G 144), vI (u 17), vI (u 18), vI (u 19), vI (u 20), vI (u 21), vI (u 22), vI (u 23), vI (u 24), vI (u 25), .ref (kad G 145), .ref (kad G 146), .ref (kad G 147), vI (u 29)]) := (hf6 133 (by omega)).trans hm3
                        have h_8 : w6 134 = lA G 93 g := (hf6 134 (by omega)).trans hn3
                        have hB_9 : kLns G w6 ls5 lc5 lo5 := hLs3.fr (fun j q1 q2 => (hf6 j (by omega)))
                        exact ih3 (d + 1) f3 le3 hx6 hy6 w6 (by omega) (by omega) (by omega) (by show _ = lhS g T a (a + 1 + b) (a + 1 + b + 1 + d) _; rw [← hq3]; unfold lhS; rw [if_neg (fun q => by first | exact nok q.1 | (have q2 := q.2; have q3 : (f3, le3).1 = f3 := rfl; have q4 : (f3, le3).2 = le3 := rfl; rw [q3, q4] at q2; omega))]) h_7 h_8 hB_9 hh6 (fun j hj => (hf6 j (by omega)).trans (hfr3 j (by omega)))
                      · have hok : hatP g a (a + 1 + b) (a + 1 + b + 1 + d) := (hz6.resolve_right (fun q1 => by omega)).2
                        have hhx_10 : kHts G w6 (htX g a (a + 1 + b) (a + 1 + b + 1 + d) T) (htY g a (a + 1 + b) (a + 1 + b + 1 + d) T) := by have q := hh6; rw [(hxy6 hok).1, (hxy6 hok).2] at q; exact q
                        have hcE_11 := cE_b g a (a + 1 + b) T
                        have hcN_12 := cN_b g a (a + 1 + b) T
                        have hcE_13 := cE_b g a (a + 1 + b + 1 + d) T
                        have hcN_14 := cN_b g a (a + 1 + b + 1 + d) T
                        have hcE_15 := cE_b g (a + 1 + b) (a + 1 + b + 1 + d) T
                        have hcN_16 := cN_b g (a + 1 + b) (a + 1 + b + 1 + d) T
                        have hha := hatA_b g a (a + 1 + b) (a + 1 + b + 1 + d) T
                        refine k_iload_n hC dX12_smallestHat_96 rfl 4 rfl ?_
                        refine k_iconst hC dX12_smallestHat_97 ?_
                        refine k_icmp_eq hC 110 dX12_smallestHat_98 rfl (by omega) (by omega) (fun c_98 => ?_) (fun c_98 => ?_)
                        · refine k_sipush hC dX12_smallestHat_110 (by decide) ?_
                          refine k_iload hC dX12_smallestHat_113 2 rfl ?_
                          refine k_imul hC dX12_smallestHat_115 ?_
                          refine k_bipush hC dX12_smallestHat_116 (by decide) ?_
                          refine k_iload hC dX12_smallestHat_118 1 rfl ?_
                          refine k_imul hC dX12_smallestHat_120 ?_
                          refine k_iadd hC dX12_smallestHat_121 ?_
                          refine k_iload hC dX12_smallestHat_122 0 rfl ?_
                          refine k_iadd hC dX12_smallestHat_124 ?_
                          refine k_istore_n hC [(2, vI (((10000 * (a : Int)) + (100 * ((a + 1 + b : Nat) : Int))) + ((a + 1 + b + 1 + d : Nat) : Int))), (7, vI ((a + 1 + b + 1 + d : Nat) : Int)), (6, vI ((a + 1 + b : Nat) : Int)), (5, vI (a : Int)), (3, vL le3), (0, .ref (kad G 133)), (1, vI T)] dX12_smallestHat_125 rfl (by decide) rfl ?_
                          refine k_aload_n hC dX12_smallestHat_126 rfl 5 rfl ?_
                          have h_17 : w6 133 = .inr (12, [.ref (kad G 134), .ref (kad G 135), .ref (kad G 136), .ref (kad G 137), vI (u 4), vI 0, vI (u 6), .ref (kad G 138), .ref (kad G 139), .ref (kad G 140), .ref (kad G 141), .ref (kad G 142), vL (u 12), vL (u 13), .ref (kad G 143), vI (u 15), .ref (kad G 144), vI (u 17), vI (u 18), vI (u 19), vI (u 20), vI (u 21), vI (u 22), vI (u 23), vI (u 24), vI (u 25), .ref (kad G 145), .ref (kad G 146), .ref (kad G 147), vI (u 29)]) := (hf6 133 (by omega)).trans hm3
                          refine k_pureV hC (c_X12_hatArea l hls G hN w6 fl (kup u 5 0) (cE g a (a + 1 + b) T) (cN g a (a + 1 + b) T) (cE g a (a + 1 + b + 1 + d) T) (cN g a (a + 1 + b + 1 + d) T) (cE g (a + 1 + b) (a + 1 + b + 1 + d) T) (cN g (a + 1 + b) (a + 1 + b + 1 + d) T) (by omega) (by omega) (by omega) (by omega) (by omega) (by omega) h_17 hhx_10) yy_X12_hatArea wm_X12_282 (kl hN (by decide)) h_17 rfl rfl rfl rfl (Nat.le_of_ble_eq_true rfl) (by decide) (by decide) ⟨by decide, by decide⟩ dX12_smallestHat_127 ?_
                          refine k_topv (vL (hatA g a (a + 1 + b) (a + 1 + b + 1 + d) T)) rfl ?_
                          refine k_lstore_n hC [(3, vL (hatA g a (a + 1 + b) (a + 1 + b + 1 + d) T)), (2, vI (((10000 * (a : Int)) + (100 * ((a + 1 + b : Nat) : Int))) + ((a + 1 + b + 1 + d : Nat) : Int))), (7, vI ((a + 1 + b + 1 + d : Nat) : Int)), (6, vI ((a + 1 + b : Nat) : Int)), (5, vI (a : Int)), (0, .ref (kad G 133)), (1, vI T)] dX12_smallestHat_130 rfl (by decide) rfl ?_
                          refine k_iinc hC (y := ((a + 1 + b + 1 + d : Nat) : Int) + 1) [(7, vI (((a + 1 + b + 1 + d : Nat) : Int) + 1)), (3, vL (hatA g a (a + 1 + b) (a + 1 + b + 1 + d) T)), (2, vI (((10000 * (a : Int)) + (100 * ((a + 1 + b : Nat) : Int))) + ((a + 1 + b + 1 + d : Nat) : Int))), (6, vI ((a + 1 + b : Nat) : Int)), (5, vI (a : Int)), (0, .ref (kad G 133)), (1, vI T)] (j := 2) dX12_smallestHat_131 rfl (by omega) (by decide) rfl ?_
                          refine k_goto hC 70 dX12_smallestHat_134 rfl ?_
                          refine k_lvs (ls := [0, 3, 4, 1, 2, 5, 6]) [(7, vI (((a + 1 + b + 1 + d : Nat) : Int) + 1)), (6, vI ((a + 1 + b : Nat) : Int)), (5, vI (a : Int)), (3, vL (hatA g a (a + 1 + b) (a + 1 + b + 1 + d) T)), (2, vI (((10000 * (a : Int)) + (100 * ((a + 1 + b : Nat) : Int))) + ((a + 1 + b + 1 + d : Nat) : Int))), (0, .ref (kad G 133)), (1, vI T)] rfl ?_
                          refine k_lvs (ls := [0, 1, 2, 3, 4, 5, 6]) [(7, vI ((a + 1 + b + 1 + (d + 1) : Nat) : Int)), (6, vI ((a + 1 + b : Nat) : Int)), (5, vI (a : Int)), (3, vL (hatA g a (a + 1 + b) (a + 1 + b + 1 + d) T)), (2, vI (((10000 * (a : Int)) + (100 * ((a + 1 + b : Nat) : Int))) + ((a + 1 + b + 1 + d : Nat) : Int))), (0, .ref (kad G 133)), (1, vI T)] (by simp only [lv_pick]; rfl) ?_
                          have h_18 : w6 134 = lA G 93 g := (hf6 134 (by omega)).trans hn3
                          have hB_19 : kLns G w6 ls5 lc5 lo5 := hLs3.fr (fun j q1 q2 => (hf6 j (by omega)))
                          exact ih3 (d + 1) (((10000 * (a : Int)) + (100 * ((a + 1 + b : Nat) : Int))) + ((a + 1 + b + 1 + d : Nat) : Int)) (hatA g a (a + 1 + b) (a + 1 + b + 1 + d) T) (htX g a (a + 1 + b) (a + 1 + b + 1 + d) T) (htY g a (a + 1 + b) (a + 1 + b + 1 + d) T) w6 (by omega) (by omega) (by omega) (by show _ = lhS g T a (a + 1 + b) (a + 1 + b + 1 + d) _; rw [← hq3]; unfold lhS; rw [if_pos ⟨hok, (by show f3 = -1 ∨ hatA g a (a + 1 + b) (a + 1 + b + 1 + d) T < le3; omega)⟩] <;> rfl) h_17 h_18 hB_19 hhx_10 (fun j hj => (hf6 j (by omega)).trans (hfr3 j (by omega)))
                        · refine k_aload_n hC dX12_smallestHat_101 rfl 5 rfl ?_
                          have h_20 : w6 133 = .inr (12, [.ref (kad G 134), .ref (kad G 135), .ref (kad G 136), .ref (kad G 137), vI (u 4), vI 0, vI (u 6), .ref (kad G 138), .ref (kad G 139), .ref (kad G 140), .ref (kad G 141), .ref (kad G 142), vL (u 12), vL (u 13), .ref (kad G 143), vI (u 15), .ref (kad G 144), vI (u 17), vI (u 18), vI (u 19), vI (u 20), vI (u 21), vI (u 22), vI (u 23), vI (u 24), vI (u 25), .ref (kad G 145), .ref (kad G 146), .ref (kad G 147), vI (u 29)]) := (hf6 133 (by omega)).trans hm3
                          refine k_pureV hC (c_X12_hatArea l hls G hN w6 fl (kup u 5 0) (cE g a (a + 1 + b) T) (cN g a (a + 1 + b) T) (cE g a (a + 1 + b + 1 + d) T) (cN g a (a + 1 + b + 1 + d) T) (cE g (a + 1 + b) (a + 1 + b + 1 + d) T) (cN g (a + 1 + b) (a + 1 + b + 1 + d) T) (by omega) (by omega) (by omega) (by omega) (by omega) (by omega) h_20 hhx_10) yy_X12_hatArea wm_X12_282 (kl hN (by decide)) h_20 rfl rfl rfl rfl (Nat.le_of_ble_eq_true rfl) (by decide) (by decide) ⟨by decide, by decide⟩ dX12_smallestHat_102 ?_
                          refine k_topv (vL (hatA g a (a + 1 + b) (a + 1 + b + 1 + d) T)) rfl ?_
                          refine k_lload_n hC dX12_smallestHat_105 rfl 3 rfl ?_
                          refine k_lcmp_ge hC 131 dX12_smallestHat_106 dX12_smallestHat_107 rfl (by omega) (by omega) (fun c_106 => ?_) (fun c_106 => ?_)
                          · refine k_iinc hC (y := ((a + 1 + b + 1 + d : Nat) : Int) + 1) [(7, vI (((a + 1 + b + 1 + d : Nat) : Int) + 1)), (6, vI ((a + 1 + b : Nat) : Int)), (5, vI (a : Int)), (3, vL le3), (2, vI f3), (0, .ref (kad G 133)), (1, vI T)] (j := 0) dX12_smallestHat_131 rfl (by omega) (by decide) rfl ?_
                            refine k_goto hC 70 dX12_smallestHat_134 rfl ?_
                            refine k_lvs (ls := [0, 1, 2, 3, 4, 5, 6]) [(7, vI ((a + 1 + b + 1 + (d + 1) : Nat) : Int)), (6, vI ((a + 1 + b : Nat) : Int)), (5, vI (a : Int)), (3, vL le3), (2, vI f3), (0, .ref (kad G 133)), (1, vI T)] (by simp only [lv_pick]; rfl) ?_
                            have h_21 : w6 134 = lA G 93 g := (hf6 134 (by omega)).trans hn3
                            have hB_22 : kLns G w6 ls5 lc5 lo5 := hLs3.fr (fun j q1 q2 => (hf6 j (by omega)))
                            exact ih3 (d + 1) f3 le3 (htX g a (a + 1 + b) (a + 1 + b + 1 + d) T) (htY g a (a + 1 + b) (a + 1 + b + 1 + d) T) w6 (by omega) (by omega) (by omega) (by show _ = lhS g T a (a + 1 + b) (a + 1 + b + 1 + d) _; rw [← hq3]; unfold lhS; rw [if_neg (fun q => by first | exact nok q.1 | (have q2 := q.2; have q3 : (f3, le3).1 = f3 := rfl; have q4 : (f3, le3).2 = le3 := rfl; rw [q3, q4] at q2; omega))]) h_20 h_21 hB_22 hhx_10 (fun j hj => (hf6 j (by omega)).trans (hfr3 j (by omega)))
                          · refine k_sipush hC dX12_smallestHat_110 (by decide) ?_
                            refine k_iload hC dX12_smallestHat_113 2 rfl ?_
                            refine k_imul hC dX12_smallestHat_115 ?_
                            refine k_bipush hC dX12_smallestHat_116 (by decide) ?_
                            refine k_iload hC dX12_smallestHat_118 1 rfl ?_
                            refine k_imul hC dX12_smallestHat_120 ?_
                            refine k_iadd hC dX12_smallestHat_121 ?_
                            refine k_iload hC dX12_smallestHat_122 0 rfl ?_
                            refine k_iadd hC dX12_smallestHat_124 ?_
                            refine k_istore_n hC [(2, vI (((10000 * (a : Int)) + (100 * ((a + 1 + b : Nat) : Int))) + ((a + 1 + b + 1 + d : Nat) : Int))), (7, vI ((a + 1 + b + 1 + d : Nat) : Int)), (6, vI ((a + 1 + b : Nat) : Int)), (5, vI (a : Int)), (3, vL le3), (0, .ref (kad G 133)), (1, vI T)] dX12_smallestHat_125 rfl (by decide) rfl ?_
                            refine k_aload_n hC dX12_smallestHat_126 rfl 5 rfl ?_
                            refine k_pureV hC (c_X12_hatArea l hls G hN w6 fl (kup u 5 0) (cE g a (a + 1 + b) T) (cN g a (a + 1 + b) T) (cE g a (a + 1 + b + 1 + d) T) (cN g a (a + 1 + b + 1 + d) T) (cE g (a + 1 + b) (a + 1 + b + 1 + d) T) (cN g (a + 1 + b) (a + 1 + b + 1 + d) T) (by omega) (by omega) (by omega) (by omega) (by omega) (by omega) h_20 hhx_10) yy_X12_hatArea wm_X12_282 (kl hN (by decide)) h_20 rfl rfl rfl rfl (Nat.le_of_ble_eq_true rfl) (by decide) (by decide) ⟨by decide, by decide⟩ dX12_smallestHat_127 ?_
                            refine k_topv (vL (hatA g a (a + 1 + b) (a + 1 + b + 1 + d) T)) rfl ?_
                            refine k_lstore_n hC [(3, vL (hatA g a (a + 1 + b) (a + 1 + b + 1 + d) T)), (2, vI (((10000 * (a : Int)) + (100 * ((a + 1 + b : Nat) : Int))) + ((a + 1 + b + 1 + d : Nat) : Int))), (7, vI ((a + 1 + b + 1 + d : Nat) : Int)), (6, vI ((a + 1 + b : Nat) : Int)), (5, vI (a : Int)), (0, .ref (kad G 133)), (1, vI T)] dX12_smallestHat_130 rfl (by decide) rfl ?_
                            refine k_iinc hC (y := ((a + 1 + b + 1 + d : Nat) : Int) + 1) [(7, vI (((a + 1 + b + 1 + d : Nat) : Int) + 1)), (3, vL (hatA g a (a + 1 + b) (a + 1 + b + 1 + d) T)), (2, vI (((10000 * (a : Int)) + (100 * ((a + 1 + b : Nat) : Int))) + ((a + 1 + b + 1 + d : Nat) : Int))), (6, vI ((a + 1 + b : Nat) : Int)), (5, vI (a : Int)), (0, .ref (kad G 133)), (1, vI T)] (j := 2) dX12_smallestHat_131 rfl (by omega) (by decide) rfl ?_
                            refine k_goto hC 70 dX12_smallestHat_134 rfl ?_
                            refine k_lvs (ls := [0, 3, 4, 1, 2, 5, 6]) [(7, vI (((a + 1 + b + 1 + d : Nat) : Int) + 1)), (6, vI ((a + 1 + b : Nat) : Int)), (5, vI (a : Int)), (3, vL (hatA g a (a + 1 + b) (a + 1 + b + 1 + d) T)), (2, vI (((10000 * (a : Int)) + (100 * ((a + 1 + b : Nat) : Int))) + ((a + 1 + b + 1 + d : Nat) : Int))), (0, .ref (kad G 133)), (1, vI T)] rfl ?_
                            refine k_lvs (ls := [0, 1, 2, 3, 4, 5, 6]) [(7, vI ((a + 1 + b + 1 + (d + 1) : Nat) : Int)), (6, vI ((a + 1 + b : Nat) : Int)), (5, vI (a : Int)), (3, vL (hatA g a (a + 1 + b) (a + 1 + b + 1 + d) T)), (2, vI (((10000 * (a : Int)) + (100 * ((a + 1 + b : Nat) : Int))) + ((a + 1 + b + 1 + d : Nat) : Int))), (0, .ref (kad G 133)), (1, vI T)] (by simp only [lv_pick]; rfl) ?_
                            have h_23 : w6 134 = lA G 93 g := (hf6 134 (by omega)).trans hn3
                            have hB_24 : kLns G w6 ls5 lc5 lo5 := hLs3.fr (fun j q1 q2 => (hf6 j (by omega)))
                            exact ih3 (d + 1) (((10000 * (a : Int)) + (100 * ((a + 1 + b : Nat) : Int))) + ((a + 1 + b + 1 + d : Nat) : Int)) (hatA g a (a + 1 + b) (a + 1 + b + 1 + d) T) (htX g a (a + 1 + b) (a + 1 + b + 1 + d) T) (htY g a (a + 1 + b) (a + 1 + b + 1 + d) T) w6 (by omega) (by omega) (by omega) (by show _ = lhS g T a (a + 1 + b) (a + 1 + b + 1 + d) _; rw [← hq3]; unfold lhS; rw [if_pos ⟨hok, (by show f3 = -1 ∨ hatA g a (a + 1 + b) (a + 1 + b + 1 + d) T < le3; omega)⟩] <;> rfl) h_20 h_23 hB_24 hhx_10 (fun j hj => (hf6 j (by omega)).trans (hfr3 j (by omega)))
                refine k_lvs (ls := [0, 1, 2, 3, 4, 5, 6]) [(7, vI ((a + 1 + b + 1 + 0 : Nat) : Int)), (6, vI ((a + 1 + b : Nat) : Int)), (5, vI (a : Int)), (3, vL le2), (2, vI f2), (0, .ref (kad G 133)), (1, vI T)] (by simp only [lv_pick]; rfl) ?_
                exact loop3 ((g 2).toNat + 1) 0 f2 le2 hxa2 hya2 wv2 (by omega) (by omega) hst2 rfl hm2 hn2 hLs2 hHt2 (fun j hj => hfr2 j (by omega))
          refine k_lvs (ls := [0, 1, 2, 3, 4, 5]) [(6, vI ((a + 1 + 0 : Nat) : Int)), (5, vI (a : Int)), (3, vL le), (2, vI f), (0, .ref (kad G 133)), (1, vI T)] (by simp only [lv_pick]; rfl) ?_
          exact loop2 ((g 2).toNat + 1) 0 f le hxa1 hya1 wv1 (by omega) (by omega) hst rfl hm1 hn1 hLs1 hHt1 (fun j hj => hfr1 j (by omega))
    refine k_lvs (ls := [0, 1, 2, 3, 4]) [(5, vI ((0 : Nat) : Int)), (3, vL 0), (2, vI (-1)), (0, .ref (kad G 133)), (1, vI T)] (by simp only [lv_pick]; rfl) ?_
    have h_25 : w5 133 = .inr (12, [.ref (kad G 134), .ref (kad G 135), .ref (kad G 136), .ref (kad G 137), vI (u 4), vI 0, vI (u 6), .ref (kad G 138), .ref (kad G 139), .ref (kad G 140), .ref (kad G 141), .ref (kad G 142), vL (u 12), vL (u 13), .ref (kad G 143), vI (u 15), .ref (kad G 144), vI (u 17), vI (u 18), vI (u 19), vI (u 20), vI (u 21), vI (u 22), vI (u 23), vI (u 24), vI (u 25), .ref (kad G 145), .ref (kad G 146), .ref (kad G 147), vI (u 29)]) := (hf5 133 (by omega)).trans hw1
    have h_26 : w5 134 = lA G 93 g := (hf5 134 (by omega)).trans h_2
    have hB_27 : kHts G w5 hx hy := hHt.fr (fun j q1 q2 => (hf5 j (by omega)).trans (hf1 j (by omega)))
    exact loop1 ((g 2).toNat + 1) 0 (-1) 0 hx hy w5 (by omega) (by omega) (by omega) rfl h_25 h_26 hl5 hB_27 (fun j hj => (hf5 j (by omega)).trans (hf1 j (by omega)))
  · refine k_aload_n hC dX12_smallestHat_13 rfl 0 rfl ?_
    refine k_iconst hC dX12_smallestHat_14 ?_
    refine k_mutV hC (c_X12_raise l hls G hN w1 fl (kup u 5 0) 1 hw1) yy_X12_raise wm_X12_247 (kl hN (by decide)) hw1 rfl rfl rfl rfl (Nat.le_of_ble_eq_true rfl) (by decide) (by decide) ⟨by decide, by decide⟩ dX12_smallestHat_15 (fun w28 hp28 => ?_)
    obtain ⟨hu28, hf28⟩ := hp28
    have hB_29 : kLns G w28 ls lc lo := hLs.fr (fun j q1 q2 => (hf28 j (by omega)).trans (hf1 j (by omega)))
    have hB_30 : kHts G w28 hx hy := hHt.fr (fun j q1 q2 => (hf28 j (by omega)).trans (hf1 j (by omega)))
    subst hQ
    exact k_iret hC hr ⟨by decide, by decide⟩ (⟨_, 1, rfl, rfl, Or.inr (Or.inr ⟨by omega, rfl⟩), ⟨⟨u 12, u 13, hu28⟩, ⟨⟨_, _, _, hB_29⟩, _, _, hB_30⟩, fun j hj => (hf28 j (by omega)).trans (hf1 j (by omega))⟩⟩) dX12_smallestHat_18

