set_option maxRecDepth 100000 in
set_option maxHeartbeats 4000000 in
theorem c_X8_move (l : Launch) (hls : l.stackTraces = false) (G : kG) (hN : 133 ≤ kN G) (w : Nat → va_E) (fl : va_W) (x y la lo co sp mi : Int) (hco : 0 ≤ co ∧ co ≤ 21599) (hsp : 0 ≤ sp ∧ sp ≤ 400) (hmi : 0 ≤ mi ∧ mi ≤ 5000) (hS : w 13 = .inr (8, [vI x, vI y, vI la, vI lo])) : KM l G yX8_move cX8_move 6 (none) 3 0 0 [.ref (kad G 13), vI co, vI sp, vI mi] w fl (kMuv fl (fun w1 => w1 13 = .inr (8, [vI (x + partM sp mi co false), vI (y + partM sp mi co true), vI la, vI lo]) ∧ ∀ j, j ≠ 13 → w1 j = w j)) := by
  refine KM_of2 hls (by decide +kernel) rfl (lv0 := [(0, .ref (kad G 13)), (1, vI co), (2, vI sp), (3, vI mi)]) rfl (Nat.le_of_ble_eq_true rfl) (fun p e R s m args below meth c Q hC hr hQ => ?_)
  refine k_iload_n hC dX8_move_0 rfl 2 rfl ?_
  refine k_i2l hC dX8_move_1 (by omega) ?_
  refine k_iload_n hC dX8_move_2 rfl 3 rfl ?_
  refine k_i2l hC dX8_move_3 (by omega) ?_
  refine k_lmul hC dX8_move_4 ?_
  have hw := way_b hsp hmi
  refine k_ldc2 hC (x := 6) (v := 6) dX8_move_5 (by decide) wk_X8_53 ?_
  refine k_pureSN hC (c_X11_down l hls G hN w fl (sp * mi) 6 (by omega) (by omega)) yy_X11_down wm_X8_55 rfl rfl (Nat.le_of_ble_eq_true rfl) (by decide) (by decide) ⟨by decide, by decide⟩ dX8_move_8 ?_
  refine k_topL (fun wy ewy => ?_)
  refine k_lstore hC [(4, vL wy), (0, .ref (kad G 13)), (1, vI co), (2, vI sp), (3, vI mi)] dX8_move_11 (by decide) rfl ?_
  have ewy2 : wy = sp * mi / 6 := by rw [ewy, Int.fdiv_eq_ediv_of_nonneg _ (by decide)]
  refine k_aload_n hC dX8_move_13 rfl 1 rfl ?_
  refine k_dup hC dX8_move_14 rfl ?_
  refine k_get hC fd_X8_7 (kl hN (by decide)) hS rfl dX8_move_15 ?_
  refine k_lload hC dX8_move_18 0 rfl ?_
  refine k_iload_n hC dX8_move_20 rfl 2 rfl ?_
  refine k_pureSN hC (c_X11_sineOf l hls G hN w fl co (by omega)) yy_X11_sineOf wm_X8_59 rfl rfl (Nat.le_of_ble_eq_true rfl) (by decide) (by decide) ⟨by decide, by decide⟩ dX8_move_21 ?_
  have hb_1 := sinM_b co
  have hm1 := mul_le_abs (a := wy) (b := sinM co) (A := 400000) (B := 1000000) (by omega) (by omega)
  refine k_i2l hC dX8_move_24 (by omega) ?_
  refine k_pureSN hC (c_X11_product l hls G hN w fl wy (sinM co) (by omega)) yy_X11_product wm_X8_63 rfl rfl (Nat.le_of_ble_eq_true rfl) (by decide) (by decide) ⟨by decide, by decide⟩ dX8_move_25 ?_
  refine k_l2i hC dX8_move_28 ?_
  refine k_iadd hC dX8_move_29 ?_
  refine k_put hC fd_X8_7 (kl hN (by decide)) hS [vI (x + (prodM wy (sinM co))), vI y, vI la, vI lo] rfl (Nat.le_of_ble_eq_true rfl) rfl rfl dX8_move_30 (fun w2 hw2 hf2 => ?_)
  refine k_aload_n hC dX8_move_33 rfl 1 rfl ?_
  refine k_dup hC dX8_move_34 rfl ?_
  refine k_get hC fd_X8_13 (kl hN (by decide)) hw2 rfl dX8_move_35 ?_
  refine k_lload hC dX8_move_38 0 rfl ?_
  refine k_iload_n hC dX8_move_40 rfl 2 rfl ?_
  refine k_pureSN hC (c_X11_cosineOf l hls G hN w2 fl co (by omega)) yy_X11_cosineOf wm_X8_66 rfl rfl (Nat.le_of_ble_eq_true rfl) (by decide) (by decide) ⟨by decide, by decide⟩ dX8_move_41 ?_
  have hb_3 := cosM_b co
  have hm2 := mul_le_abs (a := wy) (b := cosM co) (A := 400000) (B := 1000000) (by omega) (by omega)
  refine k_i2l hC dX8_move_44 (by omega) ?_
  refine k_pureSN hC (c_X11_product l hls G hN w2 fl wy (cosM co) (by omega)) yy_X11_product wm_X8_63 rfl rfl (Nat.le_of_ble_eq_true rfl) (by decide) (by decide) ⟨by decide, by decide⟩ dX8_move_45 ?_
  refine k_l2i hC dX8_move_48 ?_
  refine k_iadd hC dX8_move_49 ?_
  refine k_put hC fd_X8_13 (kl hN (by decide)) hw2 [vI (x + (prodM wy (sinM co))), vI (y + (prodM wy (cosM co))), vI la, vI lo] rfl (Nat.le_of_ble_eq_true rfl) rfl rfl dX8_move_50 (fun w4 hw4 hf4 => ?_)
  subst hQ
  exact k_vret hC hr ⟨by decide, by decide⟩ (⟨rfl, rfl, by rw [hw4]; unfold partM scM; rw [ewy2]; rfl, fun j hj => (hf4 j (by omega)).trans (hf2 j (by omega))⟩) dX8_move_53

set_option maxRecDepth 100000 in
set_option maxHeartbeats 4000000 in
theorem c_X8_sailTo (l : Launch) (hls : l.stackTraces = false) (G : kG) (hN : 133 ≤ kN G) (w : Nat → va_E) (fl : va_W) (g : Nat → Int) (x y la lo t : Int) (hI : Inv g) (ht : 0 ≤ t ∧ t ≤ 5000) (hL : kLog G w 3 g) (hS : w 13 = .inr (8, [vI x, vI y, vI la, vI lo])) : KM l G yX8_sailTo cX8_sailTo 6 (none) 4 0 0 [.ref (kad G 13), .ref (kad G 3), vI t] w fl (kMuv fl (fun w1 => w1 13 = .inr (8, [vI (dispM g t false), vI (dispM g t true), vI la, vI lo]) ∧ ∀ j, j ≠ 13 → w1 j = w j)) := by
  refine KM_of2 hls (by decide +kernel) rfl (lv0 := [(0, .ref (kad G 13)), (1, .ref (kad G 3)), (2, vI t)]) rfl (Nat.le_of_ble_eq_true rfl) (fun p e R s m args below meth c Q hC hr hQ => ?_)
  have h0 := hI.c
  refine k_aload_n hC dX8_sailTo_0 rfl 0 rfl ?_
  refine k_iconst hC dX8_sailTo_1 ?_
  refine k_put hC fd_X8_7 (kl hN (by decide)) hS [vI 0, vI y, vI la, vI lo] rfl (Nat.le_of_ble_eq_true rfl) rfl rfl dX8_sailTo_2 (fun w1 hw1 hf1 => ?_)
  refine k_aload_n hC dX8_sailTo_5 rfl 0 rfl ?_
  refine k_iconst hC dX8_sailTo_6 ?_
  refine k_put hC fd_X8_13 (kl hN (by decide)) hw1 [vI 0, vI 0, vI la, vI lo] rfl (Nat.le_of_ble_eq_true rfl) rfl rfl dX8_sailTo_7 (fun w2 hw2 hf2 => ?_)
  refine k_iconst hC dX8_sailTo_10 ?_
  refine k_istore_n hC [(3, vI 0), (0, .ref (kad G 13)), (1, .ref (kad G 3)), (2, vI t)] dX8_sailTo_11 rfl (by decide) rfl ?_
  have loop : ∀ (n : Nat) (k : Nat) (u : Nat → va_E), ((g 1).toNat ≤ n + k) → ((k : Int) ≤ g 1) → (u 13 = .inr (8, [vI (legS g t false k), vI (legS g t true k), vI la, vI lo])) → (kLog G u 3 g) → ((∀ j, j ≠ 13 → u j = w j)) → KW p l e R s m args below meth c 6 G Q u fl 0 0 12 [(3, vI (k : Int)), (0, .ref (kad G 13)), (1, .ref (kad G 3)), (2, vI t)] [] := by
    intro n
    induction n with
    | zero =>
      intro k u hn_ hk hs hL hfr
      refine k_iload_n hC dX8_sailTo_12 rfl 0 rfl ?_
      refine k_aload_n hC dX8_sailTo_13 rfl 2 rfl ?_
      refine k_get hC fd_X8_16 (kl hN (by decide)) hL.1 rfl dX8_sailTo_14 ?_
      refine k_icmp_ge hC 97 dX8_sailTo_17 rfl (by omega) (by omega) (fun c_17 => ?_) (fun c_17 => absurd c_17 (by omega))
      refine k_aload_n hC dX8_sailTo_97 rfl 1 rfl ?_
      refine k_aload_n hC dX8_sailTo_98 rfl 2 rfl ?_
      refine k_get hC fd_X8_47 (kl hN (by decide)) hL.1 rfl dX8_sailTo_99 ?_
      refine k_aload_n hC dX8_sailTo_102 rfl 2 rfl ?_
      refine k_get hC fd_X8_50 (kl hN (by decide)) hL.1 rfl dX8_sailTo_103 ?_
      refine k_iload_n hC dX8_sailTo_106 rfl 3 rfl ?_
      refine k_muvV hC (c_X8_move l hls G hN u fl (legS g t false k) (legS g t true k) la lo (g 7) (g 8) t (by omega) (by omega) (by omega) hs) yy_X8_move wm_X8_43 (kl hN (by decide)) hs rfl rfl rfl rfl (Nat.le_of_ble_eq_true rfl) (by decide) (by decide) ⟨by decide, by decide⟩ dX8_sailTo_107 (fun w3 hp3 => ?_)
      obtain ⟨hs3, hf3⟩ := hp3
      subst hQ
      exact k_vret hC hr ⟨by decide, by decide⟩ (⟨rfl, rfl, by rw [hs3]; unfold dispM; rw [show (g 1).toNat = k by omega], fun j hj => (hf3 j (by omega)).trans (hfr j (by omega))⟩) dX8_sailTo_110
    | succ n ih =>
      intro k u hn_ hk hs hL hfr
      refine k_iload_n hC dX8_sailTo_12 rfl 0 rfl ?_
      refine k_aload_n hC dX8_sailTo_13 rfl 2 rfl ?_
      refine k_get hC fd_X8_16 (kl hN (by decide)) hL.1 rfl dX8_sailTo_14 ?_
      refine k_icmp_ge hC 97 dX8_sailTo_17 rfl (by omega) (by omega) (fun c_17 => ?_) (fun c_17 => ?_)
      · refine k_aload_n hC dX8_sailTo_97 rfl 1 rfl ?_
        refine k_aload_n hC dX8_sailTo_98 rfl 2 rfl ?_
        refine k_get hC fd_X8_47 (kl hN (by decide)) hL.1 rfl dX8_sailTo_99 ?_
        refine k_aload_n hC dX8_sailTo_102 rfl 2 rfl ?_
        refine k_get hC fd_X8_50 (kl hN (by decide)) hL.1 rfl dX8_sailTo_103 ?_
        refine k_iload_n hC dX8_sailTo_106 rfl 3 rfl ?_
        refine k_muvV hC (c_X8_move l hls G hN u fl (legS g t false k) (legS g t true k) la lo (g 7) (g 8) t (by omega) (by omega) (by omega) hs) yy_X8_move wm_X8_43 (kl hN (by decide)) hs rfl rfl rfl rfl (Nat.le_of_ble_eq_true rfl) (by decide) (by decide) ⟨by decide, by decide⟩ dX8_sailTo_107 (fun w4 hp4 => ?_)
        obtain ⟨hs4, hf4⟩ := hp4
        subst hQ
        exact k_vret hC hr ⟨by decide, by decide⟩ (⟨rfl, rfl, by rw [hs4]; unfold dispM; rw [show (g 1).toNat = k by omega], fun j hj => (hf4 j (by omega)).trans (hfr j (by omega))⟩) dX8_sailTo_110
      · refine k_aload_n hC dX8_sailTo_20 rfl 2 rfl ?_
        refine k_get hC fd_X8_21 (kl hN (by decide)) hL.1 rfl dX8_sailTo_21 ?_
        refine k_iload_n hC dX8_sailTo_24 rfl 0 rfl ?_
        refine k_pureSN hC (c_X11_at l hls G hN u fl 4 (k : Int) 8 (fun j => g (33 + 3 * j)) (by decide) (by omega) (by decide) hL.2.1) yy_X11_at wm_X8_25 rfl rfl (Nat.le_of_ble_eq_true rfl) (by decide) (by decide) ⟨by decide, by decide⟩ dX8_sailTo_25 ?_
        refine k_topv (vI (g (33 + 3 * k))) rfl ?_
        refine k_topI (fun fr efr => ?_)
        refine k_istore hC [(4, vI fr), (3, vI (k : Int)), (0, .ref (kad G 13)), (1, .ref (kad G 3)), (2, vI t)] dX8_sailTo_28 (by decide) rfl ?_
        have hlg := hI.leg k (by omega)
        refine k_iload_n hC dX8_sailTo_30 rfl 4 rfl ?_
        refine k_istore hC [(5, vI t), (4, vI fr), (3, vI (k : Int)), (0, .ref (kad G 13)), (1, .ref (kad G 3)), (2, vI t)] dX8_sailTo_31 (by decide) rfl ?_
        refine k_iload_n hC dX8_sailTo_33 rfl 2 rfl ?_
        refine k_iconst hC dX8_sailTo_34 ?_
        refine k_iadd hC dX8_sailTo_35 ?_
        refine k_aload_n hC dX8_sailTo_36 rfl 4 rfl ?_
        refine k_get hC fd_X8_16 (kl hN (by decide)) hL.1 rfl dX8_sailTo_37 ?_
        refine k_icmp_ge hC 59 dX8_sailTo_40 rfl (by omega) (by omega) (fun c_40 => ?_) (fun c_40 => ?_)
        · have hun : t = legU g t k := by unfold legU; rw [if_neg (by omega)]
          refine k_iload hC dX8_sailTo_59 0 rfl ?_
          refine k_iload hC dX8_sailTo_61 1 rfl ?_
          refine k_icmp_le hC 91 dX8_sailTo_63 rfl (by omega) (by omega) (fun c_63 => ?_) (fun c_63 => ?_)
          · refine k_iinc hC (y := (k : Int) + 1) [(3, vI ((k : Int) + 1)), (5, vI t), (4, vI fr), (0, .ref (kad G 13)), (1, .ref (kad G 3)), (2, vI t)] (j := 2) dX8_sailTo_91 rfl (by omega) (by decide) rfl ?_
            refine k_goto hC 12 dX8_sailTo_94 rfl ?_
            refine k_lvs (ls := [0, 3, 4, 5]) [(3, vI ((k : Int) + 1)), (0, .ref (kad G 13)), (1, .ref (kad G 3)), (2, vI t)] rfl ?_
            refine k_lvs (ls := [0, 1, 2, 3]) [(3, vI ((k + 1 : Nat) : Int)), (0, .ref (kad G 13)), (1, .ref (kad G 3)), (2, vI t)] (by simp only [lv_pick]; rfl) ?_
            exact ih (k + 1) u (by omega) (by omega) (by rw [hs]; show _ = Sum.inr (8, [vI (legS g t false k + legP g t false k), vI (legS g t true k + legP g t true k), vI la, vI lo]); unfold legP; rw [if_neg (by omega), if_neg (by omega), Int.add_zero, Int.add_zero]) hL (fun j hj => hfr j (by omega))
          · refine k_aload_n hC dX8_sailTo_66 rfl 3 rfl ?_
            refine k_aload_n hC dX8_sailTo_67 rfl 4 rfl ?_
            refine k_get hC fd_X8_37 (kl hN (by decide)) hL.1 rfl dX8_sailTo_68 ?_
            refine k_iload_n hC dX8_sailTo_71 rfl 2 rfl ?_
            refine k_pureSN hC (c_X11_at l hls G hN u fl 5 (k : Int) 8 (fun j => g (34 + 3 * j)) (by decide) (by omega) (by decide) hL.2.2.1) yy_X11_at wm_X8_25 rfl rfl (Nat.le_of_ble_eq_true rfl) (by decide) (by decide) ⟨by decide, by decide⟩ dX8_sailTo_72 ?_
            refine k_topv (vI (g (34 + 3 * k))) rfl ?_
            refine k_aload_n hC dX8_sailTo_75 rfl 4 rfl ?_
            refine k_get hC fd_X8_40 (kl hN (by decide)) hL.1 rfl dX8_sailTo_76 ?_
            refine k_iload_n hC dX8_sailTo_79 rfl 2 rfl ?_
            refine k_pureSN hC (c_X11_at l hls G hN u fl 6 (k : Int) 8 (fun j => g (35 + 3 * j)) (by decide) (by omega) (by decide) hL.2.2.2.1) yy_X11_at wm_X8_25 rfl rfl (Nat.le_of_ble_eq_true rfl) (by decide) (by decide) ⟨by decide, by decide⟩ dX8_sailTo_80 ?_
            refine k_topv (vI (g (35 + 3 * k))) rfl ?_
            refine k_iload hC dX8_sailTo_83 0 rfl ?_
            refine k_iload hC dX8_sailTo_85 1 rfl ?_
            refine k_isub hC dX8_sailTo_87 ?_
            refine k_muvV hC (c_X8_move l hls G hN u fl (legS g t false k) (legS g t true k) la lo (g (34 + 3 * k)) (g (35 + 3 * k)) (t - fr) (by omega) (by omega) (by omega) hs) yy_X8_move wm_X8_43 (kl hN (by decide)) hs rfl rfl rfl rfl (Nat.le_of_ble_eq_true rfl) (by decide) (by decide) ⟨by decide, by decide⟩ dX8_sailTo_88 (fun w5 hp5 => ?_)
            obtain ⟨hs5, hf5⟩ := hp5
            refine k_iinc hC (y := (k : Int) + 1) [(3, vI ((k : Int) + 1)), (5, vI t), (4, vI fr), (0, .ref (kad G 13)), (1, .ref (kad G 3)), (2, vI t)] (j := 2) dX8_sailTo_91 rfl (by omega) (by decide) rfl ?_
            refine k_goto hC 12 dX8_sailTo_94 rfl ?_
            refine k_lvs (ls := [0, 3, 4, 5]) [(3, vI ((k : Int) + 1)), (0, .ref (kad G 13)), (1, .ref (kad G 3)), (2, vI t)] rfl ?_
            refine k_lvs (ls := [0, 1, 2, 3]) [(3, vI ((k + 1 : Nat) : Int)), (0, .ref (kad G 13)), (1, .ref (kad G 3)), (2, vI t)] (by simp only [lv_pick]; rfl) ?_
            have hB_6 : kLog G w5 3 g := hL.fr (fun j q1 q2 => (hf5 j (by omega)))
            exact ih (k + 1) w5 (by omega) (by omega) (by rw [hs5]; show _ = Sum.inr (8, [vI (legS g t false k + legP g t false k), vI (legS g t true k + legP g t true k), vI la, vI lo]); unfold legP; rw [if_pos (by omega), if_pos (by omega), ← hun, efr]) hB_6 (fun j hj => (hf5 j (by omega)).trans (hfr j (by omega)))
        · have hlg1 := hI.leg (k + 1) (by omega)
          have hor := hI.ord k (by omega)
          have ei : ((k : Int) + 1).toNat = k + 1 := by omega
          refine k_iload_n hC dX8_sailTo_43 rfl 5 rfl ?_
          refine k_aload_n hC dX8_sailTo_44 rfl 4 rfl ?_
          refine k_get hC fd_X8_21 (kl hN (by decide)) hL.1 rfl dX8_sailTo_45 ?_
          refine k_iload_n hC dX8_sailTo_48 rfl 2 rfl ?_
          refine k_iconst hC dX8_sailTo_49 ?_
          refine k_iadd hC dX8_sailTo_50 ?_
          refine k_pureSN hC (c_X11_at l hls G hN u fl 4 ((k : Int) + 1) 8 (fun j => g (33 + 3 * j)) (by decide) (by omega) (by decide) hL.2.1) yy_X11_at wm_X8_25 rfl rfl (Nat.le_of_ble_eq_true rfl) (by decide) (by decide) ⟨by decide, by decide⟩ dX8_sailTo_51 ?_
          refine k_topv (vI (g (33 + 3 * (k + 1)))) rfl ?_
          refine k_mmin hC wm_X8_31 wmath_mmin (by omega) (by omega) (by decide) (Nat.le_of_ble_eq_true rfl) ⟨by decide, by decide⟩ dX8_sailTo_54 ?_
          refine k_topI (fun un eun => ?_)
          refine k_istore hC [(5, vI un), (4, vI fr), (3, vI (k : Int)), (0, .ref (kad G 13)), (1, .ref (kad G 3)), (2, vI t)] dX8_sailTo_57 (by decide) rfl ?_
          have hun : un = legU g t k := by unfold legU; rw [if_pos (by omega), eun, show 36 + 3 * k = 33 + 3 * (k + 1) by omega]
          refine k_iload hC dX8_sailTo_59 0 rfl ?_
          refine k_iload hC dX8_sailTo_61 1 rfl ?_
          refine k_icmp_le hC 91 dX8_sailTo_63 rfl (by omega) (by omega) (fun c_63 => ?_) (fun c_63 => ?_)
          · refine k_iinc hC (y := (k : Int) + 1) [(3, vI ((k : Int) + 1)), (5, vI un), (4, vI fr), (0, .ref (kad G 13)), (1, .ref (kad G 3)), (2, vI t)] (j := 2) dX8_sailTo_91 rfl (by omega) (by decide) rfl ?_
            refine k_goto hC 12 dX8_sailTo_94 rfl ?_
            refine k_lvs (ls := [0, 3, 4, 5]) [(3, vI ((k : Int) + 1)), (0, .ref (kad G 13)), (1, .ref (kad G 3)), (2, vI t)] rfl ?_
            refine k_lvs (ls := [0, 1, 2, 3]) [(3, vI ((k + 1 : Nat) : Int)), (0, .ref (kad G 13)), (1, .ref (kad G 3)), (2, vI t)] (by simp only [lv_pick]; rfl) ?_
            exact ih (k + 1) u (by omega) (by omega) (by rw [hs]; show _ = Sum.inr (8, [vI (legS g t false k + legP g t false k), vI (legS g t true k + legP g t true k), vI la, vI lo]); unfold legP; rw [if_neg (by omega), if_neg (by omega), Int.add_zero, Int.add_zero]) hL (fun j hj => hfr j (by omega))
          · refine k_aload_n hC dX8_sailTo_66 rfl 3 rfl ?_
            refine k_aload_n hC dX8_sailTo_67 rfl 4 rfl ?_
            refine k_get hC fd_X8_37 (kl hN (by decide)) hL.1 rfl dX8_sailTo_68 ?_
            refine k_iload_n hC dX8_sailTo_71 rfl 2 rfl ?_
            refine k_pureSN hC (c_X11_at l hls G hN u fl 5 (k : Int) 8 (fun j => g (34 + 3 * j)) (by decide) (by omega) (by decide) hL.2.2.1) yy_X11_at wm_X8_25 rfl rfl (Nat.le_of_ble_eq_true rfl) (by decide) (by decide) ⟨by decide, by decide⟩ dX8_sailTo_72 ?_
            refine k_topv (vI (g (34 + 3 * k))) rfl ?_
            refine k_aload_n hC dX8_sailTo_75 rfl 4 rfl ?_
            refine k_get hC fd_X8_40 (kl hN (by decide)) hL.1 rfl dX8_sailTo_76 ?_
            refine k_iload_n hC dX8_sailTo_79 rfl 2 rfl ?_
            refine k_pureSN hC (c_X11_at l hls G hN u fl 6 (k : Int) 8 (fun j => g (35 + 3 * j)) (by decide) (by omega) (by decide) hL.2.2.2.1) yy_X11_at wm_X8_25 rfl rfl (Nat.le_of_ble_eq_true rfl) (by decide) (by decide) ⟨by decide, by decide⟩ dX8_sailTo_80 ?_
            refine k_topv (vI (g (35 + 3 * k))) rfl ?_
            refine k_iload hC dX8_sailTo_83 0 rfl ?_
            refine k_iload hC dX8_sailTo_85 1 rfl ?_
            refine k_isub hC dX8_sailTo_87 ?_
            refine k_muvV hC (c_X8_move l hls G hN u fl (legS g t false k) (legS g t true k) la lo (g (34 + 3 * k)) (g (35 + 3 * k)) (un - fr) (by omega) (by omega) (by omega) hs) yy_X8_move wm_X8_43 (kl hN (by decide)) hs rfl rfl rfl rfl (Nat.le_of_ble_eq_true rfl) (by decide) (by decide) ⟨by decide, by decide⟩ dX8_sailTo_88 (fun w7 hp7 => ?_)
            obtain ⟨hs7, hf7⟩ := hp7
            refine k_iinc hC (y := (k : Int) + 1) [(3, vI ((k : Int) + 1)), (5, vI un), (4, vI fr), (0, .ref (kad G 13)), (1, .ref (kad G 3)), (2, vI t)] (j := 2) dX8_sailTo_91 rfl (by omega) (by decide) rfl ?_
            refine k_goto hC 12 dX8_sailTo_94 rfl ?_
            refine k_lvs (ls := [0, 3, 4, 5]) [(3, vI ((k : Int) + 1)), (0, .ref (kad G 13)), (1, .ref (kad G 3)), (2, vI t)] rfl ?_
            refine k_lvs (ls := [0, 1, 2, 3]) [(3, vI ((k + 1 : Nat) : Int)), (0, .ref (kad G 13)), (1, .ref (kad G 3)), (2, vI t)] (by simp only [lv_pick]; rfl) ?_
            have hB_8 : kLog G w7 3 g := hL.fr (fun j q1 q2 => (hf7 j (by omega)))
            exact ih (k + 1) w7 (by omega) (by omega) (by rw [hs7]; show _ = Sum.inr (8, [vI (legS g t false k + legP g t false k), vI (legS g t true k + legP g t true k), vI la, vI lo]); unfold legP; rw [if_pos (by omega), if_pos (by omega), ← hun, efr]) hB_8 (fun j hj => (hf7 j (by omega)).trans (hfr j (by omega)))
  refine k_lvs (ls := [0, 1, 2, 3]) [(3, vI ((0 : Nat) : Int)), (0, .ref (kad G 13)), (1, .ref (kad G 3)), (2, vI t)] (by simp only [lv_pick]; rfl) ?_
  have hB_9 : kLog G w2 3 g := hL.fr (fun j q1 q2 => (hf2 j (by omega)).trans (hf1 j (by omega)))
  exact loop 8 0 w2 (by omega) (by omega) hw2 hB_9 (fun j hj => (hf2 j (by omega)).trans (hf1 j (by omega)))

theorem k_fdivb {a b : Int} (hb : 0 < b) : (0 ≤ a → 0 ≤ a.fdiv b ∧ a.fdiv b ≤ a) ∧ (a ≤ 0 → a ≤ a.fdiv b ∧ a.fdiv b ≤ 0) := by
  rw [Int.fdiv_eq_ediv_of_nonneg _ (by omega)]
  constructor
  · intro h
    exact ⟨Int.ediv_nonneg h (by omega), Int.ediv_le_self _ h⟩
  · intro h
    have h1 : a * b ≤ a := by
      have h2 := Int.mul_nonneg (by omega : 0 ≤ -a) (by omega : 0 ≤ b - 1)
      rw [Int.mul_sub, Int.neg_mul] at h2
      omega
    exact ⟨(Int.le_ediv_iff_mul_le (by omega)).mpr h1, Int.ediv_nonpos_of_nonpos_of_neg h (by omega)⟩
set_option maxRecDepth 100000 in
set_option maxHeartbeats 4000000 in
theorem c_X8_reckonFrom (l : Launch) (hls : l.stackTraces = false) (G : kG) (hN : 133 ≤ kN G) (w : Nat → va_E) (fl : va_W) (g nl : Nat → Int) (x y la lo : Int) (hI : Inv g) (hx : -420000 ≤ x ∧ x ≤ 420000) (hy : -420000 ≤ y ∧ y ≤ 420000) (hP : kPlan G w 32 g nl) (hS : w 13 = .inr (8, [vI x, vI y, vI la, vI lo])) : KM l G yX8_reckonFrom cX8_reckonFrom 2 (none) 3 0 0 [.ref (kad G 13), .ref (kad G 32)] w fl (kMuv fl (fun w1 => w1 13 = .inr (8, [vI x, vI y, vI (g 3 + y / 100), vI (lonM (g 4 + (x * 10000).fdiv (cosM (g 3))))]) ∧ ∀ j, j ≠ 13 → w1 j = w j)) := by
  refine KM_of2 hls (by decide +kernel) rfl (lv0 := [(0, .ref (kad G 13)), (1, .ref (kad G 32))]) rfl (Nat.le_of_ble_eq_true rfl) (fun p e R s m args below meth c Q hC hr hQ => ?_)
  have h0 := hI.c
  refine k_aload_n hC dX8_reckonFrom_0 rfl 0 rfl ?_
  refine k_aload_n hC dX8_reckonFrom_1 rfl 1 rfl ?_
  refine k_get hC fd_X8_69 (kl hN (by decide)) hP.1 rfl dX8_reckonFrom_2 ?_
  refine k_aload_n hC dX8_reckonFrom_5 rfl 0 rfl ?_
  refine k_get hC fd_X8_13 (kl hN (by decide)) hS rfl dX8_reckonFrom_6 ?_
  refine k_i2l hC dX8_reckonFrom_9 (by omega) ?_
  refine k_ldc2 hC (x := 100) (v := 100) dX8_reckonFrom_10 (by decide) wk_X8_74 ?_
  refine k_pureSN hC (c_X11_down l hls G hN w fl y 100 (by omega) (by omega)) yy_X11_down wm_X8_55 rfl rfl (Nat.le_of_ble_eq_true rfl) (by decide) (by decide) ⟨by decide, by decide⟩ dX8_reckonFrom_13 ?_
  refine k_l2i hC dX8_reckonFrom_16 ?_
  refine k_iadd hC dX8_reckonFrom_17 ?_
  refine k_put hC fd_X8_76 (kl hN (by decide)) hS [vI x, vI y, vI ((g 3) + ((y).fdiv 100)), vI lo] rfl (Nat.le_of_ble_eq_true rfl) rfl rfl dX8_reckonFrom_18 (fun w1 hw1 hf1 => ?_)
  refine k_aload_n hC dX8_reckonFrom_21 rfl 0 rfl ?_
  refine k_aload_n hC dX8_reckonFrom_22 rfl 1 rfl ?_
  have h_2 : w1 32 = .inr (6, [vI (g 3), vI (g 4), vI (g 0), .ref (kad G 33), .ref (kad G 34), .ref (kad G 35), .ref (kad G 36)]) := (hf1 32 (by decide)).trans hP.1
  refine k_get hC fd_X8_77 (kl hN (by decide)) h_2 rfl dX8_reckonFrom_23 ?_
  refine k_i2l hC dX8_reckonFrom_26 (by omega) ?_
  refine k_ldc2 hC (x := 10000) (v := 10000) dX8_reckonFrom_27 (by decide) wk_X8_80 ?_
  refine k_aload_n hC dX8_reckonFrom_30 rfl 0 rfl ?_
  refine k_get hC fd_X8_7 (kl hN (by decide)) hw1 rfl dX8_reckonFrom_31 ?_
  refine k_i2l hC dX8_reckonFrom_34 (by omega) ?_
  refine k_lmul hC dX8_reckonFrom_35 ?_
  refine k_aload_n hC dX8_reckonFrom_36 rfl 1 rfl ?_
  refine k_get hC fd_X8_69 (kl hN (by decide)) h_2 rfl dX8_reckonFrom_37 ?_
  refine k_pureSN hC (c_X11_cosineOf l hls G hN w1 fl (g 3) (by omega)) yy_X11_cosineOf wm_X8_66 rfl rfl (Nat.le_of_ble_eq_true rfl) (by decide) (by decide) ⟨by decide, by decide⟩ dX8_reckonFrom_40 ?_
  have hb_3 := cosM_b (g 3)
  have hcp := cosM_pos (p := g 3) h0.2.2.2.1
  have hfd := k_fdivb (a := 10000 * x) (b := cosM (g 3)) (by omega)
  refine k_i2l hC dX8_reckonFrom_43 (by omega) ?_
  refine k_pureSN hC (c_X11_down l hls G hN w1 fl (10000 * x) (cosM (g 3)) (by omega) (by omega)) yy_X11_down wm_X8_55 rfl rfl (Nat.le_of_ble_eq_true rfl) (by decide) (by decide) ⟨by decide, by decide⟩ dX8_reckonFrom_44 ?_
  refine k_ladd hC dX8_reckonFrom_47 ?_
  refine k_pureSN hC (c_X11_longitudeOf l hls G hN w1 fl ((g 4) + ((10000 * x).fdiv (cosM (g 3)))) (by omega)) yy_X11_longitudeOf wm_X8_82 rfl rfl (Nat.le_of_ble_eq_true rfl) (by decide) (by decide) ⟨by decide, by decide⟩ dX8_reckonFrom_48 ?_
  have hb_4 := k_lonb ((g 4) + ((10000 * x).fdiv (cosM (g 3))))
  refine k_put hC fd_X8_86 (kl hN (by decide)) hw1 [vI x, vI y, vI ((g 3) + ((y).fdiv 100)), vI (lonM ((g 4) + ((10000 * x).fdiv (cosM (g 3)))))] rfl (Nat.le_of_ble_eq_true rfl) rfl rfl dX8_reckonFrom_51 (fun w5 hw5 hf5 => ?_)
  subst hQ
  exact k_vret hC hr ⟨by decide, by decide⟩ (⟨rfl, rfl, by rw [hw5, Int.fdiv_eq_ediv_of_nonneg _ (by decide), Int.mul_comm x 10000], fun j hj => (hf5 j (by omega)).trans (hf1 j (by omega))⟩) dX8_reckonFrom_54

set_option maxRecDepth 100000 in
set_option maxHeartbeats 4000000 in
theorem c_X3_along (l : Launch) (hls : l.stackTraces = false) (G : kG) (hN : 133 ≤ kN G) (w : Nat → va_E) (fl : va_W) (k : Nat) (a0 a1 a2 a3 a4 a5 a6 sa ca x y : Int) (hk : k < 133) (hsa : -1000000 ≤ sa ∧ sa ≤ 1000000) (hca : -1000000 ≤ ca ∧ ca ≤ 1000000) (hx : -10000000 ≤ x ∧ x ≤ 10000000) (hy : -10000000 ≤ y ∧ y ≤ 10000000) (hw : w k = .inr (3, [vI a0, vI a1, vI a2, vI a3, vI a4, vI a5, vI a6, vI sa, vI ca])) : KM l G yX3_along cX3_along 5 (some (FieldType.int)) 2 0 0 [.ref (kad G k), vL x, vL y] w fl (kPure (vI (along x y sa ca)) w fl) := by
  refine KM_of2 hls (by decide +kernel) rfl (lv0 := [(0, .ref (kad G k)), (1, vL x), (3, vL y)]) rfl (Nat.le_of_ble_eq_true rfl) (fun p e R s m args below meth c Q hC hr hQ => ?_)
  have hm1 := mul_le_abs (a := x) (b := sa) (A := 10000000) (B := 1000000) (by omega) (by omega)
  have hm2 := mul_le_abs (a := y) (b := ca) (A := 10000000) (B := 1000000) (by omega) (by omega)
  refine k_lload_n hC dX3_along_0 rfl 1 rfl ?_
  refine k_aload_n hC dX3_along_1 rfl 0 rfl ?_
  refine k_get hC fd_X3_85 (kl hN (by omega)) hw rfl dX3_along_2 ?_
  refine k_i2l hC dX3_along_5 (by omega) ?_
  refine k_lmul hC dX3_along_6 ?_
  refine k_lload_n hC dX3_along_7 rfl 2 rfl ?_
  refine k_aload_n hC dX3_along_8 rfl 0 rfl ?_
  refine k_get hC fd_X3_88 (kl hN (by omega)) hw rfl dX3_along_9 ?_
  refine k_i2l hC dX3_along_12 (by omega) ?_
  refine k_lmul hC dX3_along_13 ?_
  refine k_ladd hC dX3_along_14 ?_
  refine k_ldc2 hC (x := 1000000) (v := 1000000) dX3_along_15 (by decide) wk_X3_119 ?_
  refine k_pureSN hC (c_X11_down l hls G hN w fl ((x * sa) + (y * ca)) 1000000 (by omega) (by omega)) yy_X11_down wm_X3_58 rfl rfl (Nat.le_of_ble_eq_true rfl) (by decide) (by decide) ⟨by decide, by decide⟩ dX3_along_18 ?_
  refine k_l2i hC dX3_along_21 ?_
  subst hQ
  exact k_iret hC hr ⟨by decide, by decide⟩ (⟨congrArg (fun z => some (vI z)) (show (along x y sa ca : Int) = ((x * sa) + (y * ca)).fdiv 1000000 from by unfold along; rw [Int.fdiv_eq_ediv_of_nonneg _ (by decide)]), rfl, rfl⟩) dX3_along_22

set_option maxRecDepth 100000 in
set_option maxHeartbeats 4000000 in
theorem c_X3_carry (l : Launch) (hls : l.stackTraces = false) (G : kG) (hN : 133 ≤ kN G) (w : Nat → va_E) (fl : va_W) (k : Nat) (a0 a1 a2 a3 a4 a5 a6 sa ca x y : Int) (hk : k < 133) (hsa : -1000000 ≤ sa ∧ sa ≤ 1000000) (hca : -1000000 ≤ ca ∧ ca ≤ 1000000) (hx : -10000000 ≤ x ∧ x ≤ 10000000) (hy : -10000000 ≤ y ∧ y ≤ 10000000) (hw : w k = .inr (3, [vI a0, vI a1, vI a2, vI a3, vI a4, vI a5, vI a6, vI sa, vI ca])) : KM l G yX3_carry cX3_carry 3 (none) 3 0 0 [.ref (kad G k), vI x, vI y] w fl (kMuv fl (fun w1 => w1 k = .inr (3, [vI a0, vI a1, vI a2, vI a3, vI a4, vI a5, vI (a5 + along x y sa ca), vI sa, vI ca]) ∧ ∀ j, j ≠ k → w1 j = w j)) := by
  refine KM_of2 hls (by decide +kernel) rfl (lv0 := [(0, .ref (kad G k)), (1, vI x), (2, vI y)]) rfl (Nat.le_of_ble_eq_true rfl) (fun p e R s m args below meth c Q hC hr hQ => ?_)
  refine k_aload_n hC dX3_carry_0 rfl 0 rfl ?_
  refine k_aload_n hC dX3_carry_1 rfl 0 rfl ?_
  refine k_get hC fd_X3_105 (kl hN (by omega)) hw rfl dX3_carry_2 ?_
  refine k_aload_n hC dX3_carry_5 rfl 0 rfl ?_
  refine k_iload_n hC dX3_carry_6 rfl 1 rfl ?_
  refine k_i2l hC dX3_carry_7 (by omega) ?_
  refine k_iload_n hC dX3_carry_8 rfl 2 rfl ?_
  refine k_i2l hC dX3_carry_9 (by omega) ?_
  refine k_pureV hC (c_X3_along l hls G hN w fl k a0 a1 a2 a3 a4 a5 a6 sa ca x y (by omega) (by omega) (by omega) (by omega) (by omega) hw) yy_X3_along wm_X3_101 (kl hN (by omega)) hw rfl rfl rfl rfl (Nat.le_of_ble_eq_true rfl) (by decide) (by decide) ⟨by decide, by decide⟩ dX3_carry_10 ?_
  have hb_1 := along_b 10000000 10000000 (e := x) (n := y) (s := sa) (c := ca) (by omega) (by omega) (by omega) (by omega)
  refine k_iadd hC dX3_carry_13 ?_
  refine k_put hC fd_X3_108 (kl hN (by omega)) hw [vI a0, vI a1, vI a2, vI a3, vI a4, vI a5, vI (a5 + (along x y sa ca)), vI sa, vI ca] rfl (Nat.le_of_ble_eq_true rfl) rfl rfl dX3_carry_14 (fun w2 hw2 hf2 => ?_)
  subst hQ
  exact k_vret hC hr ⟨by decide, by decide⟩ (⟨rfl, rfl, hw2, fun j hj => hf2 j (by omega)⟩) dX3_carry_17

set_option maxRecDepth 100000 in
set_option maxHeartbeats 4000000 in
theorem c_X3_missedBy (l : Launch) (hls : l.stackTraces = false) (G : kG) (hN : 133 ≤ kN G) (w : Nat → va_E) (fl : va_W) (k q : Nat) (a0 a1 a2 a3 a4 a5 a6 sa ca z x y : Int) (hk : k < 133) (hq : q < 133) (hsa : -1000000 ≤ sa ∧ sa ≤ 1000000) (hca : -1000000 ≤ ca ∧ ca ≤ 1000000) (hx : -10000000 ≤ x ∧ x ≤ 10000000) (hy : -10000000 ≤ y ∧ y ≤ 10000000) (hw : w k = .inr (3, [vI a0, vI a1, vI a2, vI a3, vI a4, vI a5, vI a6, vI sa, vI ca])) (hv : w q = .inr (5, [vI z, vI x, vI y])) : KM l G yX3_missedBy cX3_missedBy 2 (some (FieldType.int)) 3 0 0 [.ref (kad G k), .ref (kad G q)] w fl (kPure (vI (along x y sa ca - a6)) w fl) := by
  refine KM_of2 hls (by decide +kernel) rfl (lv0 := [(0, .ref (kad G k)), (1, .ref (kad G q))]) rfl (Nat.le_of_ble_eq_true rfl) (fun p e R s m args below meth c Q hC hr hQ => ?_)
  refine k_aload_n hC dX3_missedBy_0 rfl 0 rfl ?_
  refine k_aload_n hC dX3_missedBy_1 rfl 1 rfl ?_
  refine k_get hC fd_X3_111 (kl hN (by omega)) hv rfl dX3_missedBy_2 ?_
  refine k_i2l hC dX3_missedBy_5 (by omega) ?_
  refine k_aload_n hC dX3_missedBy_6 rfl 1 rfl ?_
  refine k_get hC fd_X3_116 (kl hN (by omega)) hv rfl dX3_missedBy_7 ?_
  refine k_i2l hC dX3_missedBy_10 (by omega) ?_
  refine k_pureV hC (c_X3_along l hls G hN w fl k a0 a1 a2 a3 a4 a5 a6 sa ca x y (by omega) (by omega) (by omega) (by omega) (by omega) hw) yy_X3_along wm_X3_101 (kl hN (by omega)) hw rfl rfl rfl rfl (Nat.le_of_ble_eq_true rfl) (by decide) (by decide) ⟨by decide, by decide⟩ dX3_missedBy_11 ?_
  have hb_1 := along_b 10000000 10000000 (e := x) (n := y) (s := sa) (c := ca) (by omega) (by omega) (by omega) (by omega)
  refine k_aload_n hC dX3_missedBy_14 rfl 0 rfl ?_
  refine k_get hC fd_X3_108 (kl hN (by omega)) hw rfl dX3_missedBy_15 ?_
  refine k_isub hC dX3_missedBy_18 ?_
  subst hQ
  exact k_iret hC hr ⟨by decide, by decide⟩ (⟨congrArg (fun z => some (vI z)) (show (along x y sa ca - a6 : Int) = (along x y sa ca) - a6 from by omega), rfl, rfl⟩) dX3_missedBy_19

set_option maxRecDepth 100000 in
set_option maxHeartbeats 4000000 in
theorem c_X3_expectedAltitude (l : Launch) (hls : l.stackTraces = false) (G : kG) (hN : 133 ≤ kN G) (w : Nat → va_E) (fl : va_W) (la de an : Int) (hla : -1000000 ≤ la ∧ la ≤ 1000000) (hde : -1000000 ≤ de ∧ de ≤ 1000000) (han : -1000000 ≤ an ∧ an ≤ 1000000) : KM l G yX3_expectedAltitude cX3_expectedAltitude 7 (some (FieldType.int)) 3 0 0 [vI la, vI de, vI an] w fl (kPure (vI (expO la de an)) w fl) := by
  refine KM_of2 hls (by decide +kernel) rfl (lv0 := [(0, vI la), (1, vI de), (2, vI an)]) rfl (Nat.le_of_ble_eq_true rfl) (fun p e R s m args below meth c Q hC hr hQ => ?_)
  refine k_iload_n hC dX3_expectedAltitude_0 rfl 0 rfl ?_
  refine k_pureSN hC (c_X11_sineOf l hls G hN w fl la (by omega)) yy_X11_sineOf wm_X3_55 rfl rfl (Nat.le_of_ble_eq_true rfl) (by decide) (by decide) ⟨by decide, by decide⟩ dX3_expectedAltitude_1 ?_
  have hb_1 := sinM_b la
  refine k_i2l hC dX3_expectedAltitude_4 (by omega) ?_
  refine k_iload_n hC dX3_expectedAltitude_5 rfl 1 rfl ?_
  refine k_pureSN hC (c_X11_sineOf l hls G hN w fl de (by omega)) yy_X11_sineOf wm_X3_55 rfl rfl (Nat.le_of_ble_eq_true rfl) (by decide) (by decide) ⟨by decide, by decide⟩ dX3_expectedAltitude_6 ?_
  have hb_2 := sinM_b de
  refine k_i2l hC dX3_expectedAltitude_9 (by omega) ?_
  have hm1 := mul_le_abs (a := sinM la) (b := sinM de) (A := 1000000) (B := 1000000) (by omega) (by omega)
  have hp1 := prodM_u (a := sinM la) (s := sinM de) 1000000 (by omega) (by omega)
  refine k_pureSN hC (c_X11_product l hls G hN w fl (sinM la) (sinM de) (by omega)) yy_X11_product wm_X3_121 rfl rfl (Nat.le_of_ble_eq_true rfl) (by decide) (by decide) ⟨by decide, by decide⟩ dX3_expectedAltitude_10 ?_
  refine k_lstore_n hC [(3, vL (prodM (sinM la) (sinM de))), (0, vI la), (1, vI de), (2, vI an)] dX3_expectedAltitude_13 rfl (by decide) rfl ?_
  refine k_iload_n hC dX3_expectedAltitude_14 rfl 1 rfl ?_
  refine k_pureSN hC (c_X11_cosineOf l hls G hN w fl la (by omega)) yy_X11_cosineOf wm_X3_51 rfl rfl (Nat.le_of_ble_eq_true rfl) (by decide) (by decide) ⟨by decide, by decide⟩ dX3_expectedAltitude_15 ?_
  have hb_3 := cosM_b la
  refine k_i2l hC dX3_expectedAltitude_18 (by omega) ?_
  refine k_iload_n hC dX3_expectedAltitude_19 rfl 2 rfl ?_
  refine k_pureSN hC (c_X11_cosineOf l hls G hN w fl de (by omega)) yy_X11_cosineOf wm_X3_51 rfl rfl (Nat.le_of_ble_eq_true rfl) (by decide) (by decide) ⟨by decide, by decide⟩ dX3_expectedAltitude_20 ?_
  have hb_4 := cosM_b de
  refine k_i2l hC dX3_expectedAltitude_23 (by omega) ?_
  have hm2 := mul_le_abs (a := cosM la) (b := cosM de) (A := 1000000) (B := 1000000) (by omega) (by omega)
  have hp2 := prodM_u (a := cosM la) (s := cosM de) 1000000 (by omega) (by omega)
  refine k_pureSN hC (c_X11_product l hls G hN w fl (cosM la) (cosM de) (by omega)) yy_X11_product wm_X3_121 rfl rfl (Nat.le_of_ble_eq_true rfl) (by decide) (by decide) ⟨by decide, by decide⟩ dX3_expectedAltitude_24 ?_
  refine k_lstore hC [(5, vL (prodM (cosM la) (cosM de))), (3, vL (prodM (sinM la) (sinM de))), (0, vI la), (1, vI de), (2, vI an)] dX3_expectedAltitude_27 (by decide) rfl ?_
  refine k_lload_n hC dX3_expectedAltitude_29 rfl 1 rfl ?_
  refine k_lload hC dX3_expectedAltitude_30 0 rfl ?_
  refine k_iload_n hC dX3_expectedAltitude_32 rfl 4 rfl ?_
  refine k_pureSN hC (c_X11_cosineOf l hls G hN w fl an (by omega)) yy_X11_cosineOf wm_X3_51 rfl rfl (Nat.le_of_ble_eq_true rfl) (by decide) (by decide) ⟨by decide, by decide⟩ dX3_expectedAltitude_33 ?_
  have hb_5 := cosM_b an
  refine k_i2l hC dX3_expectedAltitude_36 (by omega) ?_
  have hm3 := mul_le_abs (a := prodM (cosM la) (cosM de)) (b := cosM an) (A := 1000000) (B := 1000000) (by omega) (by omega)
  have hp3 := prodM_u (a := prodM (cosM la) (cosM de)) (s := cosM an) 1000000 (by omega) (by omega)
  have hl := limM_b (prodM (sinM la) (sinM de) + prodM (prodM (cosM la) (cosM de)) (cosM an))
  refine k_pureSN hC (c_X11_product l hls G hN w fl (prodM (cosM la) (cosM de)) (cosM an) (by omega)) yy_X11_product wm_X3_121 rfl rfl (Nat.le_of_ble_eq_true rfl) (by decide) (by decide) ⟨by decide, by decide⟩ dX3_expectedAltitude_37 ?_
  refine k_ladd hC dX3_expectedAltitude_40 ?_
  refine k_pureSN hC (c_X11_limited l hls G hN w fl ((prodM (sinM la) (sinM de)) + (prodM (prodM (cosM la) (cosM de)) (cosM an))) (by omega)) yy_X11_limited wm_X3_124 rfl rfl (Nat.le_of_ble_eq_true rfl) (by decide) (by decide) ⟨by decide, by decide⟩ dX3_expectedAltitude_41 ?_
  have hb_6 := limM_b ((prodM (sinM la) (sinM de)) + (prodM (prodM (cosM la) (cosM de)) (cosM an)))
  refine k_pureSN hC (c_X11_arcOf l hls G hN w fl (limM ((prodM (sinM la) (sinM de)) + (prodM (prodM (cosM la) (cosM de)) (cosM an)))) (by omega)) yy_X11_arcOf wm_X3_127 rfl rfl (Nat.le_of_ble_eq_true rfl) (by decide) (by decide) ⟨by decide, by decide⟩ dX3_expectedAltitude_44 ?_
  subst hQ
  exact k_iret hC hr ⟨by decide, by decide⟩ (⟨congrArg (fun z => some (vI z)) (show (expO la de an : Int) = arcM (limM ((prodM (sinM la) (sinM de)) + (prodM (prodM (cosM la) (cosM de)) (cosM an)))) from rfl), rfl, rfl⟩) dX3_expectedAltitude_47

set_option maxRecDepth 100000 in
set_option maxHeartbeats 4000000 in
theorem c_X3_azimuthTo (l : Launch) (hls : l.stackTraces = false) (G : kG) (hN : 133 ≤ kN G) (w : Nat → va_E) (fl : va_W) (la de an hh : Int) (hla : -1000000 ≤ la ∧ la ≤ 1000000) (hde : -1000000 ≤ de ∧ de ≤ 1000000) (han : -1000000 ≤ an ∧ an ≤ 1000000) (hhh : -1000000 ≤ hh ∧ hh ≤ 1000000) : KM l G yX3_azimuthTo cX3_azimuthTo 9 (some (FieldType.int)) 3 0 0 [vI la, vI de, vI an, vI hh] w fl (kPure (vI (aziO la de an hh)) w fl) := by
  refine KM_of2 hls (by decide +kernel) rfl (lv0 := [(0, vI la), (1, vI de), (2, vI an), (3, vI hh)]) rfl (Nat.le_of_ble_eq_true rfl) (fun p e R s m args below meth c Q hC hr hQ => ?_)
  refine k_iload_n hC dX3_azimuthTo_0 rfl 0 rfl ?_
  refine k_pureSN hC (c_X11_cosineOf l hls G hN w fl la (by omega)) yy_X11_cosineOf wm_X3_51 rfl rfl (Nat.le_of_ble_eq_true rfl) (by decide) (by decide) ⟨by decide, by decide⟩ dX3_azimuthTo_1 ?_
  have hb_1 := cosM_b la
  refine k_i2l hC dX3_azimuthTo_4 (by omega) ?_
  refine k_iload_n hC dX3_azimuthTo_5 rfl 3 rfl ?_
  refine k_pureSN hC (c_X11_cosineOf l hls G hN w fl hh (by omega)) yy_X11_cosineOf wm_X3_51 rfl rfl (Nat.le_of_ble_eq_true rfl) (by decide) (by decide) ⟨by decide, by decide⟩ dX3_azimuthTo_6 ?_
  have hb_2 := cosM_b hh
  refine k_i2l hC dX3_azimuthTo_9 (by omega) ?_
  have hm1 := mul_le_abs (a := cosM la) (b := cosM hh) (A := 1000000) (B := 1000000) (by omega) (by omega)
  have hp1 := prodM_u (a := cosM la) (s := cosM hh) 1000000 (by omega) (by omega)
  refine k_pureSN hC (c_X11_product l hls G hN w fl (cosM la) (cosM hh) (by omega)) yy_X11_product wm_X3_121 rfl rfl (Nat.le_of_ble_eq_true rfl) (by decide) (by decide) ⟨by decide, by decide⟩ dX3_azimuthTo_10 ?_
  refine k_topL (fun dv edv => ?_)
  refine k_lstore hC [(4, vL dv), (0, vI la), (1, vI de), (2, vI an), (3, vI hh)] dX3_azimuthTo_13 (by decide) rfl ?_
  have hdv : -1000000 ≤ dv ∧ dv ≤ 1000000 := by omega
  refine k_ldc hC (x := 1000000) (v := 1000000) dX3_azimuthTo_15 (by decide) wk_X3_130 ?_
  refine k_istore hC [(6, vI 1000000), (4, vL dv), (0, vI la), (1, vI de), (2, vI an), (3, vI hh)] dX3_azimuthTo_17 (by decide) rfl ?_
  refine k_lload hC dX3_azimuthTo_19 1 rfl ?_
  refine k_lconst (x := 0) hC dX3_azimuthTo_21 (by decide) ?_
  refine k_lcmp_le hC 63 dX3_azimuthTo_22 dX3_azimuthTo_23 rfl (by omega) (by omega) (fun c_22 => ?_) (fun c_22 => ?_)
  · refine k_sipush hC dX3_azimuthTo_63 (by decide) ?_
    refine k_iload hC dX3_azimuthTo_66 0 rfl ?_
    refine k_pureSN hC (c_X11_arcOf l hls G hN w fl 1000000 (by omega)) yy_X11_arcOf wm_X3_127 rfl rfl (Nat.le_of_ble_eq_true rfl) (by decide) (by decide) ⟨by decide, by decide⟩ dX3_azimuthTo_68 ?_
    refine k_isub hC dX3_azimuthTo_71 ?_
    refine k_topI (fun zz ezz => ?_)
    refine k_istore hC [(7, vI zz), (6, vI 1000000), (4, vL dv), (0, vI la), (1, vI de), (2, vI an), (3, vI hh)] dX3_azimuthTo_72 (by decide) rfl ?_
    have hzb := arcM_b 1000000
    have ezz2 : zz = 5400 - arcM (aziC la de hh) := by rw [ezz]; unfold aziC; rw [← edv, if_neg (by omega)]
    refine k_iload_n hC dX3_azimuthTo_74 rfl 5 rfl ?_
    refine k_pureSN hC (c_X11_sineOf l hls G hN w fl an (by omega)) yy_X11_sineOf wm_X3_55 rfl rfl (Nat.le_of_ble_eq_true rfl) (by decide) (by decide) ⟨by decide, by decide⟩ dX3_azimuthTo_75 ?_
    have hb_3 := sinM_b an
    refine k_if_gt hC 84 dX3_azimuthTo_78 rfl (by omega) (fun c_78 => ?_) (fun c_78 => ?_)
    · refine k_iload hC dX3_azimuthTo_84 0 rfl ?_
      refine k_if_ne hC 93 dX3_azimuthTo_86 rfl (by omega) (fun c_86 => ?_) (fun c_86 => ?_)
      · refine k_sipush hC dX3_azimuthTo_93 (by decide) ?_
        refine k_iload hC dX3_azimuthTo_96 0 rfl ?_
        refine k_isub hC dX3_azimuthTo_98 ?_
        subst hQ
        exact k_iret hC hr ⟨by decide, by decide⟩ (⟨congrArg (fun z => some (vI z)) (show (aziO la de an hh : Int) = 21600 - zz from by unfold aziO; rw [if_neg (by omega), ← ezz2]; first | rw [if_pos (by omega)] | rw [if_neg (by omega)]), rfl, rfl⟩) dX3_azimuthTo_99
      · refine k_iconst hC dX3_azimuthTo_89 ?_
        refine k_goto hC 99 dX3_azimuthTo_90 rfl ?_
        subst hQ
        exact k_iret hC hr ⟨by decide, by decide⟩ (⟨congrArg (fun z => some (vI z)) (show (aziO la de an hh : Int) = 0 from by unfold aziO; rw [if_neg (by omega), ← ezz2]; first | rw [if_pos (by omega)] | rw [if_neg (by omega)]), rfl, rfl⟩) dX3_azimuthTo_99
    · refine k_iload hC dX3_azimuthTo_81 0 rfl ?_
      subst hQ
      exact k_iret hC hr ⟨by decide, by decide⟩ (⟨congrArg (fun z => some (vI z)) (show (aziO la de an hh : Int) = zz from by unfold aziO; rw [if_pos (by omega)]; exact ezz2.symm), rfl, rfl⟩) dX3_azimuthTo_83
  · refine k_iload_n hC dX3_azimuthTo_26 rfl 3 rfl ?_
    refine k_pureSN hC (c_X11_sineOf l hls G hN w fl de (by omega)) yy_X11_sineOf wm_X3_55 rfl rfl (Nat.le_of_ble_eq_true rfl) (by decide) (by decide) ⟨by decide, by decide⟩ dX3_azimuthTo_27 ?_
    have hb_4 := sinM_b de
    refine k_i2l hC dX3_azimuthTo_30 (by omega) ?_
    refine k_iload_n hC dX3_azimuthTo_31 rfl 2 rfl ?_
    refine k_pureSN hC (c_X11_sineOf l hls G hN w fl la (by omega)) yy_X11_sineOf wm_X3_55 rfl rfl (Nat.le_of_ble_eq_true rfl) (by decide) (by decide) ⟨by decide, by decide⟩ dX3_azimuthTo_32 ?_
    have hb_5 := sinM_b la
    refine k_i2l hC dX3_azimuthTo_35 (by omega) ?_
    refine k_iload_n hC dX3_azimuthTo_36 rfl 5 rfl ?_
    refine k_pureSN hC (c_X11_sineOf l hls G hN w fl hh (by omega)) yy_X11_sineOf wm_X3_55 rfl rfl (Nat.le_of_ble_eq_true rfl) (by decide) (by decide) ⟨by decide, by decide⟩ dX3_azimuthTo_37 ?_
    have hb_6 := sinM_b hh
    refine k_i2l hC dX3_azimuthTo_40 (by omega) ?_
    have hm2 := mul_le_abs (a := sinM la) (b := sinM hh) (A := 1000000) (B := 1000000) (by omega) (by omega)
    have hp2 := prodM_u (a := sinM la) (s := sinM hh) 1000000 (by omega) (by omega)
    refine k_pureSN hC (c_X11_product l hls G hN w fl (sinM la) (sinM hh) (by omega)) yy_X11_product wm_X3_121 rfl rfl (Nat.le_of_ble_eq_true rfl) (by decide) (by decide) ⟨by decide, by decide⟩ dX3_azimuthTo_41 ?_
    refine k_lsub hC dX3_azimuthTo_44 ?_
    refine k_lstore hC [(7, vL ((sinM de) - (prodM (sinM la) (sinM hh)))), (6, vI 1000000), (4, vL dv), (0, vI la), (1, vI de), (2, vI an), (3, vI hh)] dX3_azimuthTo_45 (by decide) rfl ?_
    refine k_lload hC dX3_azimuthTo_47 0 rfl ?_
    refine k_ldc2 hC (x := 1000000) (v := 1000000) dX3_azimuthTo_49 (by decide) wk_X3_119 ?_
    refine k_lmul hC dX3_azimuthTo_52 ?_
    have hfd := k_fdivb (a := (sinM de - prodM (sinM la) (sinM hh)) * 1000000) (b := dv) (by omega)
    refine k_lload hC dX3_azimuthTo_53 2 rfl ?_
    refine k_pureSN hC (c_X11_down l hls G hN w fl (((sinM de) - (prodM (sinM la) (sinM hh))) * 1000000) dv (by omega) (by omega)) yy_X11_down wm_X3_58 rfl rfl (Nat.le_of_ble_eq_true rfl) (by decide) (by decide) ⟨by decide, by decide⟩ dX3_azimuthTo_55 ?_
    refine k_pureSN hC (c_X11_limited l hls G hN w fl ((((sinM de) - (prodM (sinM la) (sinM hh))) * 1000000).fdiv dv) (by omega)) yy_X11_limited wm_X3_124 rfl rfl (Nat.le_of_ble_eq_true rfl) (by decide) (by decide) ⟨by decide, by decide⟩ dX3_azimuthTo_58 ?_
    have hb_7 := limM_b ((((sinM de) - (prodM (sinM la) (sinM hh))) * 1000000).fdiv dv)
    refine k_topI (fun cc ecc => ?_)
    refine k_istore hC [(6, vI cc), (7, vL ((sinM de) - (prodM (sinM la) (sinM hh)))), (4, vL dv), (0, vI la), (1, vI de), (2, vI an), (3, vI hh)] dX3_azimuthTo_61 (by decide) rfl ?_
    have hcc := limM_b (((sinM de - prodM (sinM la) (sinM hh)) * 1000000).fdiv dv)
    have ecc2 : cc = aziC la de hh := by unfold aziC; rw [← edv, if_pos (by omega)]; exact ecc
    refine k_sipush hC dX3_azimuthTo_63 (by decide) ?_
    refine k_iload hC dX3_azimuthTo_66 0 rfl ?_
    refine k_pureSN hC (c_X11_arcOf l hls G hN w fl cc (by omega)) yy_X11_arcOf wm_X3_127 rfl rfl (Nat.le_of_ble_eq_true rfl) (by decide) (by decide) ⟨by decide, by decide⟩ dX3_azimuthTo_68 ?_
    refine k_isub hC dX3_azimuthTo_71 ?_
    refine k_topI (fun zz ezz => ?_)
    refine k_istore hC [(7, vI zz), (6, vI cc), (4, vL dv), (0, vI la), (1, vI de), (2, vI an), (3, vI hh)] dX3_azimuthTo_72 (by decide) rfl ?_
    have hzb := arcM_b cc
    have ezz2 : zz = 5400 - arcM (aziC la de hh) := by rw [ezz, ecc2]
    refine k_iload_n hC dX3_azimuthTo_74 rfl 5 rfl ?_
    refine k_pureSN hC (c_X11_sineOf l hls G hN w fl an (by omega)) yy_X11_sineOf wm_X3_55 rfl rfl (Nat.le_of_ble_eq_true rfl) (by decide) (by decide) ⟨by decide, by decide⟩ dX3_azimuthTo_75 ?_
    have hb_8 := sinM_b an
    refine k_if_gt hC 84 dX3_azimuthTo_78 rfl (by omega) (fun c_78 => ?_) (fun c_78 => ?_)
    · refine k_iload hC dX3_azimuthTo_84 0 rfl ?_
      refine k_if_ne hC 93 dX3_azimuthTo_86 rfl (by omega) (fun c_86 => ?_) (fun c_86 => ?_)
      · refine k_sipush hC dX3_azimuthTo_93 (by decide) ?_
        refine k_iload hC dX3_azimuthTo_96 0 rfl ?_
        refine k_isub hC dX3_azimuthTo_98 ?_
        subst hQ
        exact k_iret hC hr ⟨by decide, by decide⟩ (⟨congrArg (fun z => some (vI z)) (show (aziO la de an hh : Int) = 21600 - zz from by unfold aziO; rw [if_neg (by omega), ← ezz2]; first | rw [if_pos (by omega)] | rw [if_neg (by omega)]), rfl, rfl⟩) dX3_azimuthTo_99
      · refine k_iconst hC dX3_azimuthTo_89 ?_
        refine k_goto hC 99 dX3_azimuthTo_90 rfl ?_
        subst hQ
        exact k_iret hC hr ⟨by decide, by decide⟩ (⟨congrArg (fun z => some (vI z)) (show (aziO la de an hh : Int) = 0 from by unfold aziO; rw [if_neg (by omega), ← ezz2]; first | rw [if_pos (by omega)] | rw [if_neg (by omega)]), rfl, rfl⟩) dX3_azimuthTo_99
    · refine k_iload hC dX3_azimuthTo_81 0 rfl ?_
      subst hQ
      exact k_iret hC hr ⟨by decide, by decide⟩ (⟨congrArg (fun z => some (vI z)) (show (aziO la de an hh : Int) = zz from by unfold aziO; rw [if_pos (by omega)]; exact ezz2.symm), rfl, rfl⟩) dX3_azimuthTo_83

