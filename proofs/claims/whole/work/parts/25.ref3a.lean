def kScr (G : kG) (w : Nat → va_E) : Prop := (∃ ls lc lo : Nat → Int, kLns G w ls lc lo) ∧ ∃ hx hy : Nat → Int, kHts G w hx hy
theorem kScr.fr {G : kG} {w w1 : Nat → va_E} (h : kScr G w) (hf : ∀ j, 138 ≤ j → j ≤ 142 → w1 j = w j) : kScr G w1 := by
  obtain ⟨⟨ls, lc, lo, h1⟩, hx, hy, h2⟩ := h
  exact ⟨⟨ls, lc, lo, h1.fr (fun j q1 q2 => hf j q1 (by omega))⟩, hx, hy, h2.fr (fun j q1 q2 => hf j (by omega) q2)⟩
def mSt (G : kG) (w w1 : Nat → va_E) (u : Nat → Int) (th : Int) : Prop := (∃ fe fn : Int, w1 133 = mdO G (kup (kup (kup u 5 th) 12 fe) 13 fn)) ∧ kScr G w1 ∧ ∀ j, (j ≠ 133 ∧ (j < 138 ∨ 142 < j)) → w1 j = w j
def kRt (R : Int → Int → Prop) (fl : va_W) (P : Int → (Nat → va_E) → Prop) : Option Value → (Nat → va_E) → va_W → Prop := fun v w1 fl1 => ∃ b th : Int, v = some (vI b) ∧ fl = fl1 ∧ R b th ∧ P th w1
def thR (c : Prop) (v : Int) (cn : Prop) (n1 : Int) (ci : Prop) (n2 : Int) : Int → Int → Prop := fun b th => (c ∧ th = 0 ∧ b = v) ∨ (cn ∧ th = n1) ∨ (ci ∧ th = n2)
theorem arcM_nn {v : Int} (h : 0 ≤ v) : 0 ≤ arcM v := by
  obtain ⟨a, h1, h2, h3⟩ := arcN_x v h
  unfold arcM
  rw [if_neg (by omega)]; omega
theorem rootM_ge {n x : Int} (hn : 0 ≤ n) (hx : 0 ≤ x) (h : x * x ≤ n) : x ≤ rootM n := by
  obtain ⟨h1, h2, h3⟩ := rootM_x n hn
  rcases Int.lt_or_le (rootM n) x with q | q
  · have := Int.mul_le_mul (show rootM n + 1 ≤ x by omega) (show rootM n + 1 ≤ x by omega) (by omega) hx
    omega
  · exact q
theorem natAbs_sq (x : Int) : (x.natAbs : Int) * (x.natAbs : Int) = x * x := by
  rcases Int.le_total 0 x with h | h
  · rw [show (x.natAbs : Int) = x by omega]
  · rw [show (x.natAbs : Int) = -x by omega, Int.neg_mul_neg]
theorem dstM_ge (g : Nat → Int) (T : Int) : ((fixE g T - dispM g T false).natAbs : Int) ≤ dstM g T := by
  have h1 := sq_nn (fixE g T - dispM g T false)
  have h2 := sq_nn (fixN g T - dispM g T true)
  exact rootM_ge (by omega) (by omega) (by rw [natAbs_sq]; omega)
set_option maxRecDepth 100000 in
set_option maxHeartbeats 4000000 in
theorem c_X12_thrown (l : Launch) (hls : l.stackTraces = false) (G : kG) (hN : kN G = 150) (w : Nat → va_E) (fl : va_W) (u : Nat → Int) (hm : w 133 = mdO G u) : KM l G yX12_thrown cX12_thrown 1 (some (FieldType.int)) 0 0 0 [.ref (kad G 133)] w fl (kPure (vI (u 5)) w fl) := by
  refine KM_of2 hls (by decide +kernel) rfl (lv0 := [(0, .ref (kad G 133))]) rfl (Nat.le_of_ble_eq_true rfl) (fun p e R s m args below meth c Q hC hr hQ => ?_)
  refine k_aload_n hC dX12_thrown_0 rfl 0 rfl ?_
  refine k_get hC fd_X12_74 (kl hN (by decide)) hm rfl dX12_thrown_1 ?_
  subst hQ
  exact k_iret hC hr ⟨by decide, by decide⟩ (⟨rfl, rfl, rfl⟩) dX12_thrown_4

set_option maxRecDepth 100000 in
set_option maxHeartbeats 4000000 in
theorem c_X12_raise (l : Launch) (hls : l.stackTraces = false) (G : kG) (hN : kN G = 150) (w : Nat → va_E) (fl : va_W) (u : Nat → Int) (x : Int) (hm : w 133 = mdO G u) : KM l G yX12_raise cX12_raise 2 (some (FieldType.int)) 0 0 0 [.ref (kad G 133), vI x] w fl (kMut (vI 0) fl (fun w1 => w1 133 = mdO G (kup u 5 x) ∧ ∀ j, j ≠ 133 → w1 j = w j)) := by
  refine KM_of2 hls (by decide +kernel) rfl (lv0 := [(0, .ref (kad G 133)), (1, vI x)]) rfl (Nat.le_of_ble_eq_true rfl) (fun p e R s m args below meth c Q hC hr hQ => ?_)
  refine k_aload_n hC dX12_raise_0 rfl 0 rfl ?_
  refine k_iload_n hC dX12_raise_1 rfl 1 rfl ?_
  refine k_put hC fd_X12_74 (kl hN (by decide)) hm [.ref (kad G 134), .ref (kad G 135), .ref (kad G 136), .ref (kad G 137), vI (u 4), vI x, vI (u 6), .ref (kad G 138), .ref (kad G 139), .ref (kad G 140), .ref (kad G 141), .ref (kad G 142), vL (u 12), vL (u 13), .ref (kad G 143), vI (u 15), .ref (kad G 144), vI (u 17), vI (u 18), vI (u 19), vI (u 20), vI (u 21), vI (u 22), vI (u 23), vI (u 24), vI (u 25), .ref (kad G 145), .ref (kad G 146), .ref (kad G 147), vI (u 29)] rfl (Nat.le_of_ble_eq_true rfl) rfl rfl dX12_raise_2 (fun w1 hw1 hf1 => ?_)
  refine k_iconst hC dX12_raise_5 ?_
  subst hQ
  exact k_iret hC hr ⟨by decide, by decide⟩ (⟨rfl, rfl, hw1, fun j hj => hf1 j (by omega)⟩) dX12_raise_6

set_option maxRecDepth 100000 in
set_option maxHeartbeats 4000000 in
theorem c_X12_isBody (l : Launch) (hls : l.stackTraces = false) (G : kG) (hN : kN G = 150) (w : Nat → va_E) (fl : va_W) (u g : Nat → Int) (b : Int) (hb : -2147483648 ≤ b ∧ b ≤ 2147483647) (hI : Inv g) (hm : w 133 = mdO G u) (hn : w 134 = lA G 93 g) : KM l G yX12_isBody cX12_isBody 2 (some (FieldType.boolean)) 1 0 0 [.ref (kad G 133), vI b] w fl (kPure (vI (if 0 ≤ b ∧ b ≤ g 0 - 1 then 1 else 0)) w fl) := by
  refine KM_of2 hls (by decide +kernel) rfl (lv0 := [(0, .ref (kad G 133)), (1, vI b)]) rfl (Nat.le_of_ble_eq_true rfl) (fun p e R s m args below meth c Q hC hr hQ => ?_)
  have h0 := hI.c
  refine k_iload_n hC dX12_isBody_0 rfl 1 rfl ?_
  refine k_i2l hC dX12_isBody_1 (by omega) ?_
  refine k_lconst (x := 0) hC dX12_isBody_2 (by decide) ?_
  refine k_aload_n hC dX12_isBody_3 rfl 0 rfl ?_
  refine k_get hC fd_X12_9 (kl hN (by decide)) hm rfl dX12_isBody_4 ?_
  refine k_iconst hC dX12_isBody_7 ?_
  refine k_lald hC (kl hN (by decide)) hn (by omega) (by decide) dX12_isBody_8 ?_
  refine k_topv (vL (g 0)) rfl ?_
  refine k_lconst (x := 1) hC dX12_isBody_9 (by decide) ?_
  refine k_lsub hC dX12_isBody_10 ?_
  refine k_pureS hC (c_X12_inRange l hls G hN w fl b 0 ((g 0) - 1) (by omega) (by omega) (by omega)) yy_X12_inRange wm_X12_243 rfl rfl (Nat.le_of_ble_eq_true rfl) (by decide) (by decide) ⟨by decide, by decide⟩ dX12_isBody_11 ?_
  refine k_topv (vI (if 0 ≤ b ∧ b ≤ (g 0) - 1 then 1 else 0)) rfl ?_
  subst hQ
  exact k_zret hC (by omega) hr ⟨by decide, by decide⟩ (⟨congrArg (fun z => some (vI z)) (show (if 0 ≤ b ∧ b ≤ g 0 - 1 then 1 else 0 : Int) = if 0 ≤ b ∧ b ≤ (g 0) - 1 then 1 else 0 from by omega), rfl, rfl⟩) dX12_isBody_14

set_option maxRecDepth 100000 in
set_option maxHeartbeats 4000000 in
theorem c_X12_isTime (l : Launch) (hls : l.stackTraces = false) (G : kG) (hN : kN G = 150) (w : Nat → va_E) (fl : va_W) (u g : Nat → Int) (b : Int) (hb : -2147483648 ≤ b ∧ b ≤ 2147483647) (hI : Inv g) (hm : w 133 = mdO G u) (hn : w 134 = lA G 93 g) : KM l G yX12_isTime cX12_isTime 2 (some (FieldType.boolean)) 1 0 0 [.ref (kad G 133), vI b] w fl (kPure (vI (if 0 ≤ b ∧ b ≤ 5000 then 1 else 0)) w fl) := by
  refine KM_of2 hls (by decide +kernel) rfl (lv0 := [(0, .ref (kad G 133)), (1, vI b)]) rfl (Nat.le_of_ble_eq_true rfl) (fun p e R s m args below meth c Q hC hr hQ => ?_)
  have h0 := hI.c
  refine k_iload_n hC dX12_isTime_0 rfl 1 rfl ?_
  refine k_i2l hC dX12_isTime_1 (by omega) ?_
  refine k_lconst (x := 0) hC dX12_isTime_2 (by decide) ?_
  refine k_ldc2 hC (x := 5000) (v := 5000) dX12_isTime_3 (by decide) wk_X12_260 ?_
  refine k_pureS hC (c_X12_inRange l hls G hN w fl b 0 5000 (by omega) (by omega) (by omega)) yy_X12_inRange wm_X12_243 rfl rfl (Nat.le_of_ble_eq_true rfl) (by decide) (by decide) ⟨by decide, by decide⟩ dX12_isTime_6 ?_
  refine k_topv (vI (if 0 ≤ b ∧ b ≤ 5000 then 1 else 0)) rfl ?_
  subst hQ
  exact k_zret hC (by omega) hr ⟨by decide, by decide⟩ (⟨rfl, rfl, rfl⟩) dX12_isTime_9

set_option maxRecDepth 100000 in
set_option maxHeartbeats 4000000 in
theorem c_X12_isSight (l : Launch) (hls : l.stackTraces = false) (G : kG) (hN : kN G = 150) (w : Nat → va_E) (fl : va_W) (u g : Nat → Int) (b : Int) (hb : -2147483648 ≤ b ∧ b ≤ 2147483647) (hI : Inv g) (hm : w 133 = mdO G u) (hn : w 134 = lA G 93 g) : KM l G yX12_isSight cX12_isSight 2 (some (FieldType.boolean)) 1 0 0 [.ref (kad G 133), vI b] w fl (kPure (vI (if 0 ≤ b ∧ b ≤ g 2 - 1 then 1 else 0)) w fl) := by
  refine KM_of2 hls (by decide +kernel) rfl (lv0 := [(0, .ref (kad G 133)), (1, vI b)]) rfl (Nat.le_of_ble_eq_true rfl) (fun p e R s m args below meth c Q hC hr hQ => ?_)
  have h0 := hI.c
  refine k_iload_n hC dX12_isSight_0 rfl 1 rfl ?_
  refine k_i2l hC dX12_isSight_1 (by omega) ?_
  refine k_lconst (x := 0) hC dX12_isSight_2 (by decide) ?_
  refine k_aload_n hC dX12_isSight_3 rfl 0 rfl ?_
  refine k_get hC fd_X12_9 (kl hN (by decide)) hm rfl dX12_isSight_4 ?_
  refine k_iconst hC dX12_isSight_7 ?_
  refine k_lald hC (kl hN (by decide)) hn (by omega) (by decide) dX12_isSight_8 ?_
  refine k_topv (vL (g 2)) rfl ?_
  refine k_lconst (x := 1) hC dX12_isSight_9 (by decide) ?_
  refine k_lsub hC dX12_isSight_10 ?_
  refine k_pureS hC (c_X12_inRange l hls G hN w fl b 0 ((g 2) - 1) (by omega) (by omega) (by omega)) yy_X12_inRange wm_X12_243 rfl rfl (Nat.le_of_ble_eq_true rfl) (by decide) (by decide) ⟨by decide, by decide⟩ dX12_isSight_11 ?_
  refine k_topv (vI (if 0 ≤ b ∧ b ≤ (g 2) - 1 then 1 else 0)) rfl ?_
  subst hQ
  exact k_zret hC (by omega) hr ⟨by decide, by decide⟩ (⟨congrArg (fun z => some (vI z)) (show (if 0 ≤ b ∧ b ≤ g 2 - 1 then 1 else 0 : Int) = if 0 ≤ b ∧ b ≤ (g 2) - 1 then 1 else 0 from by omega), rfl, rfl⟩) dX12_isSight_14

set_option maxRecDepth 100000 in
set_option maxHeartbeats 4000000 in
theorem c_X12_areSights (l : Launch) (hls : l.stackTraces = false) (G : kG) (hN : kN G = 150) (w : Nat → va_E) (fl : va_W) (u g : Nat → Int) (a b d : Int) (ha : -2147483648 ≤ a ∧ a ≤ 2147483647) (hb : -2147483648 ≤ b ∧ b ≤ 2147483647) (hd : -2147483648 ≤ d ∧ d ≤ 2147483647) (hI : Inv g) (hm : w 133 = mdO G u) (hn : w 134 = lA G 93 g) : KM l G yX12_areSights cX12_areSights 4 (some (FieldType.boolean)) 2 0 0 [.ref (kad G 133), vI a, vI b, vI d] w fl (kPure (vI (if (0 ≤ a ∧ a < g 2) ∧ (0 ≤ b ∧ b < g 2) ∧ (0 ≤ d ∧ d < g 2) then 1 else 0)) w fl) := by
  refine KM_of2 hls (by decide +kernel) rfl (lv0 := [(0, .ref (kad G 133)), (1, vI a), (2, vI b), (3, vI d)]) rfl (Nat.le_of_ble_eq_true rfl) (fun p e R s m args below meth c Q hC hr hQ => ?_)
  have h0 := hI.c
  refine k_aload_n hC dX12_areSights_0 rfl 0 rfl ?_
  refine k_iload_n hC dX12_areSights_1 rfl 1 rfl ?_
  refine k_pureV hC (c_X12_isSight l hls G hN w fl u g a (by omega) hI hm hn) yy_X12_isSight wm_X12_265 (kl hN (by decide)) hm rfl rfl rfl rfl (Nat.le_of_ble_eq_true rfl) (by decide) (by decide) ⟨by decide, by decide⟩ dX12_areSights_2 ?_
  obtain ⟨z_1, ez_1, hz_1⟩ := k_bI (0 ≤ a ∧ a ≤ g 2 - 1)
  refine k_topv (vI z_1) (by rw [ez_1]) ?_
  refine k_if_eq hC 28 dX12_areSights_5 rfl (by omega) (fun c_5 => ?_) (fun c_5 => ?_)
  · refine k_iconst hC dX12_areSights_28 ?_
    subst hQ
    exact k_zret hC (by omega) hr ⟨by decide, by decide⟩ (⟨congrArg (fun z => some (vI z)) (show (if (0 ≤ a ∧ a < g 2) ∧ (0 ≤ b ∧ b < g 2) ∧ (0 ≤ d ∧ d < g 2) then 1 else 0 : Int) = 0 from by first | exact if_pos (by omega) | exact if_neg (by omega)), rfl, rfl⟩) dX12_areSights_29
  · refine k_aload_n hC dX12_areSights_8 rfl 0 rfl ?_
    refine k_iload_n hC dX12_areSights_9 rfl 2 rfl ?_
    refine k_pureV hC (c_X12_isSight l hls G hN w fl u g b (by omega) hI hm hn) yy_X12_isSight wm_X12_265 (kl hN (by decide)) hm rfl rfl rfl rfl (Nat.le_of_ble_eq_true rfl) (by decide) (by decide) ⟨by decide, by decide⟩ dX12_areSights_10 ?_
    obtain ⟨z_2, ez_2, hz_2⟩ := k_bI (0 ≤ b ∧ b ≤ g 2 - 1)
    refine k_topv (vI z_2) (by rw [ez_2]) ?_
    refine k_if_eq hC 28 dX12_areSights_13 rfl (by omega) (fun c_13 => ?_) (fun c_13 => ?_)
    · refine k_iconst hC dX12_areSights_28 ?_
      subst hQ
      exact k_zret hC (by omega) hr ⟨by decide, by decide⟩ (⟨congrArg (fun z => some (vI z)) (show (if (0 ≤ a ∧ a < g 2) ∧ (0 ≤ b ∧ b < g 2) ∧ (0 ≤ d ∧ d < g 2) then 1 else 0 : Int) = 0 from by first | exact if_pos (by omega) | exact if_neg (by omega)), rfl, rfl⟩) dX12_areSights_29
    · refine k_aload_n hC dX12_areSights_16 rfl 0 rfl ?_
      refine k_iload_n hC dX12_areSights_17 rfl 3 rfl ?_
      refine k_pureV hC (c_X12_isSight l hls G hN w fl u g d (by omega) hI hm hn) yy_X12_isSight wm_X12_265 (kl hN (by decide)) hm rfl rfl rfl rfl (Nat.le_of_ble_eq_true rfl) (by decide) (by decide) ⟨by decide, by decide⟩ dX12_areSights_18 ?_
      obtain ⟨z_3, ez_3, hz_3⟩ := k_bI (0 ≤ d ∧ d ≤ g 2 - 1)
      refine k_topv (vI z_3) (by rw [ez_3]) ?_
      refine k_if_eq hC 28 dX12_areSights_21 rfl (by omega) (fun c_21 => ?_) (fun c_21 => ?_)
      · refine k_iconst hC dX12_areSights_28 ?_
        subst hQ
        exact k_zret hC (by omega) hr ⟨by decide, by decide⟩ (⟨congrArg (fun z => some (vI z)) (show (if (0 ≤ a ∧ a < g 2) ∧ (0 ≤ b ∧ b < g 2) ∧ (0 ≤ d ∧ d < g 2) then 1 else 0 : Int) = 0 from by first | exact if_pos (by omega) | exact if_neg (by omega)), rfl, rfl⟩) dX12_areSights_29
      · refine k_iconst hC dX12_areSights_24 ?_
        refine k_goto hC 29 dX12_areSights_25 rfl ?_
        subst hQ
        exact k_zret hC (by omega) hr ⟨by decide, by decide⟩ (⟨congrArg (fun z => some (vI z)) (show (if (0 ≤ a ∧ a < g 2) ∧ (0 ≤ b ∧ b < g 2) ∧ (0 ≤ d ∧ d < g 2) then 1 else 0 : Int) = 1 from by first | exact if_pos (by omega) | exact if_neg (by omega)), rfl, rfl⟩) dX12_areSights_29

set_option maxRecDepth 100000 in
set_option maxHeartbeats 4000000 in
theorem c_X12_sine (l : Launch) (hls : l.stackTraces = false) (G : kG) (hN : kN G = 150) (w : Nat → va_E) (fl : va_W) (u g : Nat → Int) (a : Int) (ha : -2147483648 ≤ a ∧ a ≤ 2147483647) (hI : Inv g) (hm : w 133 = mdO G u) (hn : w 134 = lA G 93 g) (hSc : kScr G w) : KM l G yX12_sine cX12_sine 2 (some (FieldType.int)) 4 0 0 [.ref (kad G 133), vI a] w fl (kRt (thR (True) (sinM a) (False) 1 (False) 2) fl (fun th w1 => mSt G w w1 u th)) := by
  refine KM_of2 hls (by decide +kernel) rfl (lv0 := [(0, .ref (kad G 133)), (1, vI a)]) rfl (Nat.le_of_ble_eq_true rfl) (fun p e R s m args below meth c Q hC hr hQ => ?_)
  obtain ⟨⟨ls, lc, lo, hLs⟩, hx, hy, hHt⟩ := hSc
  have h0 := hI.c
  refine k_aload_n hC dX12_sine_0 rfl 0 rfl ?_
  refine k_iconst hC dX12_sine_1 ?_
  refine k_put hC fd_X12_74 (kl hN (by decide)) hm [.ref (kad G 134), .ref (kad G 135), .ref (kad G 136), .ref (kad G 137), vI (u 4), vI 0, vI (u 6), .ref (kad G 138), .ref (kad G 139), .ref (kad G 140), .ref (kad G 141), .ref (kad G 142), vL (u 12), vL (u 13), .ref (kad G 143), vI (u 15), .ref (kad G 144), vI (u 17), vI (u 18), vI (u 19), vI (u 20), vI (u 21), vI (u 22), vI (u 23), vI (u 24), vI (u 25), .ref (kad G 145), .ref (kad G 146), .ref (kad G 147), vI (u 29)] rfl (Nat.le_of_ble_eq_true rfl) rfl rfl dX12_sine_2 (fun w1 hw1 hf1 => ?_)
  refine k_iload_n hC dX12_sine_5 rfl 1 rfl ?_
  refine k_i2l hC dX12_sine_6 (by omega) ?_
  refine k_pureS hC (c_X12_sineOf l hls G hN w1 fl a (by omega)) yy_X12_sineOf wm_X12_101 rfl rfl (Nat.le_of_ble_eq_true rfl) (by decide) (by decide) ⟨by decide, by decide⟩ dX12_sine_7 ?_
  have hb_2 := sinM_b a
  refine k_l2i hC dX12_sine_10 ?_
  have hB_3 : kLns G w1 ls lc lo := hLs.fr (fun j q1 q2 => (hf1 j (by omega)))
  have hB_4 : kHts G w1 hx hy := hHt.fr (fun j q1 q2 => (hf1 j (by omega)))
  subst hQ
  exact k_iret hC hr ⟨by decide, by decide⟩ (⟨_, 0, rfl, rfl, Or.inl ⟨trivial, rfl, (show ((sinM a : Int) = sinM a) from rfl)⟩, ⟨⟨u 12, u 13, hw1⟩, ⟨⟨_, _, _, hB_3⟩, _, _, hB_4⟩, fun j hj => hf1 j (by omega)⟩⟩) dX12_sine_11

set_option maxRecDepth 100000 in
set_option maxHeartbeats 4000000 in
theorem c_X12_arc (l : Launch) (hls : l.stackTraces = false) (G : kG) (hN : kN G = 150) (w : Nat → va_E) (fl : va_W) (u g : Nat → Int) (a : Int) (ha : -2147483648 ≤ a ∧ a ≤ 2147483647) (hI : Inv g) (hm : w 133 = mdO G u) (hn : w 134 = lA G 93 g) (hSc : kScr G w) : KM l G yX12_arc cX12_arc 2 (some (FieldType.int)) 6 0 0 [.ref (kad G 133), vI a] w fl (kRt (thR (-1000000 ≤ a ∧ a ≤ 1000000) (arcM a) (False) 1 (¬ (-1000000 ≤ a ∧ a ≤ 1000000)) 1) fl (fun th w1 => mSt G w w1 u th)) := by
  refine KM_of2 hls (by decide +kernel) rfl (lv0 := [(0, .ref (kad G 133)), (1, vI a)]) rfl (Nat.le_of_ble_eq_true rfl) (fun p e R s m args below meth c Q hC hr hQ => ?_)
  obtain ⟨⟨ls, lc, lo, hLs⟩, hx, hy, hHt⟩ := hSc
  have h0 := hI.c
  refine k_aload_n hC dX12_arc_0 rfl 0 rfl ?_
  refine k_iconst hC dX12_arc_1 ?_
  refine k_put hC fd_X12_74 (kl hN (by decide)) hm [.ref (kad G 134), .ref (kad G 135), .ref (kad G 136), .ref (kad G 137), vI (u 4), vI 0, vI (u 6), .ref (kad G 138), .ref (kad G 139), .ref (kad G 140), .ref (kad G 141), .ref (kad G 142), vL (u 12), vL (u 13), .ref (kad G 143), vI (u 15), .ref (kad G 144), vI (u 17), vI (u 18), vI (u 19), vI (u 20), vI (u 21), vI (u 22), vI (u 23), vI (u 24), vI (u 25), .ref (kad G 145), .ref (kad G 146), .ref (kad G 147), vI (u 29)] rfl (Nat.le_of_ble_eq_true rfl) rfl rfl dX12_arc_2 (fun w1 hw1 hf1 => ?_)
  refine k_iload_n hC dX12_arc_5 rfl 1 rfl ?_
  refine k_i2l hC dX12_arc_6 (by omega) ?_
  refine k_ldc2 hC (x := (-1000000)) (v := (-1000000)) dX12_arc_7 (by decide) wk_X12_241 ?_
  refine k_ldc2 hC (x := 1000000) (v := 1000000) dX12_arc_10 (by decide) wk_X12_113 ?_
  refine k_pureS hC (c_X12_inRange l hls G hN w1 fl a (-1000000) 1000000 (by omega) (by omega) (by omega)) yy_X12_inRange wm_X12_243 rfl rfl (Nat.le_of_ble_eq_true rfl) (by decide) (by decide) ⟨by decide, by decide⟩ dX12_arc_13 ?_
  refine k_topv (vI (if -1000000 ≤ a ∧ a ≤ 1000000 then 1 else 0)) rfl ?_
  obtain ⟨z_2, ez_2, hz_2⟩ := k_bI (-1000000 ≤ a ∧ a ≤ 1000000)
  refine k_topv (vI z_2) (by rw [ez_2]) ?_
  refine k_if_eq hC 28 dX12_arc_16 rfl (by omega) (fun c_16 => ?_) (fun c_16 => ?_)
  · refine k_aload_n hC dX12_arc_28 rfl 0 rfl ?_
    refine k_iconst hC dX12_arc_29 ?_
    refine k_mutV hC (c_X12_raise l hls G hN w1 fl (kup u 5 0) 1 hw1) yy_X12_raise wm_X12_247 (kl hN (by decide)) hw1 rfl rfl rfl rfl (Nat.le_of_ble_eq_true rfl) (by decide) (by decide) ⟨by decide, by decide⟩ dX12_arc_30 (fun w3 hp3 => ?_)
    obtain ⟨hu3, hf3⟩ := hp3
    have hB_4 : kLns G w3 ls lc lo := hLs.fr (fun j q1 q2 => (hf3 j (by omega)).trans (hf1 j (by omega)))
    have hB_5 : kHts G w3 hx hy := hHt.fr (fun j q1 q2 => (hf3 j (by omega)).trans (hf1 j (by omega)))
    subst hQ
    exact k_iret hC hr ⟨by decide, by decide⟩ (⟨_, 1, rfl, rfl, Or.inr (Or.inr ⟨by omega, rfl⟩), ⟨⟨u 12, u 13, hu3⟩, ⟨⟨_, _, _, hB_4⟩, _, _, hB_5⟩, fun j hj => (hf3 j (by omega)).trans (hf1 j (by omega))⟩⟩) dX12_arc_33
  · refine k_iload_n hC dX12_arc_19 rfl 1 rfl ?_
    refine k_i2l hC dX12_arc_20 (by omega) ?_
    refine k_pureS hC (c_X12_arcOf l hls G hN w1 fl a (by omega)) yy_X12_arcOf wm_X12_110 rfl rfl (Nat.le_of_ble_eq_true rfl) (by decide) (by decide) ⟨by decide, by decide⟩ dX12_arc_21 ?_
    have hb_6 := arcM_b a
    refine k_l2i hC dX12_arc_24 ?_
    refine k_goto hC 33 dX12_arc_25 rfl ?_
    have hB_7 : kLns G w1 ls lc lo := hLs.fr (fun j q1 q2 => (hf1 j (by omega)))
    have hB_8 : kHts G w1 hx hy := hHt.fr (fun j q1 q2 => (hf1 j (by omega)))
    subst hQ
    exact k_iret hC hr ⟨by decide, by decide⟩ (⟨_, 0, rfl, rfl, Or.inl ⟨by omega, rfl, (show ((arcM a : Int) = arcM a) from rfl)⟩, ⟨⟨u 12, u 13, hw1⟩, ⟨⟨_, _, _, hB_7⟩, _, _, hB_8⟩, fun j hj => hf1 j (by omega)⟩⟩) dX12_arc_33

set_option maxRecDepth 100000 in
set_option maxHeartbeats 4000000 in
theorem c_X12_told (l : Launch) (hls : l.stackTraces = false) (G : kG) (hN : kN G = 150) (w : Nat → va_E) (fl : va_W) (u g : Nat → Int) (q : Int) (hq : -2147483648 ≤ q ∧ q ≤ 2147483647) (hI : Inv g) (hm : w 133 = mdO G u) (hn : w 134 = lA G 93 g) (hSc : kScr G w) : KM l G yX12_told cX12_told 2 (some (FieldType.int)) 1 0 0 [.ref (kad G 133), vI q] w fl (kRt (thR (0 ≤ q ∧ q ≤ 8) (g q.toNat) (¬ (0 ≤ q ∧ q ≤ 8)) 1 (False) 2) fl (fun th w1 => mSt G w w1 u th)) := by
  refine KM_of2 hls (by decide +kernel) rfl (lv0 := [(0, .ref (kad G 133)), (1, vI q)]) rfl (Nat.le_of_ble_eq_true rfl) (fun p e R s m args below meth c Q hC hr hQ => ?_)
  obtain ⟨⟨ls, lc, lo, hLs⟩, hx, hy, hHt⟩ := hSc
  have h0 := hI.c
  refine k_aload_n hC dX12_told_0 rfl 0 rfl ?_
  refine k_iconst hC dX12_told_1 ?_
  refine k_put hC fd_X12_74 (kl hN (by decide)) hm [.ref (kad G 134), .ref (kad G 135), .ref (kad G 136), .ref (kad G 137), vI (u 4), vI 0, vI (u 6), .ref (kad G 138), .ref (kad G 139), .ref (kad G 140), .ref (kad G 141), .ref (kad G 142), vL (u 12), vL (u 13), .ref (kad G 143), vI (u 15), .ref (kad G 144), vI (u 17), vI (u 18), vI (u 19), vI (u 20), vI (u 21), vI (u 22), vI (u 23), vI (u 24), vI (u 25), .ref (kad G 145), .ref (kad G 146), .ref (kad G 147), vI (u 29)] rfl (Nat.le_of_ble_eq_true rfl) rfl rfl dX12_told_2 (fun w1 hw1 hf1 => ?_)
  refine k_iload_n hC dX12_told_5 rfl 1 rfl ?_
  refine k_i2l hC dX12_told_6 (by omega) ?_
  refine k_lconst (x := 0) hC dX12_told_7 (by decide) ?_
  refine k_ldc2 hC (x := 8) (v := 8) dX12_told_8 (by decide) wk_X12_251 ?_
  refine k_pureS hC (c_X12_inRange l hls G hN w1 fl q 0 8 (by omega) (by omega) (by omega)) yy_X12_inRange wm_X12_243 rfl rfl (Nat.le_of_ble_eq_true rfl) (by decide) (by decide) ⟨by decide, by decide⟩ dX12_told_11 ?_
  refine k_topv (vI (if 0 ≤ q ∧ q ≤ 8 then 1 else 0)) rfl ?_
  obtain ⟨z_2, ez_2, hz_2⟩ := k_bI (0 ≤ q ∧ q ≤ 8)
  refine k_topv (vI z_2) (by rw [ez_2]) ?_
  refine k_if_eq hC 27 dX12_told_14 rfl (by omega) (fun c_14 => ?_) (fun c_14 => ?_)
  · refine k_aload_n hC dX12_told_27 rfl 0 rfl ?_
    refine k_iconst hC dX12_told_28 ?_
    refine k_mutV hC (c_X12_raise l hls G hN w1 fl (kup u 5 0) 1 hw1) yy_X12_raise wm_X12_247 (kl hN (by decide)) hw1 rfl rfl rfl rfl (Nat.le_of_ble_eq_true rfl) (by decide) (by decide) ⟨by decide, by decide⟩ dX12_told_29 (fun w3 hp3 => ?_)
    obtain ⟨hu3, hf3⟩ := hp3
    have hB_4 : kLns G w3 ls lc lo := hLs.fr (fun j q1 q2 => (hf3 j (by omega)).trans (hf1 j (by omega)))
    have hB_5 : kHts G w3 hx hy := hHt.fr (fun j q1 q2 => (hf3 j (by omega)).trans (hf1 j (by omega)))
    subst hQ
    exact k_iret hC hr ⟨by decide, by decide⟩ (⟨_, 1, rfl, rfl, Or.inr (Or.inl ⟨by omega, rfl⟩), ⟨⟨u 12, u 13, hu3⟩, ⟨⟨_, _, _, hB_4⟩, _, _, hB_5⟩, fun j hj => (hf3 j (by omega)).trans (hf1 j (by omega))⟩⟩) dX12_told_32
  · refine k_aload_n hC dX12_told_17 rfl 0 rfl ?_
    refine k_get hC fd_X12_9 (kl hN (by decide)) hw1 rfl dX12_told_18 ?_
    refine k_iload_n hC dX12_told_21 rfl 1 rfl ?_
    have h_6 : w1 134 = lA G 93 g := (hf1 134 (by decide)).trans hn
    refine k_lald hC (kl hN (by decide)) h_6 (by omega) (by decide) dX12_told_22 ?_
    refine k_topv (vL (g q.toNat)) rfl ?_
    refine k_l2i hC dX12_told_23 ?_
    refine k_goto hC 32 dX12_told_24 rfl ?_
    have hB_7 : kLns G w1 ls lc lo := hLs.fr (fun j q1 q2 => (hf1 j (by omega)))
    have hB_8 : kHts G w1 hx hy := hHt.fr (fun j q1 q2 => (hf1 j (by omega)))
    subst hQ
    exact k_iret hC hr ⟨by decide, by decide⟩ (⟨_, 0, rfl, rfl, Or.inl ⟨by omega, rfl, (show ((g q.toNat : Int) = g q.toNat) from rfl)⟩, ⟨⟨u 12, u 13, hw1⟩, ⟨⟨_, _, _, hB_7⟩, _, _, hB_8⟩, fun j hj => hf1 j (by omega)⟩⟩) dX12_told_32

set_option maxRecDepth 100000 in
set_option maxHeartbeats 4000000 in
theorem c_X12_sightsOf (l : Launch) (hls : l.stackTraces = false) (G : kG) (hN : kN G = 150) (w : Nat → va_E) (fl : va_W) (u g : Nat → Int) (b : Int) (hb : -2147483648 ≤ b ∧ b ≤ 2147483647) (hI : Inv g) (hm : w 133 = mdO G u) (hn : w 134 = lA G 93 g) : KM l G yX12_sightsOf cX12_sightsOf 4 (some (FieldType.int)) 1 0 0 [.ref (kad G 133), vI b] w fl (kPure (vI (cntM g b (g 2).toNat)) w fl) := by
  refine KM_of2 hls (by decide +kernel) rfl (lv0 := [(0, .ref (kad G 133)), (1, vI b)]) rfl (Nat.le_of_ble_eq_true rfl) (fun p e R s m args below meth c Q hC hr hQ => ?_)
  have h0 := hI.c
  refine k_iconst hC dX12_sightsOf_0 ?_
  refine k_istore_n hC [(2, vI 0), (0, .ref (kad G 133)), (1, vI b)] dX12_sightsOf_1 rfl (by decide) rfl ?_
  refine k_iconst hC dX12_sightsOf_2 ?_
  refine k_istore_n hC [(3, vI 0), (2, vI 0), (0, .ref (kad G 133)), (1, vI b)] dX12_sightsOf_3 rfl (by decide) rfl ?_
  have loop : ∀ (n : Nat) (k : Nat) (cn : Int), ((g 2).toNat < n + k) → ((k : Int) ≤ g 2) → (cn = cntM g b k) → KW p l e R s m args below meth c 4 G Q w fl 0 0 4 [(3, vI (k : Int)), (2, vI cn), (0, .ref (kad G 133)), (1, vI b)] [] := by
    intro n
    induction n with
    | zero =>
      intro k cn hn_ hk hc
      exact absurd hn_ (by omega)
    | succ n ih =>
      intro k cn hn_ hk hc
      have hsk := fun hk2 => hI.sight k hk2
      have hcb := cntM_b g b k
      refine k_iload_n hC dX12_sightsOf_4 rfl 0 rfl ?_
      refine k_i2l hC dX12_sightsOf_5 (by omega) ?_
      refine k_aload_n hC dX12_sightsOf_6 rfl 2 rfl ?_
      refine k_get hC fd_X12_9 (kl hN (by decide)) hm rfl dX12_sightsOf_7 ?_
      refine k_iconst hC dX12_sightsOf_10 ?_
      refine k_lald hC (kl hN (by decide)) hn (by omega) (by decide) dX12_sightsOf_11 ?_
      refine k_topv (vL (g 2)) rfl ?_
      refine k_lcmp_ge hC 42 dX12_sightsOf_12 dX12_sightsOf_13 rfl (by omega) (by omega) (fun c_12 => ?_) (fun c_12 => ?_)
      · refine k_iload_n hC dX12_sightsOf_42 rfl 1 rfl ?_
        subst hQ
        exact k_iret hC hr ⟨by decide, by decide⟩ (⟨congrArg (fun z => some (vI z)) (show (cntM g b (g 2).toNat : Int) = cn from by rw [show (g 2).toNat = k by omega]; exact hc.symm), rfl, rfl⟩) dX12_sightsOf_43
      · refine k_iload_n hC dX12_sightsOf_16 rfl 1 rfl ?_
        refine k_aload_n hC dX12_sightsOf_17 rfl 2 rfl ?_
        refine k_iload_n hC dX12_sightsOf_18 rfl 0 rfl ?_
        refine k_iconst hC dX12_sightsOf_19 ?_
        refine k_pureV hC (c_X12_ofSight l hls G hN w fl u g k 0 (by omega) (by decide) hm hn) yy_X12_ofSight wm_X12_147 (kl hN (by decide)) hm rfl rfl rfl rfl (Nat.le_of_ble_eq_true rfl) (by decide) (by decide) ⟨by decide, by decide⟩ dX12_sightsOf_20 ?_
        refine k_topv (vL (g (57 + 3 * k))) rfl ?_
        refine k_iload_n hC dX12_sightsOf_23 rfl 3 rfl ?_
        refine k_i2l hC dX12_sightsOf_24 (by omega) ?_
        refine k_lcmp_ne hC 33 dX12_sightsOf_25 dX12_sightsOf_26 rfl (by omega) (by omega) (fun c_25 => ?_) (fun c_25 => ?_)
        · refine k_iconst hC dX12_sightsOf_33 ?_
          refine k_iadd hC dX12_sightsOf_34 ?_
          refine k_topI (fun nc enc => ?_)
          refine k_istore_n hC [(2, vI nc), (3, vI (k : Int)), (0, .ref (kad G 133)), (1, vI b)] dX12_sightsOf_35 rfl (by decide) rfl ?_
          refine k_iinc hC (y := (k : Int) + 1) [(3, vI ((k : Int) + 1)), (2, vI nc), (0, .ref (kad G 133)), (1, vI b)] (j := 1) dX12_sightsOf_36 rfl (by omega) (by decide) rfl ?_
          refine k_goto hC 4 dX12_sightsOf_39 rfl ?_
          refine k_lvs (ls := [0, 1, 2, 3]) [(3, vI ((k + 1 : Nat) : Int)), (2, vI nc), (0, .ref (kad G 133)), (1, vI b)] (by simp only [lv_pick]; rfl) ?_
          exact ih (k + 1) nc  (by omega) (by omega) (by show _ = cntM g b k + _; first | (rw [if_pos (by omega)]; omega) | (rw [if_neg (by omega)]; omega))
        · refine k_iconst hC dX12_sightsOf_29 ?_
          refine k_goto hC 34 dX12_sightsOf_30 rfl ?_
          refine k_iadd hC dX12_sightsOf_34 ?_
          refine k_topI (fun nc enc => ?_)
          refine k_istore_n hC [(2, vI nc), (3, vI (k : Int)), (0, .ref (kad G 133)), (1, vI b)] dX12_sightsOf_35 rfl (by decide) rfl ?_
          refine k_iinc hC (y := (k : Int) + 1) [(3, vI ((k : Int) + 1)), (2, vI nc), (0, .ref (kad G 133)), (1, vI b)] (j := 1) dX12_sightsOf_36 rfl (by omega) (by decide) rfl ?_
          refine k_goto hC 4 dX12_sightsOf_39 rfl ?_
          refine k_lvs (ls := [0, 1, 2, 3]) [(3, vI ((k + 1 : Nat) : Int)), (2, vI nc), (0, .ref (kad G 133)), (1, vI b)] (by simp only [lv_pick]; rfl) ?_
          exact ih (k + 1) nc  (by omega) (by omega) (by show _ = cntM g b k + _; first | (rw [if_pos (by omega)]; omega) | (rw [if_neg (by omega)]; omega))
  refine k_lvs (ls := [0, 1, 2, 3]) [(3, vI ((0 : Nat) : Int)), (2, vI 0), (0, .ref (kad G 133)), (1, vI b)] (by simp only [lv_pick]; rfl) ?_
  exact loop 13 0 0  (by omega) (by omega) rfl

set_option maxRecDepth 100000 in
set_option maxHeartbeats 4000000 in
theorem c_X12_body (l : Launch) (hls : l.stackTraces = false) (G : kG) (hN : kN G = 150) (w : Nat → va_E) (fl : va_W) (u g : Nat → Int) (b q : Int) (hb : -2147483648 ≤ b ∧ b ≤ 2147483647) (hq : -2147483648 ≤ q ∧ q ≤ 2147483647) (hI : Inv g) (hm : w 133 = mdO G u) (hn : w 134 = lA G 93 g) (hSc : kScr G w) : KM l G yX12_body cX12_body 3 (some (FieldType.int)) 2 0 0 [.ref (kad G 133), vI b, vI q] w fl (kRt (thR ((0 ≤ b ∧ b < g 0) ∧ (0 ≤ q ∧ q ≤ 3)) (bodyV g b.toNat q) (¬ ((0 ≤ b ∧ b < g 0) ∧ (0 ≤ q ∧ q ≤ 3))) 1 (False) 2) fl (fun th w1 => mSt G w w1 u th)) := by
  refine KM_of2 hls (by decide +kernel) rfl (lv0 := [(0, .ref (kad G 133)), (1, vI b), (2, vI q)]) rfl (Nat.le_of_ble_eq_true rfl) (fun p e R s m args below meth c Q hC hr hQ => ?_)
  obtain ⟨⟨ls, lc, lo, hLs⟩, hx, hy, hHt⟩ := hSc
  have h0 := hI.c
  refine k_aload_n hC dX12_body_0 rfl 0 rfl ?_
  refine k_iconst hC dX12_body_1 ?_
  refine k_put hC fd_X12_74 (kl hN (by decide)) hm [.ref (kad G 134), .ref (kad G 135), .ref (kad G 136), .ref (kad G 137), vI (u 4), vI 0, vI (u 6), .ref (kad G 138), .ref (kad G 139), .ref (kad G 140), .ref (kad G 141), .ref (kad G 142), vL (u 12), vL (u 13), .ref (kad G 143), vI (u 15), .ref (kad G 144), vI (u 17), vI (u 18), vI (u 19), vI (u 20), vI (u 21), vI (u 22), vI (u 23), vI (u 24), vI (u 25), .ref (kad G 145), .ref (kad G 146), .ref (kad G 147), vI (u 29)] rfl (Nat.le_of_ble_eq_true rfl) rfl rfl dX12_body_2 (fun w1 hw1 hf1 => ?_)
  refine k_aload_n hC dX12_body_5 rfl 0 rfl ?_
  refine k_iload_n hC dX12_body_6 rfl 1 rfl ?_
  have h_2 : w1 134 = lA G 93 g := (hf1 134 (by decide)).trans hn
  refine k_pureV hC (c_X12_isBody l hls G hN w1 fl (kup u 5 0) g b (by omega) hI hw1 h_2) yy_X12_isBody wm_X12_253 (kl hN (by decide)) hw1 rfl rfl rfl rfl (Nat.le_of_ble_eq_true rfl) (by decide) (by decide) ⟨by decide, by decide⟩ dX12_body_7 ?_
  obtain ⟨z_3, ez_3, hz_3⟩ := k_bI (0 ≤ b ∧ b ≤ g 0 - 1)
  refine k_topv (vI z_3) (by rw [ez_3]) ?_
  refine k_if_eq hC 25 dX12_body_10 rfl (by omega) (fun c_10 => ?_) (fun c_10 => ?_)
  · refine k_aload_n hC dX12_body_25 rfl 0 rfl ?_
    refine k_iconst hC dX12_body_26 ?_
    refine k_mutV hC (c_X12_raise l hls G hN w1 fl (kup u 5 0) 1 hw1) yy_X12_raise wm_X12_247 (kl hN (by decide)) hw1 rfl rfl rfl rfl (Nat.le_of_ble_eq_true rfl) (by decide) (by decide) ⟨by decide, by decide⟩ dX12_body_27 (fun w4 hp4 => ?_)
    obtain ⟨hu4, hf4⟩ := hp4
    have hB_5 : kLns G w4 ls lc lo := hLs.fr (fun j q1 q2 => (hf4 j (by omega)).trans (hf1 j (by omega)))
    have hB_6 : kHts G w4 hx hy := hHt.fr (fun j q1 q2 => (hf4 j (by omega)).trans (hf1 j (by omega)))
    subst hQ
    exact k_iret hC hr ⟨by decide, by decide⟩ (⟨_, 1, rfl, rfl, Or.inr (Or.inl ⟨by omega, rfl⟩), ⟨⟨u 12, u 13, hu4⟩, ⟨⟨_, _, _, hB_5⟩, _, _, hB_6⟩, fun j hj => (hf4 j (by omega)).trans (hf1 j (by omega))⟩⟩) dX12_body_30
  · refine k_iload_n hC dX12_body_13 rfl 2 rfl ?_
    refine k_i2l hC dX12_body_14 (by omega) ?_
    refine k_lconst (x := 0) hC dX12_body_15 (by decide) ?_
    refine k_ldc2 hC (x := 3) (v := 3) dX12_body_16 (by decide) wk_X12_142 ?_
    refine k_pureS hC (c_X12_inRange l hls G hN w1 fl q 0 3 (by omega) (by omega) (by omega)) yy_X12_inRange wm_X12_243 rfl rfl (Nat.le_of_ble_eq_true rfl) (by decide) (by decide) ⟨by decide, by decide⟩ dX12_body_19 ?_
    refine k_topv (vI (if 0 ≤ q ∧ q ≤ 3 then 1 else 0)) rfl ?_
    obtain ⟨z_7, ez_7, hz_7⟩ := k_bI (0 ≤ q ∧ q ≤ 3)
    refine k_topv (vI z_7) (by rw [ez_7]) ?_
    refine k_if_ne hC 31 dX12_body_22 rfl (by omega) (fun c_22 => ?_) (fun c_22 => ?_)
    · refine k_iload_n hC dX12_body_31 rfl 2 rfl ?_
      refine k_iconst hC dX12_body_32 ?_
      refine k_icmp_ne hC 44 dX12_body_33 rfl (by omega) (by omega) (fun c_33 => ?_) (fun c_33 => ?_)
      · obtain ⟨k, ek⟩ : ∃ zz : Nat, b = (zz : Int) := ⟨b.toNat, by omega⟩
        subst ek
        obtain ⟨p0, ep0⟩ : ∃ zz : Nat, q = (zz : Int) := ⟨q.toNat, by omega⟩
        subst ep0
        refine k_aload_n hC dX12_body_44 rfl 0 rfl ?_
        refine k_iload_n hC dX12_body_45 rfl 1 rfl ?_
        refine k_i2l hC dX12_body_46 (by omega) ?_
        refine k_iload_n hC dX12_body_47 rfl 2 rfl ?_
        refine k_pureV hC (c_X12_ofBody l hls G hN w1 fl (kup u 5 0) g (k : Int) p0 (by omega) (by omega) hw1 h_2) yy_X12_ofBody wm_X12_158 (kl hN (by decide)) hw1 rfl rfl rfl rfl (Nat.le_of_ble_eq_true rfl) (by decide) (by decide) ⟨by decide, by decide⟩ dX12_body_48 ?_
        refine k_topv (vL (g (9 + p0 + 4 * ((k : Int)).toNat))) rfl ?_
        refine k_l2i hC dX12_body_51 ?_
        have hB_8 : kLns G w1 ls lc lo := hLs.fr (fun j q1 q2 => (hf1 j (by omega)))
        have hB_9 : kHts G w1 hx hy := hHt.fr (fun j q1 q2 => (hf1 j (by omega)))
        subst hQ
        exact k_iret hC hr ⟨by decide, by decide⟩ (⟨_, 0, rfl, rfl, Or.inl ⟨by omega, rfl, (show ((g (9 + p0 + 4 * ((k : Int)).toNat) : Int) = bodyV g k (p0 : Int)) from (by unfold bodyV; rcases (show p0 = 0 ∨ p0 = 1 ∨ p0 = 2 by omega) with h | h | h <;> subst h <;> rfl))⟩, ⟨⟨u 12, u 13, hw1⟩, ⟨⟨_, _, _, hB_8⟩, _, _, hB_9⟩, fun j hj => hf1 j (by omega)⟩⟩) dX12_body_52
      · obtain ⟨k, ek⟩ : ∃ zz : Nat, b = (zz : Int) := ⟨b.toNat, by omega⟩
        subst ek
        refine k_aload_n hC dX12_body_36 rfl 0 rfl ?_
        refine k_iload_n hC dX12_body_37 rfl 1 rfl ?_
        refine k_pureV hC (c_X12_sightsOf l hls G hN w1 fl (kup u 5 0) g (k : Int) (by omega) hI hw1 h_2) yy_X12_sightsOf wm_X12_257 (kl hN (by decide)) hw1 rfl rfl rfl rfl (Nat.le_of_ble_eq_true rfl) (by decide) (by decide) ⟨by decide, by decide⟩ dX12_body_38 ?_
        refine k_topv (vI (cntM g (k : Int) (g 2).toNat)) rfl ?_
        refine k_goto hC 52 dX12_body_41 rfl ?_
        have hB_10 : kLns G w1 ls lc lo := hLs.fr (fun j q1 q2 => (hf1 j (by omega)))
        have hB_11 : kHts G w1 hx hy := hHt.fr (fun j q1 q2 => (hf1 j (by omega)))
        subst hQ
        exact k_iret hC hr ⟨by decide, by decide⟩ (⟨_, 0, rfl, rfl, Or.inl ⟨by omega, rfl, (show ((cntM g (k : Int) (g 2).toNat : Int) = bodyV g k q) from (by rw [show q = 3 by omega]; rfl))⟩, ⟨⟨u 12, u 13, hw1⟩, ⟨⟨_, _, _, hB_10⟩, _, _, hB_11⟩, fun j hj => hf1 j (by omega)⟩⟩) dX12_body_52
    · refine k_aload_n hC dX12_body_25 rfl 0 rfl ?_
      refine k_iconst hC dX12_body_26 ?_
      refine k_mutV hC (c_X12_raise l hls G hN w1 fl (kup u 5 0) 1 hw1) yy_X12_raise wm_X12_247 (kl hN (by decide)) hw1 rfl rfl rfl rfl (Nat.le_of_ble_eq_true rfl) (by decide) (by decide) ⟨by decide, by decide⟩ dX12_body_27 (fun w12 hp12 => ?_)
      obtain ⟨hu12, hf12⟩ := hp12
      have hB_13 : kLns G w12 ls lc lo := hLs.fr (fun j q1 q2 => (hf12 j (by omega)).trans (hf1 j (by omega)))
      have hB_14 : kHts G w12 hx hy := hHt.fr (fun j q1 q2 => (hf12 j (by omega)).trans (hf1 j (by omega)))
      subst hQ
      exact k_iret hC hr ⟨by decide, by decide⟩ (⟨_, 1, rfl, rfl, Or.inr (Or.inl ⟨by omega, rfl⟩), ⟨⟨u 12, u 13, hu12⟩, ⟨⟨_, _, _, hB_13⟩, _, _, hB_14⟩, fun j hj => (hf12 j (by omega)).trans (hf1 j (by omega))⟩⟩) dX12_body_30

set_option maxRecDepth 100000 in
set_option maxHeartbeats 4000000 in
theorem c_X12_leg (l : Launch) (hls : l.stackTraces = false) (G : kG) (hN : kN G = 150) (w : Nat → va_E) (fl : va_W) (u g : Nat → Int) (b q : Int) (hb : -2147483648 ≤ b ∧ b ≤ 2147483647) (hq : -2147483648 ≤ q ∧ q ≤ 2147483647) (hI : Inv g) (hm : w 133 = mdO G u) (hn : w 134 = lA G 93 g) (hSc : kScr G w) : KM l G yX12_leg cX12_leg 3 (some (FieldType.int)) 1 0 0 [.ref (kad G 133), vI b, vI q] w fl (kRt (thR ((0 ≤ b ∧ b < g 1) ∧ (0 ≤ q ∧ q ≤ 2)) (legV g b.toNat q) (¬ ((0 ≤ b ∧ b < g 1) ∧ (0 ≤ q ∧ q ≤ 2))) 1 (False) 2) fl (fun th w1 => mSt G w w1 u th)) := by
  refine KM_of2 hls (by decide +kernel) rfl (lv0 := [(0, .ref (kad G 133)), (1, vI b), (2, vI q)]) rfl (Nat.le_of_ble_eq_true rfl) (fun p e R s m args below meth c Q hC hr hQ => ?_)
  obtain ⟨⟨ls, lc, lo, hLs⟩, hx, hy, hHt⟩ := hSc
  have h0 := hI.c
  refine k_aload_n hC dX12_leg_0 rfl 0 rfl ?_
  refine k_iconst hC dX12_leg_1 ?_
  refine k_put hC fd_X12_74 (kl hN (by decide)) hm [.ref (kad G 134), .ref (kad G 135), .ref (kad G 136), .ref (kad G 137), vI (u 4), vI 0, vI (u 6), .ref (kad G 138), .ref (kad G 139), .ref (kad G 140), .ref (kad G 141), .ref (kad G 142), vL (u 12), vL (u 13), .ref (kad G 143), vI (u 15), .ref (kad G 144), vI (u 17), vI (u 18), vI (u 19), vI (u 20), vI (u 21), vI (u 22), vI (u 23), vI (u 24), vI (u 25), .ref (kad G 145), .ref (kad G 146), .ref (kad G 147), vI (u 29)] rfl (Nat.le_of_ble_eq_true rfl) rfl rfl dX12_leg_2 (fun w1 hw1 hf1 => ?_)
  refine k_iload_n hC dX12_leg_5 rfl 1 rfl ?_
  refine k_i2l hC dX12_leg_6 (by omega) ?_
  refine k_lconst (x := 0) hC dX12_leg_7 (by decide) ?_
  refine k_aload_n hC dX12_leg_8 rfl 0 rfl ?_
  refine k_get hC fd_X12_9 (kl hN (by decide)) hw1 rfl dX12_leg_9 ?_
  refine k_iconst hC dX12_leg_12 ?_
  have h_2 : w1 134 = lA G 93 g := (hf1 134 (by decide)).trans hn
  refine k_lald hC (kl hN (by decide)) h_2 (by omega) (by decide) dX12_leg_13 ?_
  refine k_topv (vL (g 1)) rfl ?_
  refine k_lconst (x := 1) hC dX12_leg_14 (by decide) ?_
  refine k_lsub hC dX12_leg_15 ?_
  refine k_pureS hC (c_X12_inRange l hls G hN w1 fl b 0 ((g 1) - 1) (by omega) (by omega) (by omega)) yy_X12_inRange wm_X12_243 rfl rfl (Nat.le_of_ble_eq_true rfl) (by decide) (by decide) ⟨by decide, by decide⟩ dX12_leg_16 ?_
  refine k_topv (vI (if 0 ≤ b ∧ b ≤ (g 1) - 1 then 1 else 0)) rfl ?_
  obtain ⟨z_3, ez_3, hz_3⟩ := k_bI (0 ≤ b ∧ b ≤ (g 1) - 1)
  refine k_topv (vI z_3) (by rw [ez_3]) ?_
  refine k_if_eq hC 44 dX12_leg_19 rfl (by omega) (fun c_19 => ?_) (fun c_19 => ?_)
  · refine k_aload_n hC dX12_leg_44 rfl 0 rfl ?_
    refine k_iconst hC dX12_leg_45 ?_
    refine k_mutV hC (c_X12_raise l hls G hN w1 fl (kup u 5 0) 1 hw1) yy_X12_raise wm_X12_247 (kl hN (by decide)) hw1 rfl rfl rfl rfl (Nat.le_of_ble_eq_true rfl) (by decide) (by decide) ⟨by decide, by decide⟩ dX12_leg_46 (fun w4 hp4 => ?_)
    obtain ⟨hu4, hf4⟩ := hp4
    have hB_5 : kLns G w4 ls lc lo := hLs.fr (fun j q1 q2 => (hf4 j (by omega)).trans (hf1 j (by omega)))
    have hB_6 : kHts G w4 hx hy := hHt.fr (fun j q1 q2 => (hf4 j (by omega)).trans (hf1 j (by omega)))
    subst hQ
    exact k_iret hC hr ⟨by decide, by decide⟩ (⟨_, 1, rfl, rfl, Or.inr (Or.inl ⟨by omega, rfl⟩), ⟨⟨u 12, u 13, hu4⟩, ⟨⟨_, _, _, hB_5⟩, _, _, hB_6⟩, fun j hj => (hf4 j (by omega)).trans (hf1 j (by omega))⟩⟩) dX12_leg_49
  · refine k_iload_n hC dX12_leg_22 rfl 2 rfl ?_
    refine k_i2l hC dX12_leg_23 (by omega) ?_
    refine k_lconst (x := 0) hC dX12_leg_24 (by decide) ?_
    refine k_ldc2 hC (x := 2) (v := 2) dX12_leg_25 (by decide) wk_X12_88 ?_
    refine k_pureS hC (c_X12_inRange l hls G hN w1 fl q 0 2 (by omega) (by omega) (by omega)) yy_X12_inRange wm_X12_243 rfl rfl (Nat.le_of_ble_eq_true rfl) (by decide) (by decide) ⟨by decide, by decide⟩ dX12_leg_28 ?_
    refine k_topv (vI (if 0 ≤ q ∧ q ≤ 2 then 1 else 0)) rfl ?_
    obtain ⟨z_7, ez_7, hz_7⟩ := k_bI (0 ≤ q ∧ q ≤ 2)
    refine k_topv (vI z_7) (by rw [ez_7]) ?_
    refine k_if_eq hC 44 dX12_leg_31 rfl (by omega) (fun c_31 => ?_) (fun c_31 => ?_)
    · refine k_aload_n hC dX12_leg_44 rfl 0 rfl ?_
      refine k_iconst hC dX12_leg_45 ?_
      refine k_mutV hC (c_X12_raise l hls G hN w1 fl (kup u 5 0) 1 hw1) yy_X12_raise wm_X12_247 (kl hN (by decide)) hw1 rfl rfl rfl rfl (Nat.le_of_ble_eq_true rfl) (by decide) (by decide) ⟨by decide, by decide⟩ dX12_leg_46 (fun w8 hp8 => ?_)
      obtain ⟨hu8, hf8⟩ := hp8
      have hB_9 : kLns G w8 ls lc lo := hLs.fr (fun j q1 q2 => (hf8 j (by omega)).trans (hf1 j (by omega)))
      have hB_10 : kHts G w8 hx hy := hHt.fr (fun j q1 q2 => (hf8 j (by omega)).trans (hf1 j (by omega)))
      subst hQ
      exact k_iret hC hr ⟨by decide, by decide⟩ (⟨_, 1, rfl, rfl, Or.inr (Or.inl ⟨by omega, rfl⟩), ⟨⟨u 12, u 13, hu8⟩, ⟨⟨_, _, _, hB_9⟩, _, _, hB_10⟩, fun j hj => (hf8 j (by omega)).trans (hf1 j (by omega))⟩⟩) dX12_leg_49
    · obtain ⟨k, ek⟩ : ∃ zz : Nat, b = (zz : Int) := ⟨b.toNat, by omega⟩
      subst ek
      obtain ⟨p0, ep0⟩ : ∃ zz : Nat, q = (zz : Int) := ⟨q.toNat, by omega⟩
      subst ep0
      refine k_aload_n hC dX12_leg_34 rfl 0 rfl ?_
      refine k_iload_n hC dX12_leg_35 rfl 1 rfl ?_
      refine k_iload_n hC dX12_leg_36 rfl 2 rfl ?_
      refine k_pureV hC (c_X12_ofLeg l hls G hN w1 fl (kup u 5 0) g k p0 (by omega) (by omega) hw1 h_2) yy_X12_ofLeg wm_X12_127 (kl hN (by decide)) hw1 rfl rfl rfl rfl (Nat.le_of_ble_eq_true rfl) (by decide) (by decide) ⟨by decide, by decide⟩ dX12_leg_37 ?_
      refine k_topv (vL (g (33 + p0 + 3 * k))) rfl ?_
      refine k_l2i hC dX12_leg_40 ?_
      refine k_goto hC 49 dX12_leg_41 rfl ?_
      have hB_11 : kLns G w1 ls lc lo := hLs.fr (fun j q1 q2 => (hf1 j (by omega)))
      have hB_12 : kHts G w1 hx hy := hHt.fr (fun j q1 q2 => (hf1 j (by omega)))
      subst hQ
      exact k_iret hC hr ⟨by decide, by decide⟩ (⟨_, 0, rfl, rfl, Or.inl ⟨by omega, rfl, (show ((g (33 + p0 + 3 * k) : Int) = legV g k (p0 : Int)) from (by unfold legV; rcases (show p0 = 0 ∨ p0 = 1 ∨ p0 = 2 by omega) with h | h | h <;> subst h <;> rfl))⟩, ⟨⟨u 12, u 13, hw1⟩, ⟨⟨_, _, _, hB_11⟩, _, _, hB_12⟩, fun j hj => hf1 j (by omega)⟩⟩) dX12_leg_49

set_option maxRecDepth 100000 in
set_option maxHeartbeats 4000000 in
theorem c_X12_displacement (l : Launch) (hls : l.stackTraces = false) (G : kG) (hN : kN G = 150) (w : Nat → va_E) (fl : va_W) (u g : Nat → Int) (T no : Int) (hT : -2147483648 ≤ T ∧ T ≤ 2147483647) (hno : no = 0 ∨ no = 1) (hI : Inv g) (hm : w 133 = mdO G u) (hn : w 134 = lA G 93 g) (hSc : kScr G w) : KM l G yX12_displacement cX12_displacement 3 (some (FieldType.int)) 7 0 0 [.ref (kad G 133), vI T, vI no] w fl (kRt (thR ((0 ≤ T ∧ T ≤ 5000)) (if no = 0 then dispM g T false else dispM g T true) (False) 1 (¬ (0 ≤ T ∧ T ≤ 5000)) 1) fl (fun th w1 => mSt G w w1 u th)) := by
  refine KM_of2 hls (by decide +kernel) rfl (lv0 := [(0, .ref (kad G 133)), (1, vI T), (2, vI no)]) rfl (Nat.le_of_ble_eq_true rfl) (fun p e R s m args below meth c Q hC hr hQ => ?_)
  obtain ⟨⟨ls, lc, lo, hLs⟩, hx, hy, hHt⟩ := hSc
  have h0 := hI.c
  refine k_aload_n hC dX12_displacement_0 rfl 0 rfl ?_
  refine k_iconst hC dX12_displacement_1 ?_
  refine k_put hC fd_X12_74 (kl hN (by decide)) hm [.ref (kad G 134), .ref (kad G 135), .ref (kad G 136), .ref (kad G 137), vI (u 4), vI 0, vI (u 6), .ref (kad G 138), .ref (kad G 139), .ref (kad G 140), .ref (kad G 141), .ref (kad G 142), vL (u 12), vL (u 13), .ref (kad G 143), vI (u 15), .ref (kad G 144), vI (u 17), vI (u 18), vI (u 19), vI (u 20), vI (u 21), vI (u 22), vI (u 23), vI (u 24), vI (u 25), .ref (kad G 145), .ref (kad G 146), .ref (kad G 147), vI (u 29)] rfl (Nat.le_of_ble_eq_true rfl) rfl rfl dX12_displacement_2 (fun w1 hw1 hf1 => ?_)
  refine k_aload_n hC dX12_displacement_5 rfl 0 rfl ?_
  refine k_iload_n hC dX12_displacement_6 rfl 1 rfl ?_
  have h_2 : w1 134 = lA G 93 g := (hf1 134 (by decide)).trans hn
  refine k_pureV hC (c_X12_isTime l hls G hN w1 fl (kup u 5 0) g T (by omega) hI hw1 h_2) yy_X12_isTime wm_X12_262 (kl hN (by decide)) hw1 rfl rfl rfl rfl (Nat.le_of_ble_eq_true rfl) (by decide) (by decide) ⟨by decide, by decide⟩ dX12_displacement_7 ?_
  obtain ⟨z_3, ez_3, hz_3⟩ := k_bI (0 ≤ T ∧ T ≤ 5000)
  refine k_topv (vI z_3) (by rw [ez_3]) ?_
  refine k_if_eq hC 24 dX12_displacement_10 rfl (by omega) (fun c_10 => ?_) (fun c_10 => ?_)
  · refine k_aload_n hC dX12_displacement_24 rfl 0 rfl ?_
    refine k_iconst hC dX12_displacement_25 ?_
    refine k_mutV hC (c_X12_raise l hls G hN w1 fl (kup u 5 0) 1 hw1) yy_X12_raise wm_X12_247 (kl hN (by decide)) hw1 rfl rfl rfl rfl (Nat.le_of_ble_eq_true rfl) (by decide) (by decide) ⟨by decide, by decide⟩ dX12_displacement_26 (fun w4 hp4 => ?_)
    obtain ⟨hu4, hf4⟩ := hp4
    have hB_5 : kLns G w4 ls lc lo := hLs.fr (fun j q1 q2 => (hf4 j (by omega)).trans (hf1 j (by omega)))
    have hB_6 : kHts G w4 hx hy := hHt.fr (fun j q1 q2 => (hf4 j (by omega)).trans (hf1 j (by omega)))
    subst hQ
    exact k_iret hC hr ⟨by decide, by decide⟩ (⟨_, 1, rfl, rfl, Or.inr (Or.inr ⟨by omega, rfl⟩), ⟨⟨u 12, u 13, hu4⟩, ⟨⟨_, _, _, hB_5⟩, _, _, hB_6⟩, fun j hj => (hf4 j (by omega)).trans (hf1 j (by omega))⟩⟩) dX12_displacement_29
  · refine k_aload_n hC dX12_displacement_13 rfl 0 rfl ?_
    refine k_iload_n hC dX12_displacement_14 rfl 1 rfl ?_
    refine k_i2l hC dX12_displacement_15 (by omega) ?_
    refine k_iload_n hC dX12_displacement_16 rfl 2 rfl ?_
    refine k_pureV hC (c_X12_displaced l hls G hN w1 fl (kup u 5 0) g T no hI (by omega) (by omega) hw1 h_2) yy_X12_displaced wm_X12_131 (kl hN (by decide)) hw1 rfl rfl rfl rfl (Nat.le_of_ble_eq_true rfl) (by decide) (by decide) ⟨by decide, by decide⟩ dX12_displacement_17 ?_
    refine k_topv (vL (dispM g T (bN no))) rfl ?_
    have hb_7 := dispM_b hI (t := T) (by omega) (bN no)
    refine k_l2i hC dX12_displacement_20 ?_
    refine k_goto hC 29 dX12_displacement_21 rfl ?_
    have hB_8 : kLns G w1 ls lc lo := hLs.fr (fun j q1 q2 => (hf1 j (by omega)))
    have hB_9 : kHts G w1 hx hy := hHt.fr (fun j q1 q2 => (hf1 j (by omega)))
    subst hQ
    exact k_iret hC hr ⟨by decide, by decide⟩ (⟨_, 0, rfl, rfl, Or.inl ⟨by omega, rfl, (show ((dispM g T (bN no) : Int) = if no = 0 then dispM g T false else dispM g T true) from (by rcases hno with h | h <;> subst h <;> rfl))⟩, ⟨⟨u 12, u 13, hw1⟩, ⟨⟨_, _, _, hB_8⟩, _, _, hB_9⟩, fun j hj => hf1 j (by omega)⟩⟩) dX12_displacement_29

set_option maxRecDepth 100000 in
set_option maxHeartbeats 4000000 in
theorem c_X12_reckoned (l : Launch) (hls : l.stackTraces = false) (G : kG) (hN : kN G = 150) (w : Nat → va_E) (fl : va_W) (u g : Nat → Int) (T no : Int) (hT : -2147483648 ≤ T ∧ T ≤ 2147483647) (hno : no = 0 ∨ no = 1) (hI : Inv g) (hm : w 133 = mdO G u) (hn : w 134 = lA G 93 g) (hSc : kScr G w) : KM l G yX12_reckoned cX12_reckoned 3 (some (FieldType.int)) 8 0 0 [.ref (kad G 133), vI T, vI no] w fl (kRt (thR ((0 ≤ T ∧ T ≤ 5000)) (if no = 0 then latM g T else lonT g T) (False) 1 (¬ (0 ≤ T ∧ T ≤ 5000)) 1) fl (fun th w1 => mSt G w w1 u th)) := by
  refine KM_of2 hls (by decide +kernel) rfl (lv0 := [(0, .ref (kad G 133)), (1, vI T), (2, vI no)]) rfl (Nat.le_of_ble_eq_true rfl) (fun p e R s m args below meth c Q hC hr hQ => ?_)
  obtain ⟨⟨ls, lc, lo, hLs⟩, hx, hy, hHt⟩ := hSc
  have h0 := hI.c
  refine k_aload_n hC dX12_reckoned_0 rfl 0 rfl ?_
  refine k_iconst hC dX12_reckoned_1 ?_
  refine k_put hC fd_X12_74 (kl hN (by decide)) hm [.ref (kad G 134), .ref (kad G 135), .ref (kad G 136), .ref (kad G 137), vI (u 4), vI 0, vI (u 6), .ref (kad G 138), .ref (kad G 139), .ref (kad G 140), .ref (kad G 141), .ref (kad G 142), vL (u 12), vL (u 13), .ref (kad G 143), vI (u 15), .ref (kad G 144), vI (u 17), vI (u 18), vI (u 19), vI (u 20), vI (u 21), vI (u 22), vI (u 23), vI (u 24), vI (u 25), .ref (kad G 145), .ref (kad G 146), .ref (kad G 147), vI (u 29)] rfl (Nat.le_of_ble_eq_true rfl) rfl rfl dX12_reckoned_2 (fun w1 hw1 hf1 => ?_)
  refine k_aload_n hC dX12_reckoned_5 rfl 0 rfl ?_
  refine k_iload_n hC dX12_reckoned_6 rfl 1 rfl ?_
  have h_2 : w1 134 = lA G 93 g := (hf1 134 (by decide)).trans hn
  refine k_pureV hC (c_X12_isTime l hls G hN w1 fl (kup u 5 0) g T (by omega) hI hw1 h_2) yy_X12_isTime wm_X12_262 (kl hN (by decide)) hw1 rfl rfl rfl rfl (Nat.le_of_ble_eq_true rfl) (by decide) (by decide) ⟨by decide, by decide⟩ dX12_reckoned_7 ?_
  obtain ⟨z_3, ez_3, hz_3⟩ := k_bI (0 ≤ T ∧ T ≤ 5000)
  refine k_topv (vI z_3) (by rw [ez_3]) ?_
  refine k_if_ne hC 19 dX12_reckoned_10 rfl (by omega) (fun c_10 => ?_) (fun c_10 => ?_)
  · refine k_iload_n hC dX12_reckoned_19 rfl 2 rfl ?_
    refine k_if_eq hC 32 dX12_reckoned_20 rfl (by omega) (fun c_20 => ?_) (fun c_20 => ?_)
    · refine k_aload_n hC dX12_reckoned_32 rfl 0 rfl ?_
      refine k_iload_n hC dX12_reckoned_33 rfl 1 rfl ?_
      refine k_i2l hC dX12_reckoned_34 (by omega) ?_
      refine k_pureV hC (c_X12_latitudeAt l hls G hN w1 fl (kup u 5 0) g T hI (by omega) hw1 h_2) yy_X12_latitudeAt wm_X12_167 (kl hN (by decide)) hw1 rfl rfl rfl rfl (Nat.le_of_ble_eq_true rfl) (by decide) (by decide) ⟨by decide, by decide⟩ dX12_reckoned_35 ?_
      refine k_topv (vL (latM g T)) rfl ?_
      have hb_4 := latM_b hI (t := T) (by omega)
      refine k_l2i hC dX12_reckoned_38 ?_
      have hB_5 : kLns G w1 ls lc lo := hLs.fr (fun j q1 q2 => (hf1 j (by omega)))
      have hB_6 : kHts G w1 hx hy := hHt.fr (fun j q1 q2 => (hf1 j (by omega)))
      subst hQ
      exact k_iret hC hr ⟨by decide, by decide⟩ (⟨_, 0, rfl, rfl, Or.inl ⟨by omega, rfl, (show ((latM g T : Int) = if no = 0 then latM g T else lonT g T) from (by first | (rw [if_pos (by omega)]; done) | (rw [if_neg (by omega)]; done)))⟩, ⟨⟨u 12, u 13, hw1⟩, ⟨⟨_, _, _, hB_5⟩, _, _, hB_6⟩, fun j hj => hf1 j (by omega)⟩⟩) dX12_reckoned_39
    · refine k_aload_n hC dX12_reckoned_23 rfl 0 rfl ?_
      refine k_iload_n hC dX12_reckoned_24 rfl 1 rfl ?_
      refine k_i2l hC dX12_reckoned_25 (by omega) ?_
      refine k_pureV hC (c_X12_longitudeAt l hls G hN w1 fl (kup u 5 0) g T hI (by omega) hw1 h_2) yy_X12_longitudeAt wm_X12_164 (kl hN (by decide)) hw1 rfl rfl rfl rfl (Nat.le_of_ble_eq_true rfl) (by decide) (by decide) ⟨by decide, by decide⟩ dX12_reckoned_26 ?_
      refine k_topv (vL (lonT g T)) rfl ?_
      have hb_7 := lonT_b g T
      refine k_goto hC 38 dX12_reckoned_29 rfl ?_
      refine k_l2i hC dX12_reckoned_38 ?_
      have hB_8 : kLns G w1 ls lc lo := hLs.fr (fun j q1 q2 => (hf1 j (by omega)))
      have hB_9 : kHts G w1 hx hy := hHt.fr (fun j q1 q2 => (hf1 j (by omega)))
      subst hQ
      exact k_iret hC hr ⟨by decide, by decide⟩ (⟨_, 0, rfl, rfl, Or.inl ⟨by omega, rfl, (show ((lonT g T : Int) = if no = 0 then latM g T else lonT g T) from (by first | (rw [if_pos (by omega)]; done) | (rw [if_neg (by omega)]; done)))⟩, ⟨⟨u 12, u 13, hw1⟩, ⟨⟨_, _, _, hB_8⟩, _, _, hB_9⟩, fun j hj => hf1 j (by omega)⟩⟩) dX12_reckoned_39
  · refine k_aload_n hC dX12_reckoned_13 rfl 0 rfl ?_
    refine k_iconst hC dX12_reckoned_14 ?_
    refine k_mutV hC (c_X12_raise l hls G hN w1 fl (kup u 5 0) 1 hw1) yy_X12_raise wm_X12_247 (kl hN (by decide)) hw1 rfl rfl rfl rfl (Nat.le_of_ble_eq_true rfl) (by decide) (by decide) ⟨by decide, by decide⟩ dX12_reckoned_15 (fun w10 hp10 => ?_)
    obtain ⟨hu10, hf10⟩ := hp10
    have hB_11 : kLns G w10 ls lc lo := hLs.fr (fun j q1 q2 => (hf10 j (by omega)).trans (hf1 j (by omega)))
    have hB_12 : kHts G w10 hx hy := hHt.fr (fun j q1 q2 => (hf10 j (by omega)).trans (hf1 j (by omega)))
    subst hQ
    exact k_iret hC hr ⟨by decide, by decide⟩ (⟨_, 1, rfl, rfl, Or.inr (Or.inr ⟨by omega, rfl⟩), ⟨⟨u 12, u 13, hu10⟩, ⟨⟨_, _, _, hB_11⟩, _, _, hB_12⟩, fun j hj => (hf10 j (by omega)).trans (hf1 j (by omega))⟩⟩) dX12_reckoned_18

set_option maxRecDepth 100000 in
set_option maxHeartbeats 4000000 in
theorem c_X12_sight (l : Launch) (hls : l.stackTraces = false) (G : kG) (hN : kN G = 150) (w : Nat → va_E) (fl : va_W) (u g : Nat → Int) (i q : Int) (hi : -2147483648 ≤ i ∧ i ≤ 2147483647) (hq : -2147483648 ≤ q ∧ q ≤ 2147483647) (hI : Inv g) (hm : w 133 = mdO G u) (hn : w 134 = lA G 93 g) (hSc : kScr G w) : KM l G yX12_sight cX12_sight 3 (some (FieldType.int)) 12 0 0 [.ref (kad G 133), vI i, vI q] w fl (kRt (thR ((0 ≤ i ∧ i < g 2) ∧ (0 ≤ q ∧ q ≤ 8)) (sightV g i.toNat q) (¬ ((0 ≤ i ∧ i < g 2) ∧ (0 ≤ q ∧ q ≤ 8))) 1 (False) 2) fl (fun th w1 => mSt G w w1 u th)) := by
  refine KM_of2 hls (by decide +kernel) rfl (lv0 := [(0, .ref (kad G 133)), (1, vI i), (2, vI q)]) rfl (Nat.le_of_ble_eq_true rfl) (fun p e R s m args below meth c Q hC hr hQ => ?_)
  obtain ⟨⟨ls, lc, lo, hLs⟩, hx, hy, hHt⟩ := hSc
  have h0 := hI.c
  refine k_aload_n hC dX12_sight_0 rfl 0 rfl ?_
  refine k_iconst hC dX12_sight_1 ?_
  refine k_put hC fd_X12_74 (kl hN (by decide)) hm [.ref (kad G 134), .ref (kad G 135), .ref (kad G 136), .ref (kad G 137), vI (u 4), vI 0, vI (u 6), .ref (kad G 138), .ref (kad G 139), .ref (kad G 140), .ref (kad G 141), .ref (kad G 142), vL (u 12), vL (u 13), .ref (kad G 143), vI (u 15), .ref (kad G 144), vI (u 17), vI (u 18), vI (u 19), vI (u 20), vI (u 21), vI (u 22), vI (u 23), vI (u 24), vI (u 25), .ref (kad G 145), .ref (kad G 146), .ref (kad G 147), vI (u 29)] rfl (Nat.le_of_ble_eq_true rfl) rfl rfl dX12_sight_2 (fun w1 hw1 hf1 => ?_)
  refine k_aload_n hC dX12_sight_5 rfl 0 rfl ?_
  refine k_iload_n hC dX12_sight_6 rfl 1 rfl ?_
  have h_2 : w1 134 = lA G 93 g := (hf1 134 (by decide)).trans hn
  refine k_pureV hC (c_X12_isSight l hls G hN w1 fl (kup u 5 0) g i (by omega) hI hw1 h_2) yy_X12_isSight wm_X12_265 (kl hN (by decide)) hw1 rfl rfl rfl rfl (Nat.le_of_ble_eq_true rfl) (by decide) (by decide) ⟨by decide, by decide⟩ dX12_sight_7 ?_
  obtain ⟨z_3, ez_3, hz_3⟩ := k_bI (0 ≤ i ∧ i ≤ g 2 - 1)
  refine k_topv (vI z_3) (by rw [ez_3]) ?_
  refine k_if_eq hC 25 dX12_sight_10 rfl (by omega) (fun c_10 => ?_) (fun c_10 => ?_)
  · refine k_aload_n hC dX12_sight_25 rfl 0 rfl ?_
    refine k_iconst hC dX12_sight_26 ?_
    refine k_mutV hC (c_X12_raise l hls G hN w1 fl (kup u 5 0) 1 hw1) yy_X12_raise wm_X12_247 (kl hN (by decide)) hw1 rfl rfl rfl rfl (Nat.le_of_ble_eq_true rfl) (by decide) (by decide) ⟨by decide, by decide⟩ dX12_sight_27 (fun w4 hp4 => ?_)
    obtain ⟨hu4, hf4⟩ := hp4
    have hB_5 : kLns G w4 ls lc lo := hLs.fr (fun j q1 q2 => (hf4 j (by omega)).trans (hf1 j (by omega)))
    have hB_6 : kHts G w4 hx hy := hHt.fr (fun j q1 q2 => (hf4 j (by omega)).trans (hf1 j (by omega)))
    subst hQ
    exact k_iret hC hr ⟨by decide, by decide⟩ (⟨_, 1, rfl, rfl, Or.inr (Or.inl ⟨by omega, rfl⟩), ⟨⟨u 12, u 13, hu4⟩, ⟨⟨_, _, _, hB_5⟩, _, _, hB_6⟩, fun j hj => (hf4 j (by omega)).trans (hf1 j (by omega))⟩⟩) dX12_sight_30
  · refine k_iload_n hC dX12_sight_13 rfl 2 rfl ?_
    refine k_i2l hC dX12_sight_14 (by omega) ?_
    refine k_lconst (x := 0) hC dX12_sight_15 (by decide) ?_
    refine k_ldc2 hC (x := 8) (v := 8) dX12_sight_16 (by decide) wk_X12_251 ?_
    refine k_pureS hC (c_X12_inRange l hls G hN w1 fl q 0 8 (by omega) (by omega) (by omega)) yy_X12_inRange wm_X12_243 rfl rfl (Nat.le_of_ble_eq_true rfl) (by decide) (by decide) ⟨by decide, by decide⟩ dX12_sight_19 ?_
    refine k_topv (vI (if 0 ≤ q ∧ q ≤ 8 then 1 else 0)) rfl ?_
    obtain ⟨z_7, ez_7, hz_7⟩ := k_bI (0 ≤ q ∧ q ≤ 8)
    refine k_topv (vI z_7) (by rw [ez_7]) ?_
    refine k_if_ne hC 31 dX12_sight_22 rfl (by omega) (fun c_22 => ?_) (fun c_22 => ?_)
    · obtain ⟨k, ek⟩ : ∃ zz : Nat, i = (zz : Int) := ⟨i.toNat, by omega⟩
      subst ek
      refine k_iload_n hC dX12_sight_31 rfl 2 rfl ?_
      by_cases c_32 : q < 3 ∨ 8 < q
      · refine k_tswO hC (x := q) 120 dX12_sight_32 (by rw [k_t32 (by omega)]; exact c_32) rfl ?_
        refine k_aload_n hC dX12_sight_120 rfl 0 rfl ?_
        obtain ⟨p0, ep0⟩ : ∃ zz : Nat, q = (zz : Int) := ⟨q.toNat, by omega⟩
        subst ep0
        refine k_iload_n hC dX12_sight_121 rfl 1 rfl ?_
        refine k_iload_n hC dX12_sight_122 rfl 2 rfl ?_
        refine k_pureV hC (c_X12_ofSight l hls G hN w1 fl (kup u 5 0) g k p0 (by omega) (by omega) hw1 h_2) yy_X12_ofSight wm_X12_147 (kl hN (by decide)) hw1 rfl rfl rfl rfl (Nat.le_of_ble_eq_true rfl) (by decide) (by decide) ⟨by decide, by decide⟩ dX12_sight_123 ?_
        refine k_topv (vL (g (57 + p0 + 3 * k))) rfl ?_
        refine k_l2i hC dX12_sight_126 ?_
        have hB_8 : kLns G w1 ls lc lo := hLs.fr (fun j q1 q2 => (hf1 j (by omega)))
        have hB_9 : kHts G w1 hx hy := hHt.fr (fun j q1 q2 => (hf1 j (by omega)))
        subst hQ
        exact k_iret hC hr ⟨by decide, by decide⟩ (⟨_, 0, rfl, rfl, Or.inl ⟨by omega, rfl, (show ((g (57 + p0 + 3 * k) : Int) = sightV g k (p0 : Int)) from (by unfold sightV; rcases (show p0 = 0 ∨ p0 = 1 ∨ p0 = 2 by omega) with h | h | h <;> subst h <;> rfl))⟩, ⟨⟨u 12, u 13, hw1⟩, ⟨⟨_, _, _, hB_8⟩, _, _, hB_9⟩, fun j hj => hf1 j (by omega)⟩⟩) dX12_sight_127
      · have h_32 : q = 3 ∨ q = 4 ∨ q = 5 ∨ q = 6 ∨ q = 7 ∨ q = 8 := by omega
        rcases h_32 with q_32 | q_32 | q_32 | q_32 | q_32 | q_32
        · refine k_tswI hC (x := q) 72 (off := 40) dX12_sight_32 (by rw [k_t32 (by omega)]; omega) (by rw [k_t32 (by omega)]; omega) (by rw [k_t32 (by omega), q_32]; rfl) rfl ?_
          refine k_aload_n hC dX12_sight_72 rfl 0 rfl ?_
          refine k_iload_n hC dX12_sight_73 rfl 1 rfl ?_
          refine k_pureV hC (c_X12_apparent l hls G hN w1 fl (kup u 5 0) g k hI (by omega) hw1 h_2) yy_X12_apparent wm_X12_154 (kl hN (by decide)) hw1 rfl rfl rfl rfl (Nat.le_of_ble_eq_true rfl) (by decide) (by decide) ⟨by decide, by decide⟩ dX12_sight_74 ?_
          refine k_topv (vL (apM g k)) rfl ?_
          have hb_10 := apM_b hI k (by omega)
          refine k_l2i hC dX12_sight_77 ?_
          have hB_11 : kLns G w1 ls lc lo := hLs.fr (fun j q1 q2 => (hf1 j (by omega)))
          have hB_12 : kHts G w1 hx hy := hHt.fr (fun j q1 q2 => (hf1 j (by omega)))
          subst hQ
          exact k_iret hC hr ⟨by decide, by decide⟩ (⟨_, 0, rfl, rfl, Or.inl ⟨by omega, rfl, (show ((apM g k : Int) = sightV g k q) from (by rw [q_32]; rfl))⟩, ⟨⟨u 12, u 13, hw1⟩, ⟨⟨_, _, _, hB_11⟩, _, _, hB_12⟩, fun j hj => hf1 j (by omega)⟩⟩) dX12_sight_78
        · refine k_tswI hC (x := q) 79 (off := 47) dX12_sight_32 (by rw [k_t32 (by omega)]; omega) (by rw [k_t32 (by omega)]; omega) (by rw [k_t32 (by omega), q_32]; rfl) rfl ?_
          refine k_aload_n hC dX12_sight_79 rfl 0 rfl ?_
          refine k_iload_n hC dX12_sight_80 rfl 1 rfl ?_
          refine k_pureV hC (c_X12_observed l hls G hN w1 fl (kup u 5 0) g k hI (by omega) hw1 h_2) yy_X12_observed wm_X12_181 (kl hN (by decide)) hw1 rfl rfl rfl rfl (Nat.le_of_ble_eq_true rfl) (by decide) (by decide) ⟨by decide, by decide⟩ dX12_sight_81 ?_
          refine k_topv (vL (obsM g k)) rfl ?_
          have hb_13 := obsM_b hI k (by omega)
          refine k_l2i hC dX12_sight_84 ?_
          have hB_14 : kLns G w1 ls lc lo := hLs.fr (fun j q1 q2 => (hf1 j (by omega)))
          have hB_15 : kHts G w1 hx hy := hHt.fr (fun j q1 q2 => (hf1 j (by omega)))
          subst hQ
          exact k_iret hC hr ⟨by decide, by decide⟩ (⟨_, 0, rfl, rfl, Or.inl ⟨by omega, rfl, (show ((obsM g k : Int) = sightV g k q) from (by rw [q_32]; rfl))⟩, ⟨⟨u 12, u 13, hw1⟩, ⟨⟨_, _, _, hB_14⟩, _, _, hB_15⟩, fun j hj => hf1 j (by omega)⟩⟩) dX12_sight_85
        · refine k_tswI hC (x := q) 86 (off := 54) dX12_sight_32 (by rw [k_t32 (by omega)]; omega) (by rw [k_t32 (by omega)]; omega) (by rw [k_t32 (by omega), q_32]; rfl) rfl ?_
          refine k_aload_n hC dX12_sight_86 rfl 0 rfl ?_
          refine k_iload_n hC dX12_sight_87 rfl 1 rfl ?_
          refine k_pureV hC (c_X12_expected l hls G hN w1 fl (kup u 5 0) g k hI (by omega) hw1 h_2) yy_X12_expected wm_X12_179 (kl hN (by decide)) hw1 rfl rfl rfl rfl (Nat.le_of_ble_eq_true rfl) (by decide) (by decide) ⟨by decide, by decide⟩ dX12_sight_88 ?_
          refine k_topv (vL (expM g k)) rfl ?_
          have hb_16 := expM_b g k
          refine k_l2i hC dX12_sight_91 ?_
          have hB_17 : kLns G w1 ls lc lo := hLs.fr (fun j q1 q2 => (hf1 j (by omega)))
          have hB_18 : kHts G w1 hx hy := hHt.fr (fun j q1 q2 => (hf1 j (by omega)))
          subst hQ
          exact k_iret hC hr ⟨by decide, by decide⟩ (⟨_, 0, rfl, rfl, Or.inl ⟨by omega, rfl, (show ((expM g k : Int) = sightV g k q) from (by rw [q_32]; rfl))⟩, ⟨⟨u 12, u 13, hw1⟩, ⟨⟨_, _, _, hB_17⟩, _, _, hB_18⟩, fun j hj => hf1 j (by omega)⟩⟩) dX12_sight_92
        · refine k_tswI hC (x := q) 93 (off := 61) dX12_sight_32 (by rw [k_t32 (by omega)]; omega) (by rw [k_t32 (by omega)]; omega) (by rw [k_t32 (by omega), q_32]; rfl) rfl ?_
          refine k_aload_n hC dX12_sight_93 rfl 0 rfl ?_
          refine k_iload_n hC dX12_sight_94 rfl 1 rfl ?_
          refine k_pureV hC (c_X12_azimuth l hls G hN w1 fl (kup u 5 0) g k hI (by omega) hw1 h_2) yy_X12_azimuth wm_X12_184 (kl hN (by decide)) hw1 rfl rfl rfl rfl (Nat.le_of_ble_eq_true rfl) (by decide) (by decide) ⟨by decide, by decide⟩ dX12_sight_95 ?_
          refine k_topv (vL (aziM g k)) rfl ?_
          have hb_19 := aziM_b g k
          refine k_l2i hC dX12_sight_98 ?_
          have hB_20 : kLns G w1 ls lc lo := hLs.fr (fun j q1 q2 => (hf1 j (by omega)))
          have hB_21 : kHts G w1 hx hy := hHt.fr (fun j q1 q2 => (hf1 j (by omega)))
          subst hQ
          exact k_iret hC hr ⟨by decide, by decide⟩ (⟨_, 0, rfl, rfl, Or.inl ⟨by omega, rfl, (show ((aziM g k : Int) = sightV g k q) from (by rw [q_32]; rfl))⟩, ⟨⟨u 12, u 13, hw1⟩, ⟨⟨_, _, _, hB_20⟩, _, _, hB_21⟩, fun j hj => hf1 j (by omega)⟩⟩) dX12_sight_99
        · refine k_tswI hC (x := q) 100 (off := 68) dX12_sight_32 (by rw [k_t32 (by omega)]; omega) (by rw [k_t32 (by omega)]; omega) (by rw [k_t32 (by omega), q_32]; rfl) rfl ?_
          refine k_aload_n hC dX12_sight_100 rfl 0 rfl ?_
          refine k_iload_n hC dX12_sight_101 rfl 1 rfl ?_
          refine k_pureV hC (c_X12_intercept l hls G hN w1 fl (kup u 5 0) g k hI (by omega) hw1 h_2) yy_X12_intercept wm_X12_190 (kl hN (by decide)) hw1 rfl rfl rfl rfl (Nat.le_of_ble_eq_true rfl) (by decide) (by decide) ⟨by decide, by decide⟩ dX12_sight_102 ?_
          refine k_topv (vL (intM g k)) rfl ?_
          have hb_22 := intM_b hI k (by omega)
          refine k_l2i hC dX12_sight_105 ?_
          have hB_23 : kLns G w1 ls lc lo := hLs.fr (fun j q1 q2 => (hf1 j (by omega)))
          have hB_24 : kHts G w1 hx hy := hHt.fr (fun j q1 q2 => (hf1 j (by omega)))
          subst hQ
          exact k_iret hC hr ⟨by decide, by decide⟩ (⟨_, 0, rfl, rfl, Or.inl ⟨by omega, rfl, (show ((intM g k : Int) = sightV g k q) from (by rw [q_32]; rfl))⟩, ⟨⟨u 12, u 13, hw1⟩, ⟨⟨_, _, _, hB_23⟩, _, _, hB_24⟩, fun j hj => hf1 j (by omega)⟩⟩) dX12_sight_106
        · refine k_tswI hC (x := q) 107 (off := 75) dX12_sight_32 (by rw [k_t32 (by omega)]; omega) (by rw [k_t32 (by omega)]; omega) (by rw [k_t32 (by omega), q_32]; rfl) rfl ?_
          refine k_aload_n hC dX12_sight_107 rfl 0 rfl ?_
          refine k_iload_n hC dX12_sight_108 rfl 1 rfl ?_
          have hB_25 : kLns G w1 ls lc lo := hLs.fr (fun j q1 q2 => (hf1 j (by omega)))
          refine k_muvV hC (c_X12_layLine l hls G hN w1 fl (kup u 5 0) g ls lc lo k hI (by omega) hw1 h_2 hB_25) yy_X12_layLine wm_X12_193 (kl hN (by decide)) hw1 rfl rfl rfl rfl (Nat.le_of_ble_eq_true rfl) (by decide) (by decide) ⟨by decide, by decide⟩ dX12_sight_109 (fun w26 hp26 => ?_)
          obtain ⟨hl26, hf26⟩ := hp26
          refine k_aload_n hC dX12_sight_112 rfl 0 rfl ?_
          have h_27 : w26 133 = .inr (12, [.ref (kad G 134), .ref (kad G 135), .ref (kad G 136), .ref (kad G 137), vI (u 4), vI 0, vI (u 6), .ref (kad G 138), .ref (kad G 139), .ref (kad G 140), .ref (kad G 141), .ref (kad G 142), vL (u 12), vL (u 13), .ref (kad G 143), vI (u 15), .ref (kad G 144), vI (u 17), vI (u 18), vI (u 19), vI (u 20), vI (u 21), vI (u 22), vI (u 23), vI (u 24), vI (u 25), .ref (kad G 145), .ref (kad G 146), .ref (kad G 147), vI (u 29)]) := (hf26 133 (by omega)).trans hw1
          refine k_get hC fd_X12_28 (kl hN (by decide)) h_27 rfl dX12_sight_113 ?_
          refine k_iload_n hC dX12_sight_116 rfl 1 rfl ?_
          refine k_lald hC (kl hN (by decide)) hl26.2.2 (by omega) (by decide) dX12_sight_117 ?_
          refine k_topv (vL ((kup lo k (offM g k)) k)) rfl ?_
          refine k_topv (vL (offM g k)) (congrArg vL (by exact kup_s)) ?_
          refine k_l2i hC dX12_sight_118 ?_
          have hB_28 : kHts G w26 hx hy := hHt.fr (fun j q1 q2 => (hf26 j (by omega)).trans (hf1 j (by omega)))
          subst hQ
          exact k_iret hC hr ⟨by decide, by decide⟩ (⟨_, 0, rfl, rfl, Or.inl ⟨by omega, rfl, (show ((offM g k : Int) = sightV g k q) from (by rw [q_32]; rfl))⟩, ⟨⟨u 12, u 13, h_27⟩, ⟨⟨_, _, _, hl26⟩, _, _, hB_28⟩, fun j hj => (hf26 j (by omega)).trans (hf1 j (by omega))⟩⟩) dX12_sight_119
    · refine k_aload_n hC dX12_sight_25 rfl 0 rfl ?_
      refine k_iconst hC dX12_sight_26 ?_
      refine k_mutV hC (c_X12_raise l hls G hN w1 fl (kup u 5 0) 1 hw1) yy_X12_raise wm_X12_247 (kl hN (by decide)) hw1 rfl rfl rfl rfl (Nat.le_of_ble_eq_true rfl) (by decide) (by decide) ⟨by decide, by decide⟩ dX12_sight_27 (fun w29 hp29 => ?_)
      obtain ⟨hu29, hf29⟩ := hp29
      have hB_30 : kLns G w29 ls lc lo := hLs.fr (fun j q1 q2 => (hf29 j (by omega)).trans (hf1 j (by omega)))
      have hB_31 : kHts G w29 hx hy := hHt.fr (fun j q1 q2 => (hf29 j (by omega)).trans (hf1 j (by omega)))
      subst hQ
      exact k_iret hC hr ⟨by decide, by decide⟩ (⟨_, 1, rfl, rfl, Or.inr (Or.inl ⟨by omega, rfl⟩), ⟨⟨u 12, u 13, hu29⟩, ⟨⟨_, _, _, hB_30⟩, _, _, hB_31⟩, fun j hj => (hf29 j (by omega)).trans (hf1 j (by omega))⟩⟩) dX12_sight_30

set_option maxRecDepth 100000 in
set_option maxHeartbeats 4000000 in
theorem c_X12_carried (l : Launch) (hls : l.stackTraces = false) (G : kG) (hN : kN G = 150) (w : Nat → va_E) (fl : va_W) (u g : Nat → Int) (i T : Int) (hi : -2147483648 ≤ i ∧ i ≤ 2147483647) (hT : -2147483648 ≤ T ∧ T ≤ 2147483647) (hI : Inv g) (hm : w 133 = mdO G u) (hn : w 134 = lA G 93 g) (hSc : kScr G w) : KM l G yX12_carried cX12_carried 3 (some (FieldType.int)) 13 0 0 [.ref (kad G 133), vI i, vI T] w fl (kRt (thR ((0 ≤ i ∧ i < g 2) ∧ (0 ≤ T ∧ T ≤ 5000)) (carM g i.toNat T) (¬ (0 ≤ i ∧ i < g 2)) 1 ((0 ≤ i ∧ i < g 2) ∧ ¬ (0 ≤ T ∧ T ≤ 5000)) 2) fl (fun th w1 => mSt G w w1 u th)) := by
  refine KM_of2 hls (by decide +kernel) rfl (lv0 := [(0, .ref (kad G 133)), (1, vI i), (2, vI T)]) rfl (Nat.le_of_ble_eq_true rfl) (fun p e R s m args below meth c Q hC hr hQ => ?_)
  obtain ⟨⟨ls, lc, lo, hLs⟩, hx, hy, hHt⟩ := hSc
  have h0 := hI.c
  refine k_aload_n hC dX12_carried_0 rfl 0 rfl ?_
  refine k_aload_n hC dX12_carried_1 rfl 0 rfl ?_
  refine k_iload_n hC dX12_carried_2 rfl 1 rfl ?_
  refine k_pureV hC (c_X12_isSight l hls G hN w fl u g i (by omega) hI hm hn) yy_X12_isSight wm_X12_265 (kl hN (by decide)) hm rfl rfl rfl rfl (Nat.le_of_ble_eq_true rfl) (by decide) (by decide) ⟨by decide, by decide⟩ dX12_carried_3 ?_
  obtain ⟨z_1, ez_1, hz_1⟩ := k_bI (0 ≤ i ∧ i ≤ g 2 - 1)
  refine k_topv (vI z_1) (by rw [ez_1]) ?_
  refine k_if_ne hC 13 dX12_carried_6 rfl (by omega) (fun c_6 => ?_) (fun c_6 => ?_)
  · refine k_aload_n hC dX12_carried_13 rfl 0 rfl ?_
    refine k_iload_n hC dX12_carried_14 rfl 2 rfl ?_
    refine k_pureV hC (c_X12_isTime l hls G hN w fl u g T (by omega) hI hm hn) yy_X12_isTime wm_X12_262 (kl hN (by decide)) hm rfl rfl rfl rfl (Nat.le_of_ble_eq_true rfl) (by decide) (by decide) ⟨by decide, by decide⟩ dX12_carried_15 ?_
    obtain ⟨z_2, ez_2, hz_2⟩ := k_bI (0 ≤ T ∧ T ≤ 5000)
    refine k_topv (vI z_2) (by rw [ez_2]) ?_
    refine k_if_eq hC 25 dX12_carried_18 rfl (by omega) (fun c_18 => ?_) (fun c_18 => ?_)
    · refine k_iconst hC dX12_carried_25 ?_
      refine k_put hC fd_X12_74 (kl hN (by decide)) hm [.ref (kad G 134), .ref (kad G 135), .ref (kad G 136), .ref (kad G 137), vI (u 4), vI 2, vI (u 6), .ref (kad G 138), .ref (kad G 139), .ref (kad G 140), .ref (kad G 141), .ref (kad G 142), vL (u 12), vL (u 13), .ref (kad G 143), vI (u 15), .ref (kad G 144), vI (u 17), vI (u 18), vI (u 19), vI (u 20), vI (u 21), vI (u 22), vI (u 23), vI (u 24), vI (u 25), .ref (kad G 145), .ref (kad G 146), .ref (kad G 147), vI (u 29)] rfl (Nat.le_of_ble_eq_true rfl) rfl rfl dX12_carried_26 (fun w3 hw3 hf3 => ?_)
      refine k_aload_n hC dX12_carried_29 rfl 0 rfl ?_
      refine k_get hC fd_X12_74 (kl hN (by decide)) hw3 rfl dX12_carried_30 ?_
      refine k_if_eq hC 38 dX12_carried_33 rfl (by omega) (fun c_33 => absurd c_33 (by omega)) (fun c_33 => ?_)
      refine k_iconst hC dX12_carried_36 ?_
      have hB_4 : kLns G w3 ls lc lo := hLs.fr (fun j q1 q2 => (hf3 j (by omega)))
      have hB_5 : kHts G w3 hx hy := hHt.fr (fun j q1 q2 => (hf3 j (by omega)))
      subst hQ
      exact k_iret hC hr ⟨by decide, by decide⟩ (⟨_, 2, rfl, rfl, Or.inr (Or.inr ⟨by omega, rfl⟩), ⟨⟨u 12, u 13, hw3⟩, ⟨⟨_, _, _, hB_4⟩, _, _, hB_5⟩, fun j hj => hf3 j (by omega)⟩⟩) dX12_carried_37
    · refine k_iconst hC dX12_carried_21 ?_
      refine k_goto hC 26 dX12_carried_22 rfl ?_
      refine k_put hC fd_X12_74 (kl hN (by decide)) hm [.ref (kad G 134), .ref (kad G 135), .ref (kad G 136), .ref (kad G 137), vI (u 4), vI 0, vI (u 6), .ref (kad G 138), .ref (kad G 139), .ref (kad G 140), .ref (kad G 141), .ref (kad G 142), vL (u 12), vL (u 13), .ref (kad G 143), vI (u 15), .ref (kad G 144), vI (u 17), vI (u 18), vI (u 19), vI (u 20), vI (u 21), vI (u 22), vI (u 23), vI (u 24), vI (u 25), .ref (kad G 145), .ref (kad G 146), .ref (kad G 147), vI (u 29)] rfl (Nat.le_of_ble_eq_true rfl) rfl rfl dX12_carried_26 (fun w6 hw6 hf6 => ?_)
      obtain ⟨k, ek⟩ : ∃ zz : Nat, i = (zz : Int) := ⟨i.toNat, by omega⟩
      subst ek
      refine k_aload_n hC dX12_carried_29 rfl 0 rfl ?_
      refine k_get hC fd_X12_74 (kl hN (by decide)) hw6 rfl dX12_carried_30 ?_
      refine k_if_eq hC 38 dX12_carried_33 rfl (by omega) (fun c_33 => ?_) (fun c_33 => absurd c_33 (by omega))
      refine k_aload_n hC dX12_carried_38 rfl 0 rfl ?_
      refine k_iload_n hC dX12_carried_39 rfl 1 rfl ?_
      refine k_iload_n hC dX12_carried_40 rfl 2 rfl ?_
      refine k_i2l hC dX12_carried_41 (by omega) ?_
      have h_7 : w6 134 = lA G 93 g := (hf6 134 (by decide)).trans hn
      have hB_8 : kLns G w6 ls lc lo := hLs.fr (fun j q1 q2 => (hf6 j (by omega)))
      refine k_muvV hC (c_X12_carry l hls G hN w6 fl (kup u 5 0) g ls lc lo k T hI (by omega) (by omega) hw6 h_7 hB_8) yy_X12_carry wm_X12_197 (kl hN (by decide)) hw6 rfl rfl rfl rfl (Nat.le_of_ble_eq_true rfl) (by decide) (by decide) ⟨by decide, by decide⟩ dX12_carried_42 (fun w9 hp9 => ?_)
      obtain ⟨⟨ls9, lc9, lo9, hl9, hat9, hat_9⟩, hf9⟩ := hp9
      refine k_aload_n hC dX12_carried_45 rfl 0 rfl ?_
      have h_10 : w9 133 = .inr (12, [.ref (kad G 134), .ref (kad G 135), .ref (kad G 136), .ref (kad G 137), vI (u 4), vI 0, vI (u 6), .ref (kad G 138), .ref (kad G 139), .ref (kad G 140), .ref (kad G 141), .ref (kad G 142), vL (u 12), vL (u 13), .ref (kad G 143), vI (u 15), .ref (kad G 144), vI (u 17), vI (u 18), vI (u 19), vI (u 20), vI (u 21), vI (u 22), vI (u 23), vI (u 24), vI (u 25), .ref (kad G 145), .ref (kad G 146), .ref (kad G 147), vI (u 29)]) := (hf9 133 (by omega)).trans hw6
      refine k_get hC fd_X12_28 (kl hN (by decide)) h_10 rfl dX12_carried_46 ?_
      refine k_iload_n hC dX12_carried_49 rfl 1 rfl ?_
      refine k_lald hC (kl hN (by decide)) hl9.2.2 (by omega) (by decide) dX12_carried_50 ?_
      refine k_topv (vL (lo9 k)) rfl ?_
      refine k_topv (vL (carM g k T)) (congrArg vL (by exact hat9.2.2)) ?_
      refine k_l2i hC dX12_carried_51 ?_
      have hB_11 : kHts G w9 hx hy := hHt.fr (fun j q1 q2 => (hf9 j (by omega)).trans (hf6 j (by omega)))
      subst hQ
      exact k_iret hC hr ⟨by decide, by decide⟩ (⟨_, 0, rfl, rfl, Or.inl ⟨by omega, rfl, (show ((carM g k T : Int) = carM g k T) from rfl)⟩, ⟨⟨u 12, u 13, h_10⟩, ⟨⟨_, _, _, hl9⟩, _, _, hB_11⟩, fun j hj => (hf9 j (by omega)).trans (hf6 j (by omega))⟩⟩) dX12_carried_52
  · refine k_iconst hC dX12_carried_9 ?_
    refine k_goto hC 26 dX12_carried_10 rfl ?_
    refine k_put hC fd_X12_74 (kl hN (by decide)) hm [.ref (kad G 134), .ref (kad G 135), .ref (kad G 136), .ref (kad G 137), vI (u 4), vI 1, vI (u 6), .ref (kad G 138), .ref (kad G 139), .ref (kad G 140), .ref (kad G 141), .ref (kad G 142), vL (u 12), vL (u 13), .ref (kad G 143), vI (u 15), .ref (kad G 144), vI (u 17), vI (u 18), vI (u 19), vI (u 20), vI (u 21), vI (u 22), vI (u 23), vI (u 24), vI (u 25), .ref (kad G 145), .ref (kad G 146), .ref (kad G 147), vI (u 29)] rfl (Nat.le_of_ble_eq_true rfl) rfl rfl dX12_carried_26 (fun w12 hw12 hf12 => ?_)
    refine k_aload_n hC dX12_carried_29 rfl 0 rfl ?_
    refine k_get hC fd_X12_74 (kl hN (by decide)) hw12 rfl dX12_carried_30 ?_
    refine k_if_eq hC 38 dX12_carried_33 rfl (by omega) (fun c_33 => absurd c_33 (by omega)) (fun c_33 => ?_)
    refine k_iconst hC dX12_carried_36 ?_
    have hB_13 : kLns G w12 ls lc lo := hLs.fr (fun j q1 q2 => (hf12 j (by omega)))
    have hB_14 : kHts G w12 hx hy := hHt.fr (fun j q1 q2 => (hf12 j (by omega)))
    subst hQ
    exact k_iret hC hr ⟨by decide, by decide⟩ (⟨_, 1, rfl, rfl, Or.inr (Or.inl ⟨by omega, rfl⟩), ⟨⟨u 12, u 13, hw12⟩, ⟨⟨_, _, _, hB_13⟩, _, _, hB_14⟩, fun j hj => hf12 j (by omega)⟩⟩) dX12_carried_37

set_option maxRecDepth 100000 in
set_option maxHeartbeats 4000000 in
theorem c_X12_crossing (l : Launch) (hls : l.stackTraces = false) (G : kG) (hN : kN G = 150) (w : Nat → va_E) (fl : va_W) (u g : Nat → Int) (i j T no : Int) (hi : -2147483648 ≤ i ∧ i ≤ 2147483647) (hj : -2147483648 ≤ j ∧ j ≤ 2147483647) (hT : -2147483648 ≤ T ∧ T ≤ 2147483647) (hno : no = 0 ∨ no = 1) (hI : Inv g) (hm : w 133 = mdO G u) (hn : w 134 = lA G 93 g) (hSc : kScr G w) : KM l G yX12_crossing cX12_crossing 5 (some (FieldType.int)) 13 0 0 [.ref (kad G 133), vI i, vI j, vI T, vI no] w fl (kRt (thR (((0 ≤ i ∧ i < g 2) ∧ (0 ≤ j ∧ j < g 2)) ∧ (0 ≤ T ∧ T ≤ 5000)) (crsV g i.toNat j.toNat T no) (¬ ((0 ≤ i ∧ i < g 2) ∧ (0 ≤ j ∧ j < g 2))) 1 (((0 ≤ i ∧ i < g 2) ∧ (0 ≤ j ∧ j < g 2)) ∧ ¬ (0 ≤ T ∧ T ≤ 5000)) 2) fl (fun th w1 => mSt G w w1 u th)) := by
  refine KM_of2 hls (by decide +kernel) rfl (lv0 := [(0, .ref (kad G 133)), (1, vI i), (2, vI j), (3, vI T), (4, vI no)]) rfl (Nat.le_of_ble_eq_true rfl) (fun p e R s m args below meth c Q hC hr hQ => ?_)
  obtain ⟨⟨ls, lc, lo, hLs⟩, hx, hy, hHt⟩ := hSc
  have h0 := hI.c
  refine k_aload_n hC dX12_crossing_0 rfl 0 rfl ?_
  refine k_aload_n hC dX12_crossing_1 rfl 0 rfl ?_
  refine k_iload_n hC dX12_crossing_2 rfl 1 rfl ?_
  refine k_pureV hC (c_X12_isSight l hls G hN w fl u g i (by omega) hI hm hn) yy_X12_isSight wm_X12_265 (kl hN (by decide)) hm rfl rfl rfl rfl (Nat.le_of_ble_eq_true rfl) (by decide) (by decide) ⟨by decide, by decide⟩ dX12_crossing_3 ?_
  obtain ⟨z_1, ez_1, hz_1⟩ := k_bI (0 ≤ i ∧ i ≤ g 2 - 1)
  refine k_topv (vI z_1) (by rw [ez_1]) ?_
  refine k_if_eq hC 17 dX12_crossing_6 rfl (by omega) (fun c_6 => ?_) (fun c_6 => ?_)
  · refine k_iconst hC dX12_crossing_17 ?_
    refine k_goto hC 34 dX12_crossing_18 rfl ?_
    refine k_put hC fd_X12_74 (kl hN (by decide)) hm [.ref (kad G 134), .ref (kad G 135), .ref (kad G 136), .ref (kad G 137), vI (u 4), vI 1, vI (u 6), .ref (kad G 138), .ref (kad G 139), .ref (kad G 140), .ref (kad G 141), .ref (kad G 142), vL (u 12), vL (u 13), .ref (kad G 143), vI (u 15), .ref (kad G 144), vI (u 17), vI (u 18), vI (u 19), vI (u 20), vI (u 21), vI (u 22), vI (u 23), vI (u 24), vI (u 25), .ref (kad G 145), .ref (kad G 146), .ref (kad G 147), vI (u 29)] rfl (Nat.le_of_ble_eq_true rfl) rfl rfl dX12_crossing_34 (fun w2 hw2 hf2 => ?_)
    refine k_aload_n hC dX12_crossing_37 rfl 0 rfl ?_
    refine k_get hC fd_X12_74 (kl hN (by decide)) hw2 rfl dX12_crossing_38 ?_
    refine k_if_eq hC 46 dX12_crossing_41 rfl (by omega) (fun c_41 => absurd c_41 (by omega)) (fun c_41 => ?_)
    refine k_iconst hC dX12_crossing_44 ?_
    have hB_3 : kLns G w2 ls lc lo := hLs.fr (fun j q1 q2 => (hf2 j (by omega)))
    have hB_4 : kHts G w2 hx hy := hHt.fr (fun j q1 q2 => (hf2 j (by omega)))
    subst hQ
    exact k_iret hC hr ⟨by decide, by decide⟩ (⟨_, 1, rfl, rfl, Or.inr (Or.inl ⟨by omega, rfl⟩), ⟨⟨u 12, u 13, hw2⟩, ⟨⟨_, _, _, hB_3⟩, _, _, hB_4⟩, fun j hj => hf2 j (by omega)⟩⟩) dX12_crossing_45
  · refine k_aload_n hC dX12_crossing_9 rfl 0 rfl ?_
    refine k_iload_n hC dX12_crossing_10 rfl 2 rfl ?_
    refine k_pureV hC (c_X12_isSight l hls G hN w fl u g j (by omega) hI hm hn) yy_X12_isSight wm_X12_265 (kl hN (by decide)) hm rfl rfl rfl rfl (Nat.le_of_ble_eq_true rfl) (by decide) (by decide) ⟨by decide, by decide⟩ dX12_crossing_11 ?_
    obtain ⟨z_5, ez_5, hz_5⟩ := k_bI (0 ≤ j ∧ j ≤ g 2 - 1)
    refine k_topv (vI z_5) (by rw [ez_5]) ?_
    refine k_if_ne hC 21 dX12_crossing_14 rfl (by omega) (fun c_14 => ?_) (fun c_14 => ?_)
    · refine k_aload_n hC dX12_crossing_21 rfl 0 rfl ?_
      refine k_iload_n hC dX12_crossing_22 rfl 3 rfl ?_
      refine k_pureV hC (c_X12_isTime l hls G hN w fl u g T (by omega) hI hm hn) yy_X12_isTime wm_X12_262 (kl hN (by decide)) hm rfl rfl rfl rfl (Nat.le_of_ble_eq_true rfl) (by decide) (by decide) ⟨by decide, by decide⟩ dX12_crossing_23 ?_
      obtain ⟨z_6, ez_6, hz_6⟩ := k_bI (0 ≤ T ∧ T ≤ 5000)
      refine k_topv (vI z_6) (by rw [ez_6]) ?_
      refine k_if_eq hC 33 dX12_crossing_26 rfl (by omega) (fun c_26 => ?_) (fun c_26 => ?_)
      · refine k_iconst hC dX12_crossing_33 ?_
        refine k_put hC fd_X12_74 (kl hN (by decide)) hm [.ref (kad G 134), .ref (kad G 135), .ref (kad G 136), .ref (kad G 137), vI (u 4), vI 2, vI (u 6), .ref (kad G 138), .ref (kad G 139), .ref (kad G 140), .ref (kad G 141), .ref (kad G 142), vL (u 12), vL (u 13), .ref (kad G 143), vI (u 15), .ref (kad G 144), vI (u 17), vI (u 18), vI (u 19), vI (u 20), vI (u 21), vI (u 22), vI (u 23), vI (u 24), vI (u 25), .ref (kad G 145), .ref (kad G 146), .ref (kad G 147), vI (u 29)] rfl (Nat.le_of_ble_eq_true rfl) rfl rfl dX12_crossing_34 (fun w7 hw7 hf7 => ?_)
        refine k_aload_n hC dX12_crossing_37 rfl 0 rfl ?_
        refine k_get hC fd_X12_74 (kl hN (by decide)) hw7 rfl dX12_crossing_38 ?_
        refine k_if_eq hC 46 dX12_crossing_41 rfl (by omega) (fun c_41 => absurd c_41 (by omega)) (fun c_41 => ?_)
        refine k_iconst hC dX12_crossing_44 ?_
        have hB_8 : kLns G w7 ls lc lo := hLs.fr (fun j q1 q2 => (hf7 j (by omega)))
        have hB_9 : kHts G w7 hx hy := hHt.fr (fun j q1 q2 => (hf7 j (by omega)))
        subst hQ
        exact k_iret hC hr ⟨by decide, by decide⟩ (⟨_, 2, rfl, rfl, Or.inr (Or.inr ⟨by omega, rfl⟩), ⟨⟨u 12, u 13, hw7⟩, ⟨⟨_, _, _, hB_8⟩, _, _, hB_9⟩, fun j hj => hf7 j (by omega)⟩⟩) dX12_crossing_45
      · refine k_iconst hC dX12_crossing_29 ?_
        refine k_goto hC 34 dX12_crossing_30 rfl ?_
        refine k_put hC fd_X12_74 (kl hN (by decide)) hm [.ref (kad G 134), .ref (kad G 135), .ref (kad G 136), .ref (kad G 137), vI (u 4), vI 0, vI (u 6), .ref (kad G 138), .ref (kad G 139), .ref (kad G 140), .ref (kad G 141), .ref (kad G 142), vL (u 12), vL (u 13), .ref (kad G 143), vI (u 15), .ref (kad G 144), vI (u 17), vI (u 18), vI (u 19), vI (u 20), vI (u 21), vI (u 22), vI (u 23), vI (u 24), vI (u 25), .ref (kad G 145), .ref (kad G 146), .ref (kad G 147), vI (u 29)] rfl (Nat.le_of_ble_eq_true rfl) rfl rfl dX12_crossing_34 (fun w10 hw10 hf10 => ?_)
        obtain ⟨k, ek⟩ : ∃ zz : Nat, i = (zz : Int) := ⟨i.toNat, by omega⟩
        subst ek
        obtain ⟨n, en⟩ : ∃ zz : Nat, j = (zz : Int) := ⟨j.toNat, by omega⟩
        subst en
        have ht : 0 ≤ T ∧ T ≤ 5000 := by omega
        refine k_aload_n hC dX12_crossing_37 rfl 0 rfl ?_
        refine k_get hC fd_X12_74 (kl hN (by decide)) hw10 rfl dX12_crossing_38 ?_
        refine k_if_eq hC 46 dX12_crossing_41 rfl (by omega) (fun c_41 => ?_) (fun c_41 => absurd c_41 (by omega))
        refine k_aload_n hC dX12_crossing_46 rfl 0 rfl ?_
        refine k_iload_n hC dX12_crossing_47 rfl 1 rfl ?_
        refine k_iload_n hC dX12_crossing_48 rfl 3 rfl ?_
        refine k_i2l hC dX12_crossing_49 (by omega) ?_
        have h_11 : w10 134 = lA G 93 g := (hf10 134 (by decide)).trans hn
        have hB_12 : kLns G w10 ls lc lo := hLs.fr (fun j q1 q2 => (hf10 j (by omega)))
        refine k_muvV hC (c_X12_carry l hls G hN w10 fl (kup u 5 0) g ls lc lo k T hI (by omega) (by omega) hw10 h_11 hB_12) yy_X12_carry wm_X12_197 (kl hN (by decide)) hw10 rfl rfl rfl rfl (Nat.le_of_ble_eq_true rfl) (by decide) (by decide) ⟨by decide, by decide⟩ dX12_crossing_50 (fun w13 hp13 => ?_)
        obtain ⟨⟨ls13, lc13, lo13, hl13, hat13, hat_13⟩, hf13⟩ := hp13
        refine k_aload_n hC dX12_crossing_53 rfl 0 rfl ?_
        refine k_iload_n hC dX12_crossing_54 rfl 2 rfl ?_
        refine k_iload_n hC dX12_crossing_55 rfl 3 rfl ?_
        refine k_i2l hC dX12_crossing_56 (by omega) ?_
        have h_14 : w13 133 = .inr (12, [.ref (kad G 134), .ref (kad G 135), .ref (kad G 136), .ref (kad G 137), vI (u 4), vI 0, vI (u 6), .ref (kad G 138), .ref (kad G 139), .ref (kad G 140), .ref (kad G 141), .ref (kad G 142), vL (u 12), vL (u 13), .ref (kad G 143), vI (u 15), .ref (kad G 144), vI (u 17), vI (u 18), vI (u 19), vI (u 20), vI (u 21), vI (u 22), vI (u 23), vI (u 24), vI (u 25), .ref (kad G 145), .ref (kad G 146), .ref (kad G 147), vI (u 29)]) := (hf13 133 (by omega)).trans hw10
        have h_15 : w13 134 = lA G 93 g := (hf13 134 (by omega)).trans h_11
        refine k_muvV hC (c_X12_carry l hls G hN w13 fl (kup u 5 0) g ls13 lc13 lo13 n T hI (by omega) (by omega) h_14 h_15 hl13) yy_X12_carry wm_X12_197 (kl hN (by decide)) h_14 rfl rfl rfl rfl (Nat.le_of_ble_eq_true rfl) (by decide) (by decide) ⟨by decide, by decide⟩ dX12_crossing_57 (fun w16 hp16 => ?_)
        obtain ⟨⟨ls16, lc16, lo16, hl16, hat16, hat_16⟩, hf16⟩ := hp16
        refine k_aload_n hC dX12_crossing_60 rfl 0 rfl ?_
        refine k_iload_n hC dX12_crossing_61 rfl 1 rfl ?_
        refine k_iload_n hC dX12_crossing_62 rfl 2 rfl ?_
        have h_17 : w16 133 = .inr (12, [.ref (kad G 134), .ref (kad G 135), .ref (kad G 136), .ref (kad G 137), vI (u 4), vI 0, vI (u 6), .ref (kad G 138), .ref (kad G 139), .ref (kad G 140), .ref (kad G 141), .ref (kad G 142), vL (u 12), vL (u 13), .ref (kad G 143), vI (u 15), .ref (kad G 144), vI (u 17), vI (u 18), vI (u 19), vI (u 20), vI (u 21), vI (u 22), vI (u 23), vI (u 24), vI (u 25), .ref (kad G 145), .ref (kad G 146), .ref (kad G 147), vI (u 29)]) := (hf16 133 (by omega)).trans h_14
        have h_18 : w16 134 = lA G 93 g := (hf16 134 (by omega)).trans h_15
        refine k_pureV hC (c_X12_crossWell l hls G hN w16 fl (kup u 5 0) g ls16 lc16 lo16 k n T (by omega) (by omega) (hat_16 k hat13) hat16 hI h_17 h_18 hl16) yy_X12_crossWell wm_X12_214 (kl hN (by decide)) h_17 rfl rfl rfl rfl (Nat.le_of_ble_eq_true rfl) (by decide) (by decide) ⟨by decide, by decide⟩ dX12_crossing_63 ?_
        refine k_topv (vI (if crOK (crDet (sinM (aziM g k)) (cosM (aziM g k)) (sinM (aziM g n)) (cosM (aziM g n))) then 1 else 0)) rfl ?_
        obtain ⟨z_19, ez_19, hz_19⟩ := k_bI (crOK (crDet (sinM (aziM g k)) (cosM (aziM g k)) (sinM (aziM g n)) (cosM (aziM g n))))
        refine k_topv (vI z_19) (by rw [ez_19]) ?_
        refine k_if_eq hC 81 dX12_crossing_66 rfl (by omega) (fun c_66 => ?_) (fun c_66 => ?_)
        · have nok : ¬ crOK (crDet (sinM (aziM g k)) (cosM (aziM g k)) (sinM (aziM g n)) (cosM (aziM g n))) := (hz_19.resolve_left (fun q1 => by omega)).2
          refine k_ldcw hC (x := (-1000000000)) (v := (-1000000000)) dX12_crossing_81 (by decide) wk_X12_268 ?_
          have hB_20 : kHts G w16 hx hy := hHt.fr (fun j q1 q2 => (hf16 j (by omega)).trans ((hf13 j (by omega)).trans (hf10 j (by omega))))
          subst hQ
          exact k_iret hC hr ⟨by decide, by decide⟩ (⟨_, 0, rfl, rfl, Or.inl ⟨by omega, rfl, (show ((-1000000000 : Int) = crsV g k n T no) from (by unfold crsV; rw [if_neg nok]))⟩, ⟨⟨u 12, u 13, h_17⟩, ⟨⟨_, _, _, hl16⟩, _, _, hB_20⟩, fun j hj => (hf16 j (by omega)).trans ((hf13 j (by omega)).trans (hf10 j (by omega)))⟩⟩) dX12_crossing_84
        · have hok : crOK (crDet (sinM (aziM g k)) (cosM (aziM g k)) (sinM (aziM g n)) (cosM (aziM g n))) := (hz_19.resolve_right (fun q1 => by omega)).2
          refine k_aload_n hC dX12_crossing_69 rfl 0 rfl ?_
          refine k_iload_n hC dX12_crossing_70 rfl 1 rfl ?_
          refine k_iload_n hC dX12_crossing_71 rfl 2 rfl ?_
          refine k_iload hC dX12_crossing_72 4 rfl ?_
          refine k_pureV hC (c_X12_crossingOf l hls G hN w16 fl (kup u 5 0) g ls16 lc16 lo16 k n T no (by omega) (by omega) (hat_16 k hat13) hat16 hI hok ht (by omega) h_17 h_18 hl16) yy_X12_crossingOf wm_X12_218 (kl hN (by decide)) h_17 rfl rfl rfl rfl (Nat.le_of_ble_eq_true rfl) (by decide) (by decide) ⟨by decide, by decide⟩ dX12_crossing_74 ?_
          refine k_topv (vL (if no = 0 then cE g k n T else cN g k n T)) rfl ?_
          refine k_l2i hC dX12_crossing_77 ?_
          refine k_goto hC 84 dX12_crossing_78 rfl ?_
          have hB_21 : kHts G w16 hx hy := hHt.fr (fun j q1 q2 => (hf16 j (by omega)).trans ((hf13 j (by omega)).trans (hf10 j (by omega))))
          subst hQ
          exact k_iret hC hr ⟨by decide, by decide⟩ (⟨_, 0, rfl, rfl, Or.inl ⟨by omega, rfl, (show ((if no = 0 then cE g k n T else cN g k n T : Int) = crsV g k n T no) from (by unfold crsV; rw [if_pos hok]))⟩, ⟨⟨u 12, u 13, h_17⟩, ⟨⟨_, _, _, hl16⟩, _, _, hB_21⟩, fun j hj => (hf16 j (by omega)).trans ((hf13 j (by omega)).trans (hf10 j (by omega)))⟩⟩) dX12_crossing_84
    · refine k_iconst hC dX12_crossing_17 ?_
      refine k_goto hC 34 dX12_crossing_18 rfl ?_
      refine k_put hC fd_X12_74 (kl hN (by decide)) hm [.ref (kad G 134), .ref (kad G 135), .ref (kad G 136), .ref (kad G 137), vI (u 4), vI 1, vI (u 6), .ref (kad G 138), .ref (kad G 139), .ref (kad G 140), .ref (kad G 141), .ref (kad G 142), vL (u 12), vL (u 13), .ref (kad G 143), vI (u 15), .ref (kad G 144), vI (u 17), vI (u 18), vI (u 19), vI (u 20), vI (u 21), vI (u 22), vI (u 23), vI (u 24), vI (u 25), .ref (kad G 145), .ref (kad G 146), .ref (kad G 147), vI (u 29)] rfl (Nat.le_of_ble_eq_true rfl) rfl rfl dX12_crossing_34 (fun w22 hw22 hf22 => ?_)
      refine k_aload_n hC dX12_crossing_37 rfl 0 rfl ?_
      refine k_get hC fd_X12_74 (kl hN (by decide)) hw22 rfl dX12_crossing_38 ?_
      refine k_if_eq hC 46 dX12_crossing_41 rfl (by omega) (fun c_41 => absurd c_41 (by omega)) (fun c_41 => ?_)
      refine k_iconst hC dX12_crossing_44 ?_
      have hB_23 : kLns G w22 ls lc lo := hLs.fr (fun j q1 q2 => (hf22 j (by omega)))
      have hB_24 : kHts G w22 hx hy := hHt.fr (fun j q1 q2 => (hf22 j (by omega)))
      subst hQ
      exact k_iret hC hr ⟨by decide, by decide⟩ (⟨_, 1, rfl, rfl, Or.inr (Or.inl ⟨by omega, rfl⟩), ⟨⟨u 12, u 13, hw22⟩, ⟨⟨_, _, _, hB_23⟩, _, _, hB_24⟩, fun j hj => hf22 j (by omega)⟩⟩) dX12_crossing_45

set_option maxRecDepth 100000 in
set_option maxHeartbeats 4000000 in
theorem c_X12_carryHat (l : Launch) (hls : l.stackTraces = false) (G : kG) (hN : kN G = 150) (w : Nat → va_E) (fl : va_W) (u g : Nat → Int) (i j k : Nat) (T : Int) (hi : (i : Int) < g 2) (hj : (j : Int) < g 2) (hk : (k : Int) < g 2) (ht : 0 ≤ T ∧ T ≤ 5000) (hI : Inv g) (hm : w 133 = mdO G u) (hn : w 134 = lA G 93 g) (hSc : kScr G w) : KM l G yX12_carryHat cX12_carryHat 5 (some (FieldType.boolean)) 13 0 0 [.ref (kad G 133), vI (i : Int), vI (j : Int), vI (k : Int), vI T] w fl (kMut (vI (selI (hatP g i j k) 1 0)) fl (fun w1 => (∃ ls lc lo : Nat → Int, kLns G w1 ls lc lo) ∧ (∃ hx1 hy1 : Nat → Int, kHts G w1 hx1 hy1 ∧ (hatP g i j k → hx1 = htX g i j k T ∧ hy1 = htY g i j k T)) ∧ ∀ j, (j < 138 ∨ 142 < j) → w1 j = w j)) := by
  refine KM_of2 hls (by decide +kernel) rfl (lv0 := [(0, .ref (kad G 133)), (1, vI (i : Int)), (2, vI (j : Int)), (3, vI (k : Int)), (4, vI T)]) rfl (Nat.le_of_ble_eq_true rfl) (fun p e R s m args below meth c Q hC hr hQ => ?_)
  obtain ⟨⟨ls, lc, lo, hLs⟩, hx, hy, hHt⟩ := hSc
  have h0 := hI.c
  refine k_aload_n hC dX12_carryHat_0 rfl 0 rfl ?_
  refine k_iload_n hC dX12_carryHat_1 rfl 1 rfl ?_
  refine k_iload hC dX12_carryHat_2 4 rfl ?_
  refine k_i2l hC dX12_carryHat_4 (by omega) ?_
  refine k_muvV hC (c_X12_carry l hls G hN w fl u g ls lc lo i T hI (by omega) (by omega) hm hn hLs) yy_X12_carry wm_X12_197 (kl hN (by decide)) hm rfl rfl rfl rfl (Nat.le_of_ble_eq_true rfl) (by decide) (by decide) ⟨by decide, by decide⟩ dX12_carryHat_5 (fun w1 hp1 => ?_)
  obtain ⟨⟨ls1, lc1, lo1, hl1, hat1, hat_1⟩, hf1⟩ := hp1
  refine k_aload_n hC dX12_carryHat_8 rfl 0 rfl ?_
  refine k_iload_n hC dX12_carryHat_9 rfl 2 rfl ?_
  refine k_iload hC dX12_carryHat_10 4 rfl ?_
  refine k_i2l hC dX12_carryHat_12 (by omega) ?_
  have h_2 : w1 133 = .inr (12, [.ref (kad G 134), .ref (kad G 135), .ref (kad G 136), .ref (kad G 137), vI (u 4), vI (u 5), vI (u 6), .ref (kad G 138), .ref (kad G 139), .ref (kad G 140), .ref (kad G 141), .ref (kad G 142), vL (u 12), vL (u 13), .ref (kad G 143), vI (u 15), .ref (kad G 144), vI (u 17), vI (u 18), vI (u 19), vI (u 20), vI (u 21), vI (u 22), vI (u 23), vI (u 24), vI (u 25), .ref (kad G 145), .ref (kad G 146), .ref (kad G 147), vI (u 29)]) := (hf1 133 (by omega)).trans hm
  have h_3 : w1 134 = lA G 93 g := (hf1 134 (by omega)).trans hn
  refine k_muvV hC (c_X12_carry l hls G hN w1 fl u g ls1 lc1 lo1 j T hI (by omega) (by omega) h_2 h_3 hl1) yy_X12_carry wm_X12_197 (kl hN (by decide)) h_2 rfl rfl rfl rfl (Nat.le_of_ble_eq_true rfl) (by decide) (by decide) ⟨by decide, by decide⟩ dX12_carryHat_13 (fun w4 hp4 => ?_)
  obtain ⟨⟨ls4, lc4, lo4, hl4, hat4, hat_4⟩, hf4⟩ := hp4
  refine k_aload_n hC dX12_carryHat_16 rfl 0 rfl ?_
  refine k_iload_n hC dX12_carryHat_17 rfl 3 rfl ?_
  refine k_iload hC dX12_carryHat_18 4 rfl ?_
  refine k_i2l hC dX12_carryHat_20 (by omega) ?_
  have h_5 : w4 133 = .inr (12, [.ref (kad G 134), .ref (kad G 135), .ref (kad G 136), .ref (kad G 137), vI (u 4), vI (u 5), vI (u 6), .ref (kad G 138), .ref (kad G 139), .ref (kad G 140), .ref (kad G 141), .ref (kad G 142), vL (u 12), vL (u 13), .ref (kad G 143), vI (u 15), .ref (kad G 144), vI (u 17), vI (u 18), vI (u 19), vI (u 20), vI (u 21), vI (u 22), vI (u 23), vI (u 24), vI (u 25), .ref (kad G 145), .ref (kad G 146), .ref (kad G 147), vI (u 29)]) := (hf4 133 (by omega)).trans h_2
  have h_6 : w4 134 = lA G 93 g := (hf4 134 (by omega)).trans h_3
  refine k_muvV hC (c_X12_carry l hls G hN w4 fl u g ls4 lc4 lo4 k T hI (by omega) (by omega) h_5 h_6 hl4) yy_X12_carry wm_X12_197 (kl hN (by decide)) h_5 rfl rfl rfl rfl (Nat.le_of_ble_eq_true rfl) (by decide) (by decide) ⟨by decide, by decide⟩ dX12_carryHat_21 (fun w7 hp7 => ?_)
  obtain ⟨⟨ls7, lc7, lo7, hl7, hat7, hat_7⟩, hf7⟩ := hp7
  refine k_aload_n hC dX12_carryHat_24 rfl 0 rfl ?_
  refine k_iload_n hC dX12_carryHat_25 rfl 1 rfl ?_
  refine k_iload_n hC dX12_carryHat_26 rfl 2 rfl ?_
  refine k_iload_n hC dX12_carryHat_27 rfl 3 rfl ?_
  have h_8 : w7 133 = .inr (12, [.ref (kad G 134), .ref (kad G 135), .ref (kad G 136), .ref (kad G 137), vI (u 4), vI (u 5), vI (u 6), .ref (kad G 138), .ref (kad G 139), .ref (kad G 140), .ref (kad G 141), .ref (kad G 142), vL (u 12), vL (u 13), .ref (kad G 143), vI (u 15), .ref (kad G 144), vI (u 17), vI (u 18), vI (u 19), vI (u 20), vI (u 21), vI (u 22), vI (u 23), vI (u 24), vI (u 25), .ref (kad G 145), .ref (kad G 146), .ref (kad G 147), vI (u 29)]) := (hf7 133 (by omega)).trans h_5
  have h_9 : w7 134 = lA G 93 g := (hf7 134 (by omega)).trans h_6
  have hB_10 : kHts G w7 hx hy := hHt.fr (fun j q1 q2 => (hf7 j (by omega)).trans ((hf4 j (by omega)).trans (hf1 j (by omega))))
  refine k_mutV hC (c_X12_layHat l hls G hN w7 fl u g ls7 lc7 lo7 hx hy i j k T (by omega) (by omega) (by omega) (hat_7 i (hat_4 i hat1)) (hat_7 j hat4) hat7 ht hI h_8 h_9 hl7 hB_10) yy_X12_layHat wm_X12_269 (kl hN (by decide)) h_8 rfl rfl rfl rfl (Nat.le_of_ble_eq_true rfl) (by decide) (by decide) ⟨by decide, by decide⟩ dX12_carryHat_28 (fun w11 hp11 => ?_)
  obtain ⟨⟨hx11, hy11, hh11, hxy11⟩, hf11⟩ := hp11
  obtain ⟨z11, ez11, hz11⟩ := selI_c (hatP g i j k)
  refine k_topv (vI z11) (by rw [ez11]) ?_
  have hB_12 : kLns G w11 ls7 lc7 lo7 := hl7.fr (fun j q1 q2 => (hf11 j (by omega)))
  subst hQ
  exact k_zret hC (by omega) hr ⟨by decide, by decide⟩ (⟨congrArg (fun z => some (vI z)) (show selI (hatP g i j k) 1 0 = z11 from ez11), rfl, ⟨_, _, _, hB_12⟩, ⟨_, _, hh11, hxy11⟩, fun j hj => (hf11 j (by omega)).trans ((hf7 j (by omega)).trans ((hf4 j (by omega)).trans (hf1 j (by omega))))⟩) dX12_carryHat_31

