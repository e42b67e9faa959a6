def kScr (G : kG) (w : Nat → va_E) : Prop := (∃ ls lc lo : Nat → Int, kLns G w ls lc lo) ∧ ∃ hx hy : Nat → Int, kHts G w hx hy
theorem kScr.fr {G : kG} {w w1 : Nat → va_E} (h : kScr G w) (hf : ∀ j, 138 ≤ j → j ≤ 142 → w1 j = w j) : kScr G w1 := by
  obtain ⟨⟨ls, lc, lo, h1⟩, hx, hy, h2⟩ := h
  exact ⟨⟨ls, lc, lo, h1.fr (fun j q1 q2 => hf j q1 (by omega))⟩, hx, hy, h2.fr (fun j q1 q2 => hf j (by omega) q2)⟩
def mSt (G : kG) (w w1 : Nat → va_E) (u : Nat → Int) (th : Int) : Prop := (∃ fe fn : Int, w1 133 = mdO G (kup (kup (kup u 5 th) 12 fe) 13 fn)) ∧ kScr G w1 ∧ ∀ j, (j ≠ 133 ∧ (j < 138 ∨ 142 < j)) → w1 j = w j
def kRt (R : Int → Int → Prop) (fl : va_W) (P : Int → (Nat → va_E) → Prop) : Option Value → (Nat → va_E) → va_W → Prop := fun v w1 fl1 => ∃ b th : Int, v = some (vI b) ∧ fl = fl1 ∧ R b th ∧ P th w1
def thR (c : Prop) (v : Int) (cn : Prop) (n1 : Int) (ci : Prop) (n2 : Int) : Int → Int → Prop := fun b th => (c ∧ th = 0 ∧ b = v) ∨ (cn ∧ th = n1) ∨ (ci ∧ th = n2)
theorem rootM_ge {n x : Int} (hn : 0 ≤ n) (hx : 0 ≤ x) (h : x * x ≤ n) : x ≤ rootM n := by
  obtain ⟨h1, h2, h3⟩ := rootM_x n hn
  rcases Int.lt_or_le (rootM n) x with q | q
  · have := Int.mul_le_mul (show rootM n + 1 ≤ x by omega) (show rootM n + 1 ≤ x by omega) (by omega) hx
    omega
  · exact q
theorem natAbs_sq (x : Int) : (x.natAbs : Int) * (x.natAbs : Int) = x * x := by
  rcases Int.le_total 0 x with h | h
  · rw [show (x.natAbs : Int) = x by omega]
  · rw [show (x.natAbs : Int) = -x by omega, Int.neg_mul_neg]
theorem dstM_ge (g : Nat → Int) (T : Int) : ((fixE g T - dispM g T false).natAbs : Int) ≤ dstM g T := by
  have h1 := sq_nn (fixE g T - dispM g T false)
  have h2 := sq_nn (fixN g T - dispM g T true)
  exact rootM_ge (by omega) (by omega) (by rw [natAbs_sq]; omega)
set_option maxRecDepth 100000 in
set_option maxHeartbeats 4000000 in
theorem c_X12_thrown (l : Launch) (hls : l.stackTraces = false) (G : kG) (hN : kN G = 150) (w : Nat → va_E) (fl : va_W) (u : Nat → Int) (hm : w 133 = mdO G u) : KM l G yX12_thrown cX12_thrown 1 (some (FieldType.int)) 0 0 0 [.ref (kad G 133)] w fl (kPure (vI (u 5)) w fl) := by
  refine KM_of2 hls (by decide +kernel) rfl (lv0 := [(0, .ref (kad G 133))]) rfl (Nat.le_of_ble_eq_true rfl) (fun p e R s m args below meth c Q hC hr hQ => ?_)
  refine k_aload_n hC dX12_thrown_0 rfl 0 rfl ?_
  refine k_get hC fd_X12_74 (kl hN (by decide)) hm rfl dX12_thrown_1 ?_
  subst hQ
  exact k_iret hC hr ⟨by decide, by decide⟩ (⟨rfl, rfl, rfl⟩) dX12_thrown_4

set_option maxRecDepth 100000 in
set_option maxHeartbeats 4000000 in
theorem c_X12_raise (l : Launch) (hls : l.stackTraces = false) (G : kG) (hN : kN G = 150) (w : Nat → va_E) (fl : va_W) (u : Nat → Int) (x : Int) (hm : w 133 = mdO G u) : KM l G yX12_raise cX12_raise 2 (some (FieldType.int)) 0 0 0 [.ref (kad G 133), vI x] w fl (kMut (vI 0) fl (fun w1 => w1 133 = mdO G (kup u 5 x) ∧ ∀ j, j ≠ 133 → w1 j = w j)) := by
  refine KM_of2 hls (by decide +kernel) rfl (lv0 := [(0, .ref (kad G 133)), (1, vI x)]) rfl (Nat.le_of_ble_eq_true rfl) (fun p e R s m args below meth c Q hC hr hQ => ?_)
  refine k_aload_n hC dX12_raise_0 rfl 0 rfl ?_
  refine k_iload_n hC dX12_raise_1 rfl 1 rfl ?_
  refine k_put hC fd_X12_74 (kl hN (by decide)) hm [.ref (kad G 134), .ref (kad G 135), .ref (kad G 136), .ref (kad G 137), vI (u 4), vI x, vI (u 6), .ref (kad G 138), .ref (kad G 139), .ref (kad G 140), .ref (kad G 141), .ref (kad G 142), vL (u 12), vL (u 13), .ref (kad G 143), vI (u 15), .ref (kad G 144), vI (u 17), vI (u 18), vI (u 19), vI (u 20), vI (u 21), vI (u 22), vI (u 23), vI (u 24), vI (u 25), .ref (kad G 145), .ref (kad G 146), .ref (kad G 147), vI (u 29)] rfl (Nat.le_of_ble_eq_true rfl) rfl rfl dX12_raise_2 (fun w1 hw1 hf1 => ?_)
  refine k_iconst hC dX12_raise_5 ?_
  subst hQ
  exact k_iret hC hr ⟨by decide, by decide⟩ (⟨rfl, rfl, hw1, fun j hj => hf1 j (by omega)⟩) dX12_raise_6

set_option maxRecDepth 100000 in
set_option maxHeartbeats 4000000 in
theorem c_X12_isBody (l : Launch) (hls : l.stackTraces = false) (G : kG) (hN : kN G = 150) (w : Nat → va_E) (fl : va_W) (u g : Nat → Int) (b : Int) (hb : -2147483648 ≤ b ∧ b ≤ 2147483647) (hI : Inv g) (hm : w 133 = mdO G u) (hn : w 134 = lA G 93 g) : KM l G yX12_isBody cX12_isBody 2 (some (FieldType.boolean)) 1 0 0 [.ref (kad G 133), vI b] w fl (kPure (vI (if 0 ≤ b ∧ b ≤ g 0 - 1 then 1 else 0)) w fl) := by
  refine KM_of2 hls (by decide +kernel) rfl (lv0 := [(0, .ref (kad G 133)), (1, vI b)]) rfl (Nat.le_of_ble_eq_true rfl) (fun p e R s m args below meth c Q hC hr hQ => ?_)
  have h0 := hI.c
  refine k_iload_n hC dX12_isBody_0 rfl 1 rfl ?_
  refine k_i2l hC dX12_isBody_1 (by omega) ?_
  refine k_lconst (x := 0) hC dX12_isBody_2 (by decide) ?_
  refine k_aload_n hC dX12_isBody_3 rfl 0 rfl ?_
  refine k_get hC fd_X12_9 (kl hN (by decide)) hm rfl dX12_isBody_4 ?_
  refine k_iconst hC dX12_isBody_7 ?_
  refine k_lald hC (kl hN (by decide)) hn (by omega) (by decide) dX12_isBody_8 ?_
  refine k_topv (vL (g 0)) rfl ?_
  refine k_lconst (x := 1) hC dX12_isBody_9 (by decide) ?_
  refine k_lsub hC dX12_isBody_10 ?_
  refine k_pureS hC (c_X12_inRange l hls G hN w fl b 0 ((g 0) - 1) (by omega) (by omega) (by omega)) yy_X12_inRange wm_X12_243 rfl rfl (Nat.le_of_ble_eq_true rfl) (by decide) (by decide) ⟨by decide, by decide⟩ dX12_isBody_11 ?_
  refine k_topv (vI (if 0 ≤ b ∧ b ≤ (g 0) - 1 then 1 else 0)) rfl ?_
  subst hQ
  exact k_zret hC (by omega) hr ⟨by decide, by decide⟩ (⟨congrArg (fun z => some (vI z)) (show (if 0 ≤ b ∧ b ≤ g 0 - 1 then 1 else 0 : Int) = if 0 ≤ b ∧ b ≤ (g 0) - 1 then 1 else 0 from by omega), rfl, rfl⟩) dX12_isBody_14

set_option maxRecDepth 100000 in
set_option maxHeartbeats 4000000 in
theorem c_X12_isTime (l : Launch) (hls : l.stackTraces = false) (G : kG) (hN : kN G = 150) (w : Nat → va_E) (fl : va_W) (u g : Nat → Int) (b : Int) (hb : -2147483648 ≤ b ∧ b ≤ 2147483647) (hI : Inv g) (hm : w 133 = mdO G u) (hn : w 134 = lA G 93 g) : KM l G yX12_isTime cX12_isTime 2 (some (FieldType.boolean)) 1 0 0 [.ref (kad G 133), vI b] w fl (kPure (vI (if 0 ≤ b ∧ b ≤ 5000 then 1 else 0)) w fl) := by
  refine KM_of2 hls (by decide +kernel) rfl (lv0 := [(0, .ref (kad G 133)), (1, vI b)]) rfl (Nat.le_of_ble_eq_true rfl) (fun p e R s m args below meth c Q hC hr hQ => ?_)
  have h0 := hI.c
  refine k_iload_n hC dX12_isTime_0 rfl 1 rfl ?_
  refine k_i2l hC dX12_isTime_1 (by omega) ?_
  refine k_lconst (x := 0) hC dX12_isTime_2 (by decide) ?_
  refine k_ldc2 hC (x := 5000) (v := 5000) dX12_isTime_3 (by decide) wk_X12_260 ?_
  refine k_pureS hC (c_X12_inRange l hls G hN w fl b 0 5000 (by omega) (by omega) (by omega)) yy_X12_inRange wm_X12_243 rfl rfl (Nat.le_of_ble_eq_true rfl) (by decide) (by decide) ⟨by decide, by decide⟩ dX12_isTime_6 ?_
  refine k_topv (vI (if 0 ≤ b ∧ b ≤ 5000 then 1 else 0)) rfl ?_
  subst hQ
  exact k_zret hC (by omega) hr ⟨by decide, by decide⟩ (⟨rfl, rfl, rfl⟩) dX12_isTime_9

set_option maxRecDepth 100000 in
set_option maxHeartbeats 4000000 in
theorem c_X12_isSight (l : Launch) (hls : l.stackTraces = false) (G : kG) (hN : kN G = 150) (w : Nat → va_E) (fl : va_W) (u g : Nat → Int) (b : Int) (hb : -2147483648 ≤ b ∧ b ≤ 2147483647) (hI : Inv g) (hm : w 133 = mdO G u) (hn : w 134 = lA G 93 g) : KM l G yX12_isSight cX12_isSight 2 (some (FieldType.boolean)) 1 0 0 [.ref (kad G 133), vI b] w fl (kPure (vI (if 0 ≤ b ∧ b ≤ g 2 - 1 then 1 else 0)) w fl) := by
  refine KM_of2 hls (by decide +kernel) rfl (lv0 := [(0, .ref (kad G 133)), (1, vI b)]) rfl (Nat.le_of_ble_eq_true rfl) (fun p e R s m args below meth c Q hC hr hQ => ?_)
  have h0 := hI.c
  refine k_iload_n hC dX12_isSight_0 rfl 1 rfl ?_
  refine k_i2l hC dX12_isSight_1 (by omega) ?_
  refine k_lconst (x := 0) hC dX12_isSight_2 (by decide) ?_
  refine k_aload_n hC dX12_isSight_3 rfl 0 rfl ?_
  refine k_get hC fd_X12_9 (kl hN (by decide)) hm rfl dX12_isSight_4 ?_
  refine k_iconst hC dX12_isSight_7 ?_
  refine k_lald hC (kl hN (by decide)) hn (by omega) (by decide) dX12_isSight_8 ?_
  refine k_topv (vL (g 2)) rfl ?_
  refine k_lconst (x := 1) hC dX12_isSight_9 (by decide) ?_
  refine k_lsub hC dX12_isSight_10 ?_
  refine k_pureS hC (c_X12_inRange l hls G hN w fl b 0 ((g 2) - 1) (by omega) (by omega) (by omega)) yy_X12_inRange wm_X12_243 rfl rfl (Nat.le_of_ble_eq_true rfl) (by decide) (by decide) ⟨by decide, by decide⟩ dX12_isSight_11 ?_
  refine k_topv (vI (if 0 ≤ b ∧ b ≤ (g 2) - 1 then 1 else 0)) rfl ?_
  subst hQ
  exact k_zret hC (by omega) hr ⟨by decide, by decide⟩ (⟨congrArg (fun z => some (vI z)) (show (if 0 ≤ b ∧ b ≤ g 2 - 1 then 1 else 0 : Int) = if 0 ≤ b ∧ b ≤ (g 2) - 1 then 1 else 0 from by omega), rfl, rfl⟩) dX12_isSight_14

set_option maxRecDepth 100000 in
set_option maxHeartbeats 4000000 in
theorem c_X12_areSights (l : Launch) (hls : l.stackTraces = false) (G : kG) (hN : kN G = 150) (w : Nat → va_E) (fl : va_W) (u g : Nat → Int) (a b d : Int) (ha : -2147483648 ≤ a ∧ a ≤ 2147483647) (hb : -2147483648 ≤ b ∧ b ≤ 2147483647) (hd : -2147483648 ≤ d ∧ d ≤ 2147483647) (hI : Inv g) (hm : w 133 = mdO G u) (hn : w 134 = lA G 93 g) : KM l G yX12_areSights cX12_areSights 4 (some (FieldType.boolean)) 2 0 0 [.ref (kad G 133), vI a, vI b, vI d] w fl (kPure (vI (if (0 ≤ a ∧ a < g 2) ∧ (0 ≤ b ∧ b < g 2) ∧ (0 ≤ d ∧ d < g 2) then 1 else 0)) w fl) := by
  refine KM_of2 hls (by decide +kernel) rfl (lv0 := [(0, .ref (kad G 133)), (1, vI a), (2, vI b), (3, vI d)]) rfl (Nat.le_of_ble_eq_true rfl) (fun p e R s m args below meth c Q hC hr hQ => ?_)
  have h0 := hI.c
  refine k_aload_n hC dX12_areSights_0 rfl 0 rfl ?_
  refine k_iload_n hC dX12_areSights_1 rfl 1 rfl ?_
  refine k_pureV hC (c_X12_isSight l hls G hN w fl u g a (by omega) hI hm hn) yy_X12_isSight wm_X12_265 (kl hN (by decide)) hm rfl rfl rfl rfl (Nat.le_of_ble_eq_true rfl) (by decide) (by decide) ⟨by decide, by decide⟩ dX12_areSights_2 ?_
  obtain ⟨z_1, ez_1, hz_1⟩ := k_bI (0 ≤ a ∧ a ≤ g 2 - 1)
  refine k_topv (vI z_1) (by rw [ez_1]) ?_
  refine k_if_eq hC 28 dX12_areSights_5 rfl (by omega) (fun c_5 => ?_) (fun c_5 => ?_)
  · refine k_iconst hC dX12_areSights_28 ?_
    subst hQ
    exact k_zret hC (by omega) hr ⟨by decide, by decide⟩ (⟨congrArg (fun z => some (vI z)) (show (if (0 ≤ a ∧ a < g 2) ∧ (0 ≤ b ∧ b < g 2) ∧ (0 ≤ d ∧ d < g 2) then 1 else 0 : Int) = 0 from by first | exact if_pos (by omega) | exact if_neg (by omega)), rfl, rfl⟩) dX12_areSights_29
  · refine k_aload_n hC dX12_areSights_8 rfl 0 rfl ?_
    refine k_iload_n hC dX12_areSights_9 rfl 2 rfl ?_
    refine k_pureV hC (c_X12_isSight l hls G hN w fl u g b (by omega) hI hm hn) yy_X12_isSight wm_X12_265 (kl hN (by decide)) hm rfl rfl rfl rfl (Nat.le_of_ble_eq_true rfl) (by decide) (by decide) ⟨by decide, by decide⟩ dX12_areSights_10 ?_
    obtain ⟨z_2, ez_2, hz_2⟩ := k_bI (0 ≤ b ∧ b ≤ g 2 - 1)
    refine k_topv (vI z_2) (by rw [ez_2]) ?_
    refine k_if_eq hC 28 dX12_areSights_13 rfl (by omega) (fun c_13 => ?_) (fun c_13 => ?_)
    · refine k_iconst hC dX12_areSights_28 ?_
      subst hQ
      exact k_zret hC (by omega) hr ⟨by decide, by decide⟩ (⟨congrArg (fun z => some (vI z)) (show (if (0 ≤ a ∧ a < g 2) ∧ (0 ≤ b ∧ b < g 2) ∧ (0 ≤ d ∧ d < g 2) then 1 else 0 : Int) = 0 from by first | exact if_pos (by omega) | exact if_neg (by omega)), rfl, rfl⟩) dX12_areSights_29
    · refine k_aload_n hC dX12_areSights_16 rfl 0 rfl ?_
      refine k_iload_n hC dX12_areSights_17 rfl 3 rfl ?_
      refine k_pureV hC (c_X12_isSight l hls G hN w fl u g d (by omega) hI hm hn) yy_X12_isSight wm_X12_265 (kl hN (by decide)) hm rfl rfl rfl rfl (Nat.le_of_ble_eq_true rfl) (by decide) (by decide) ⟨by decide, by decide⟩ dX12_areSights_18 ?_
      obtain ⟨z_3, ez_3, hz_3⟩ := k_bI (0 ≤ d ∧ d ≤ g 2 - 1)
      refine k_topv (vI z_3) (by rw [ez_3]) ?_
      refine k_if_eq hC 28 dX12_areSights_21 rfl (by omega) (fun c_21 => ?_) (fun c_21 => ?_)
      · refine k_iconst hC dX12_areSights_28 ?_
        subst hQ
        exact k_zret hC (by omega) hr ⟨by decide, by decide⟩ (⟨congrArg (fun z => some (vI z)) (show (if (0 ≤ a ∧ a < g 2) ∧ (0 ≤ b ∧ b < g 2) ∧ (0 ≤ d ∧ d < g 2) then 1 else 0 : Int) = 0 from by first | exact if_pos (by omega) | exact if_neg (by omega)), rfl, rfl⟩) dX12_areSights_29
      · refine k_iconst hC dX12_areSights_24 ?_
        refine k_goto hC 29 dX12_areSights_25 rfl ?_
        subst hQ
        exact k_zret hC (by omega) hr ⟨by decide, by decide⟩ (⟨congrArg (fun z => some (vI z)) (show (if (0 ≤ a ∧ a < g 2) ∧ (0 ≤ b ∧ b < g 2) ∧ (0 ≤ d ∧ d < g 2) then 1 else 0 : Int) = 1 from by first | exact if_pos (by omega) | exact if_neg (by omega)), rfl, rfl⟩) dX12_areSights_29

set_option maxRecDepth 100000 in
set_option maxHeartbeats 4000000 in
theorem c_X12_sine (l : Launch) (hls : l.stackTraces = false) (G : kG) (hN : kN G = 150) (w : Nat → va_E) (fl : va_W) (u g : Nat → Int) (a : Int) (ha : -2147483648 ≤ a ∧ a ≤ 2147483647) (hI : Inv g) (hm : w 133 = mdO G u) (hn : w 134 = lA G 93 g) (hSc : kScr G w) : KM l G yX12_sine cX12_sine 2 (some (FieldType.int)) 4 0 0 [.ref (kad G 133), vI a] w fl (kRt (thR (True) (sinM a) (False) 1 (False) 2) fl (fun th w1 => mSt G w w1 u th)) := by
  refine KM_of2 hls (by decide +kernel) rfl (lv0 := [(0, .ref (kad G 133)), (1, vI a)]) rfl (Nat.le_of_ble_eq_true rfl) (fun p e R s m args below meth c Q hC hr hQ => ?_)
  obtain ⟨⟨ls, lc, lo, hLs⟩, hx, hy, hHt⟩ := hSc
  have h0 := hI.c
  refine k_aload_n hC dX12_sine_0 rfl 0 rfl ?_
  refine k_iconst hC dX12_sine_1 ?_
  refine k_put hC fd_X12_74 (kl hN (by decide)) hm [.ref (kad G 134), .ref (kad G 135), .ref (kad G 136), .ref (kad G 137), vI (u 4), vI 0, vI (u 6), .ref (kad G 138), .ref (kad G 139), .ref (kad G 140), .ref (kad G 141), .ref (kad G 142), vL (u 12), vL (u 13), .ref (kad G 143), vI (u 15), .ref (kad G 144), vI (u 17), vI (u 18), vI (u 19), vI (u 20), vI (u 21), vI (u 22), vI (u 23), vI (u 24), vI (u 25), .ref (kad G 145), .ref (kad G 146), .ref (kad G 147), vI (u 29)] rfl (Nat.le_of_ble_eq_true rfl) rfl rfl dX12_sine_2 (fun w1 hw1 hf1 => ?_)
  refine k_iload_n hC dX12_sine_5 rfl 1 rfl ?_
  refine k_i2l hC dX12_sine_6 (by omega) ?_
  refine k_pureS hC (c_X12_sineOf l hls G hN w1 fl a (by omega)) yy_X12_sineOf wm_X12_101 rfl rfl (Nat.le_of_ble_eq_true rfl) (by decide) (by decide) ⟨by decide, by decide⟩ dX12_sine_7 ?_
  have hb_2 := sinM_b a
  refine k_l2i hC dX12_sine_10 ?_
  have hB_3 : kLns G w1 ls lc lo := hLs.fr (fun j q1 q2 => (hf1 j (by omega)))
  have hB_4 : kHts G w1 hx hy := hHt.fr (fun j q1 q2 => (hf1 j (by omega)))
  subst hQ
  exact k_iret hC hr ⟨by decide, by decide⟩ (⟨_, 0, rfl, rfl, Or.inl ⟨trivial, rfl, (show ((sinM a : Int) = sinM a) from rfl)⟩, ⟨⟨u 12, u 13, hw1⟩, ⟨⟨_, _, _, hB_3⟩, _, _, hB_4⟩, fun j hj => hf1 j (by omega)⟩⟩) dX12_sine_11

set_option maxRecDepth 100000 in
set_option maxHeartbeats 4000000 in
theorem c_X12_arc (l : Launch) (hls : l.stackTraces = false) (G : kG) (hN : kN G = 150) (w : Nat → va_E) (fl : va_W) (u g : Nat → Int) (a : Int) (ha : -2147483648 ≤ a ∧ a ≤ 2147483647) (hI : Inv g) (hm : w 133 = mdO G u) (hn : w 134 = lA G 93 g) (hSc : kScr G w) : KM l G yX12_arc cX12_arc 2 (some (FieldType.int)) 6 0 0 [.ref (kad G 133), vI a] w fl (kRt (thR (-1000000 ≤ a ∧ a ≤ 1000000) (arcM a) (False) 1 (¬ (-1000000 ≤ a ∧ a ≤ 1000000)) 1) fl (fun th w1 => mSt G w w1 u th)) := by
  refine KM_of2 hls (by decide +kernel) rfl (lv0 := [(0, .ref (kad G 133)), (1, vI a)]) rfl (Nat.le_of_ble_eq_true rfl) (fun p e R s m args below meth c Q hC hr hQ => ?_)
  obtain ⟨⟨ls, lc, lo, hLs⟩, hx, hy, hHt⟩ := hSc
  have h0 := hI.c
  refine k_aload_n hC dX12_arc_0 rfl 0 rfl ?_
  refine k_iconst hC dX12_arc_1 ?_
  refine k_put hC fd_X12_74 (kl hN (by decide)) hm [.ref (kad G 134), .ref (kad G 135), .ref (kad G 136), .ref (kad G 137), vI (u 4), vI 0, vI (u 6), .ref (kad G 138), .ref (kad G 139), .ref (kad G 140), .ref (kad G 141), .ref (kad G 142), vL (u 12), vL (u 13), .ref (kad G 143), vI (u 15), .ref (kad G 144), vI (u 17), vI (u 18), vI (u 19), vI (u 20), vI (u 21), vI (u 22), vI (u 23), vI (u 24), vI (u 25), .ref (kad G 145), .ref (kad G 146), .ref (kad G 147), vI (u 29)] rfl (Nat.le_of_ble_eq_true rfl) rfl rfl dX12_arc_2 (fun w1 hw1 hf1 => ?_)
  refine k_iload_n hC dX12_arc_5 rfl 1 rfl ?_
  refine k_i2l hC dX12_arc_6 (by omega) ?_
  refine k_ldc2 hC (x := (-1000000)) (v := (-1000000)) dX12_arc_7 (by decide) wk_X12_241 ?_
  refine k_ldc2 hC (x := 1000000) (v := 1000000) dX12_arc_10 (by decide) wk_X12_113 ?_
  refine k_pureS hC (c_X12_inRange l hls G hN w1 fl a (-1000000) 1000000 (by omega) (by omega) (by omega)) yy_X12_inRange wm_X12_243 rfl rfl (Nat.le_of_ble_eq_true rfl) (by decide) (by decide) ⟨by decide, by decide⟩ dX12_arc_13 ?_
  refine k_topv (vI (if -1000000 ≤ a ∧ a ≤ 1000000 then 1 else 0)) rfl ?_
  obtain ⟨z_2, ez_2, hz_2⟩ := k_bI (-1000000 ≤ a ∧ a ≤ 1000000)
  refine k_topv (vI z_2) (by rw [ez_2]) ?_
  refine k_if_eq hC 28 dX12_arc_16 rfl (by omega) (fun c_16 => ?_) (fun c_16 => ?_)
  · refine k_aload_n hC dX12_arc_28 rfl 0 rfl ?_
    refine k_iconst hC dX12_arc_29 ?_
    refine k_mutV hC (c_X12_raise l hls G hN w1 fl (kup u 5 0) 1 hw1) yy_X12_raise wm_X12_247 (kl hN (by decide)) hw1 rfl rfl rfl rfl (Nat.le_of_ble_eq_true rfl) (by decide) (by decide) ⟨by decide, by decide⟩ dX12_arc_30 (fun w3 hp3 => ?_)
    obtain ⟨hu3, hf3⟩ := hp3
    have hB_4 : kLns G w3 ls lc lo := hLs.fr (fun j q1 q2 => (hf3 j (by omega)).trans (hf1 j (by omega)))
    have hB_5 : kHts G w3 hx hy := hHt.fr (fun j q1 q2 => (hf3 j (by omega)).trans (hf1 j (by omega)))
    subst hQ
    exact k_iret hC hr ⟨by decide, by decide⟩ (⟨_, 1, rfl, rfl, Or.inr (Or.inr ⟨by omega, rfl⟩), ⟨⟨u 12, u 13, hu3⟩, ⟨⟨_, _, _, hB_4⟩, _, _, hB_5⟩, fun j hj => (hf3 j (by omega)).trans (hf1 j (by omega))⟩⟩) dX12_arc_33
  · refine k_iload_n hC dX12_arc_19 rfl 1 rfl ?_
    refine k_i2l hC dX12_arc_20 (by omega) ?_
    refine k_pureS hC (c_X12_arcOf l hls G hN w1 fl a (by omega)) yy_X12_arcOf wm_X12_110 rfl rfl (Nat.le_of_ble_eq_true rfl) (by decide) (by decide) ⟨by decide, by decide⟩ dX12_arc_21 ?_
    have hb_6 := arcM_b a
    refine k_l2i hC dX12_arc_24 ?_
    refine k_goto hC 33 dX12_arc_25 rfl ?_
    have hB_7 : kLns G w1 ls lc lo := hLs.fr (fun j q1 q2 => (hf1 j (by omega)))
    have hB_8 : kHts G w1 hx hy := hHt.fr (fun j q1 q2 => (hf1 j (by omega)))
    subst hQ
    exact k_iret hC hr ⟨by decide, by decide⟩ (⟨_, 0, rfl, rfl, Or.inl ⟨by omega, rfl, (show ((arcM a : Int) = arcM a) from rfl)⟩, ⟨⟨u 12, u 13, hw1⟩, ⟨⟨_, _, _, hB_7⟩, _, _, hB_8⟩, fun j hj => hf1 j (by omega)⟩⟩) dX12_arc_33

set_option maxRecDepth 100000 in
set_option maxHeartbeats 4000000 in
theorem c_X12_told (l : Launch) (hls : l.stackTraces = false) (G : kG) (hN : kN G = 150) (w : Nat → va_E) (fl : va_W) (u g : Nat → Int) (q : Int) (hq : -2147483648 ≤ q ∧ q ≤ 2147483647) (hI : Inv g) (hm : w 133 = mdO G u) (hn : w 134 = lA G 93 g) (hSc : kScr G w) : KM l G yX12_told cX12_told 2 (some (FieldType.int)) 1 0 0 [.ref (kad G 133), vI q] w fl (kRt (thR (0 ≤ q ∧ q ≤ 8) (g q.toNat) (¬ (0 ≤ q ∧ q ≤ 8)) 1 (False) 2) fl (fun th w1 => mSt G w w1 u th)) := by
  refine KM_of2 hls (by decide +kernel) rfl (lv0 := [(0, .ref (kad G 133)), (1, vI q)]) rfl (Nat.le_of_ble_eq_true rfl) (fun p e R s m args below meth c Q hC hr hQ => ?_)
  obtain ⟨⟨ls, lc, lo, hLs⟩, hx, hy, hHt⟩ := hSc
  have h0 := hI.c
  refine k_aload_n hC dX12_told_0 rfl 0 rfl ?_
  refine k_iconst hC dX12_told_1 ?_
  refine k_put hC fd_X12_74 (kl hN (by decide)) hm [.ref (kad G 134), .ref (kad G 135), .ref (kad G 136), .ref (kad G 137), vI (u 4), vI 0, vI (u 6), .ref (kad G 138), .ref (kad G 139), .ref (kad G 140), .ref (kad G 141), .ref (kad G 142), vL (u 12), vL (u 13), .ref (kad G 143), vI (u 15), .ref (kad G 144), vI (u 17), vI (u 18), vI (u 19), vI (u 20), vI (u 21), vI (u 22), vI (u 23), vI (u 24), vI (u 25), .ref (kad G 145), .ref (kad G 146), .ref (kad G 147), vI (u 29)] rfl (Nat.le_of_ble_eq_true rfl) rfl rfl dX12_told_2 (fun w1 hw1 hf1 => ?_)
  refine k_iload_n hC dX12_told_5 rfl 1 rfl ?_
  refine k_i2l hC dX12_told_6 (by omega) ?_
  refine k_lconst (x := 0) hC dX12_told_7 (by decide) ?_
  refine k_ldc2 hC (x := 8) (v := 8) dX12_told_8 (by decide) wk_X12_251 ?_
  refine k_pureS hC (c_X12_inRange l hls G hN w1 fl q 0 8 (by omega) (by omega) (by omega)) yy_X12_inRange wm_X12_243 rfl rfl (Nat.le_of_ble_eq_true rfl) (by decide) (by decide) ⟨by decide, by decide⟩ dX12_told_11 ?_
  refine k_topv (vI (if 0 ≤ q ∧ q ≤ 8 then 1 else 0)) rfl ?_
  obtain ⟨z_2, ez_2, hz_2⟩ := k_bI (0 ≤ q ∧ q ≤ 8)
  refine k_topv (vI z_2) (by rw [ez_2]) ?_
  refine k_if_eq hC 27 dX12_told_14 rfl (by omega) (fun c_14 => ?_) (fun c_14 => ?_)
  · refine k_aload_n hC dX12_told_27 rfl 0 rfl ?_
    refine k_iconst hC dX12_told_28 ?_
    refine k_mutV hC (c_X12_raise l hls G hN w1 fl (kup u 5 0) 1 hw1) yy_X12_raise wm_X12_247 (kl hN (by decide)) hw1 rfl rfl rfl rfl (Nat.le_of_ble_eq_true rfl) (by decide) (by decide) ⟨by decide, by decide⟩ dX12_told_29 (fun w3 hp3 => ?_)
    obtain ⟨hu3, hf3⟩ := hp3
    have hB_4 : kLns G w3 ls lc lo := hLs.fr (fun j q1 q2 => (hf3 j (by omega)).trans (hf1 j (by omega)))
    have hB_5 : kHts G w3 hx hy := hHt.fr (fun j q1 q2 => (hf3 j (by omega)).trans (hf1 j (by omega)))
    subst hQ
    exact k_iret hC hr ⟨by decide, by decide⟩ (⟨_, 1, rfl, rfl, Or.inr (Or.inl ⟨by omega, rfl⟩), ⟨⟨u 12, u 13, hu3⟩, ⟨⟨_, _, _, hB_4⟩, _, _, hB_5⟩, fun j hj => (hf3 j (by omega)).trans (hf1 j (by omega))⟩⟩) dX12_told_32
  · refine k_aload_n hC dX12_told_17 rfl 0 rfl ?_
    refine k_get hC fd_X12_9 (kl hN (by decide)) hw1 rfl dX12_told_18 ?_
    refine k_iload_n hC dX12_told_21 rfl 1 rfl ?_
    have h_6 : w1 134 = lA G 93 g := (hf1 134 (by decide)).trans hn
    refine k_lald hC (kl hN (by decide)) h_6 (by omega) (by decide) dX12_told_22 ?_
    refine k_topv (vL (g q.toNat)) rfl ?_
    refine k_l2i hC dX12_told_23 ?_
    refine k_goto hC 32 dX12_told_24 rfl ?_
    have hB_7 : kLns G w1 ls lc lo := hLs.fr (fun j q1 q2 => (hf1 j (by omega)))
    have hB_8 : kHts G w1 hx hy := hHt.fr (fun j q1 q2 => (hf1 j (by omega)))
    subst hQ
    exact k_iret hC hr ⟨by decide, by decide⟩ (⟨_, 0, rfl, rfl, Or.inl ⟨by omega, rfl, (show ((g q.toNat : Int) = g q.toNat) from rfl)⟩, ⟨⟨u 12, u 13, hw1⟩, ⟨⟨_, _, _, hB_7⟩, _, _, hB_8⟩, fun j hj => hf1 j (by omega)⟩⟩) dX12_told_32

set_option maxRecDepth 100000 in
set_option maxHeartbeats 4000000 in
theorem c_X12_sightsOf (l : Launch) (hls : l.stackTraces = false) (G : kG) (hN : kN G = 150) (w : Nat → va_E) (fl : va_W) (u g : Nat → Int) (b : Int) (hb : -2147483648 ≤ b ∧ b ≤ 2147483647) (hI : Inv g) (hm : w 133 = mdO G u) (hn : w 134 = lA G 93 g) : KM l G yX12_sightsOf cX12_sightsOf 4 (some (FieldType.int)) 1 0 0 [.ref (kad G 133), vI b] w fl (kPure (vI (cntM g b (g 2).toNat)) w fl) := by
  refine KM_of2 hls (by decide +kernel) rfl (lv0 := [(0, .ref (kad G 133)), (1, vI b)]) rfl (Nat.le_of_ble_eq_true rfl) (fun p e R s m args below meth c Q hC hr hQ => ?_)
  have h0 := hI.c
  refine k_iconst hC dX12_sightsOf_0 ?_
  refine k_istore_n hC [(2, vI 0), (0, .ref (kad G 133)), (1, vI b)] dX12_sightsOf_1 rfl (by decide) rfl ?_
  refine k_iconst hC dX12_sightsOf_2 ?_
  refine k_istore_n hC [(3, vI 0), (2, vI 0), (0, .ref (kad G 133)), (1, vI b)] dX12_sightsOf_3 rfl (by decide) rfl ?_
  have loop : ∀ (n : Nat) (k : Nat) (cn : Int), ((g 2).toNat < n + k) → ((k : Int) ≤ g 2) → (cn = cntM g b k) → KW p l e R s m args below meth c 4 G Q w fl 0 0 4 [(3, vI (k : Int)), (2, vI cn), (0, .ref (kad G 133)), (1, vI b)] [] := by
    intro n
    induction n with
    | zero =>
      intro k cn hn_ hk hc
      exact absurd hn_ (by omega)
    | succ n ih =>
      intro k cn hn_ hk hc
      have hsk := fun hk2 => hI.sight k hk2
      have hcb := cntM_b g b k
      refine k_iload_n hC dX12_sightsOf_4 rfl 0 rfl ?_
      refine k_i2l hC dX12_sightsOf_5 (by omega) ?_
      refine k_aload_n hC dX12_sightsOf_6 rfl 2 rfl ?_
      refine k_get hC fd_X12_9 (kl hN (by decide)) hm rfl dX12_sightsOf_7 ?_
      refine k_iconst hC dX12_sightsOf_10 ?_
      refine k_lald hC (kl hN (by decide)) hn (by omega) (by decide) dX12_sightsOf_11 ?_
      refine k_topv (vL (g 2)) rfl ?_
      refine k_lcmp_ge hC 42 dX12_sightsOf_12 dX12_sightsOf_13 rfl (by omega) (by omega) (fun c_12 => ?_) (fun c_12 => ?_)
      · refine k_iload_n hC dX12_sightsOf_42 rfl 1 rfl ?_
        subst hQ
        exact k_iret hC hr ⟨by decide, by decide⟩ (⟨congrArg (fun z => some (vI z)) (show (cntM g b (g 2).toNat : Int) = cn from by rw [show (g 2).toNat = k by omega]; exact hc.symm), rfl, rfl⟩) dX12_sightsOf_43
      · refine k_iload_n hC dX12_sightsOf_16 rfl 1 rfl ?_
        refine k_aload_n hC dX12_sightsOf_17 rfl 2 rfl ?_
        refine k_iload_n hC dX12_sightsOf_18 rfl 0 rfl ?_
        refine k_iconst hC dX12_sightsOf_19 ?_
        refine k_pureV hC (c_X12_ofSight l hls G hN w fl u g k 0 (by omega) (by decide) hm hn) yy_X12_ofSight wm_X12_147 (kl hN (by decide)) hm rfl rfl rfl rfl (Nat.le_of_ble_eq_true rfl) (by decide) (by decide) ⟨by decide, by decide⟩ dX12_sightsOf_20 ?_
        refine k_topv (vL (g (57 + 3 * k))) rfl ?_
        refine k_iload_n hC dX12_sightsOf_23 rfl 3 rfl ?_
        refine k_i2l hC dX12_sightsOf_24 (by omega) ?_
        refine k_lcmp_ne hC 33 dX12_sightsOf_25 dX12_sightsOf_26 rfl (by omega) (by omega) (fun c_25 => ?_) (fun c_25 => ?_)
        · refine k_iconst hC dX12_sightsOf_33 ?_
          refine k_iadd hC dX12_sightsOf_34 ?_
          refine k_topI (fun nc enc => ?_)
          refine k_istore_n hC [(2, vI nc), (3, vI (k : Int)), (0, .ref (kad G 133)), (1, vI b)] dX12_sightsOf_35 rfl (by decide) rfl ?_
          refine k_iinc hC (y := (k : Int) + 1) [(3, vI ((k : Int) + 1)), (2, vI nc), (0, .ref (kad G 133)), (1, vI b)] (j := 1) dX12_sightsOf_36 rfl (by omega) (by decide) rfl ?_
          refine k_goto hC 4 dX12_sightsOf_39 rfl ?_
          refine k_lvs (ls := [0, 1, 2, 3]) [(3, vI ((k + 1 : Nat) : Int)), (2, vI nc), (0, .ref (kad G 133)), (1, vI b)] (by simp only [lv_pick]; rfl) ?_
          exact ih (k + 1) nc  (by omega) (by omega) (by show _ = cntM g b k + _; first | (rw [if_pos (by omega)]; omega) | (rw [if_neg (by omega)]; omega))
        · refine k_iconst hC dX12_sightsOf_29 ?_
          refine k_goto hC 34 dX12_sightsOf_30 rfl ?_
          refine k_iadd hC dX12_sightsOf_34 ?_
          refine k_topI (fun nc enc => ?_)
          refine k_istore_n hC [(2, vI nc), (3, vI (k : Int)), (0, .ref (kad G 133)), (1, vI b)] dX12_sightsOf_35 rfl (by decide) rfl ?_
          refine k_iinc hC (y := (k : Int) + 1) [(3, vI ((k : Int) + 1)), (2, vI nc), (0, .ref (kad G 133)), (1, vI b)] (j := 1) dX12_sightsOf_36 rfl (by omega) (by decide) rfl ?_
          refine k_goto hC 4 dX12_sightsOf_39 rfl ?_
          refine k_lvs (ls := [0, 1, 2, 3]) [(3, vI ((k + 1 : Nat) : Int)), (2, vI nc), (0, .ref (kad G 133)), (1, vI b)] (by simp only [lv_pick]; rfl) ?_
          exact ih (k + 1) nc  (by omega) (by omega) (by show _ = cntM g b k + _; first | (rw [if_pos (by omega)]; omega) | (rw [if_neg (by omega)]; omega))
  refine k_lvs (ls := [0, 1, 2, 3]) [(3, vI ((0 : Nat) : Int)), (2, vI 0), (0, .ref (kad G 133)), (1, vI b)] (by simp only [lv_pick]; rfl) ?_
  exact loop 13 0 0  (by omega) (by omega) rfl

set_option maxRecDepth 100000 in
set_option maxHeartbeats 4000000 in
theorem c_X12_body (l : Launch) (hls : l.stackTraces = false) (G : kG) (hN : kN G = 150) (w : Nat → va_E) (fl : va_W) (u g : Nat → Int) (b q : Int) (hb : -2147483648 ≤ b ∧ b ≤ 2147483647) (hq : -2147483648 ≤ q ∧ q ≤ 2147483647) (hI : Inv g) (hm : w 133 = mdO G u) (hn : w 134 = lA G 93 g) (hSc : kScr G w) : KM l G yX12_body cX12_body 3 (some (FieldType.int)) 2 0 0 [.ref (kad G 133), vI b, vI q] w fl (kRt (thR ((0 ≤ b ∧ b < g 0) ∧ (0 ≤ q ∧ q ≤ 3)) (bodyV g b.toNat q) (¬ ((0 ≤ b ∧ b < g 0) ∧ (0 ≤ q ∧ q ≤ 3))) 1 (False) 2) fl (fun th w1 => mSt G w w1 u th)) := by
  refine KM_of2 hls (by decide +kernel) rfl (lv0 := [(0, .ref (kad G 133)), (1, vI b), (2, vI q)]) rfl (Nat.le_of_ble_eq_true rfl) (fun p e R s m args below meth c Q hC hr hQ => ?_)
  obtain ⟨⟨ls, lc, lo, hLs⟩, hx, hy, hHt⟩ := hSc
  have h0 := hI.c
  refine k_aload_n hC dX12_body_0 rfl 0 rfl ?_
  refine k_iconst hC dX12_body_1 ?_
  refine k_put hC fd_X12_74 (kl hN (by decide)) hm [.ref (kad G 134), .ref (kad G 135), .ref (kad G 136), .ref (kad G 137), vI (u 4), vI 0, vI (u 6), .ref (kad G 138), .ref (kad G 139), .ref (kad G 140), .ref (kad G 141), .ref (kad G 142), vL (u 12), vL (u 13), .ref (kad G 143), vI (u 15), .ref (kad G 144), vI (u 17), vI (u 18), vI (u 19), vI (u 20), vI (u 21), vI (u 22), vI (u 23), vI (u 24), vI (u 25), .ref (kad G 145), .ref (kad G 146), .ref (kad G 147), vI (u 29)] rfl (Nat.le_of_ble_eq_true rfl) rfl rfl dX12_body_2 (fun w1 hw1 hf1 => ?_)
  refine k_aload_n hC dX12_body_5 rfl 0 rfl ?_
  refine k_iload_n hC dX12_body_6 rfl 1 rfl ?_
  have h_2 : w1 134 = lA G 93 g := (hf1 134 (by decide)).trans hn
  refine k_pureV hC (c_X12_isBody l hls G hN w1 fl (kup u 5 0) g b (by omega) hI hw1 h_2) yy_X12_isBody wm_X12_253 (kl hN (by decide)) hw1 rfl rfl rfl rfl (Nat.le_of_ble_eq_true rfl) (by decide) (by decide) ⟨by decide, by decide⟩ dX12_body_7 ?_
  obtain ⟨z_3, ez_3, hz_3⟩ := k_bI (0 ≤ b ∧ b ≤ g 0 - 1)
  refine k_topv (vI z_3) (by rw [ez_3]) ?_
  refine k_if_eq hC 25 dX12_body_10 rfl (by omega) (fun c_10 => ?_) (fun c_10 => ?_)
  · refine k_aload_n hC dX12_body_25 rfl 0 rfl ?_
    refine k_iconst hC dX12_body_26 ?_
    refine k_mutV hC (c_X12_raise l hls G hN w1 fl (kup u 5 0) 1 hw1) yy_X12_raise wm_X12_247 (kl hN (by decide)) hw1 rfl rfl rfl rfl (Nat.le_of_ble_eq_true rfl) (by decide) (by decide) ⟨by decide, by decide⟩ dX12_body_27 (fun w4 hp4 => ?_)
    obtain ⟨hu4, hf4⟩ := hp4
    have hB_5 : kLns G w4 ls lc lo := hLs.fr (fun j q1 q2 => (hf4 j (by omega)).trans (hf1 j (by omega)))
    have hB_6 : kHts G w4 hx hy := hHt.fr (fun j q1 q2 => (hf4 j (by omega)).trans (hf1 j (by omega)))
    subst hQ
    exact k_iret hC hr ⟨by decide, by decide⟩ (⟨_, 1, rfl, rfl, Or.inr (Or.inl ⟨by omega, rfl⟩), ⟨⟨u 12, u 13, hu4⟩, ⟨⟨_, _, _, hB_5⟩, _, _, hB_6⟩, fun j hj => (hf4 j (by omega)).trans (hf1 j (by omega))⟩⟩) dX12_body_30
  · refine k_iload_n hC dX12_body_13 rfl 2 rfl ?_
    refine k_i2l hC dX12_body_14 (by omega) ?_
    refine k_lconst (x := 0) hC dX12_body_15 (by decide) ?_
    refine k_ldc2 hC (x := 3) (v := 3) dX12_body_16 (by decide) wk_X12_142 ?_
    refine k_pureS hC (c_X12_inRange l hls G hN w1 fl q 0 3 (by omega) (by omega) (by omega)) yy_X12_inRange wm_X12_243 rfl rfl (Nat.le_of_ble_eq_true rfl) (by decide) (by decide) ⟨by decide, by decide⟩ dX12_body_19 ?_
    refine k_topv (vI (if 0 ≤ q ∧ q ≤ 3 then 1 else 0)) rfl ?_
    obtain ⟨z_7, ez_7, hz_7⟩ := k_bI (0 ≤ q ∧ q ≤ 3)
    refine k_topv (vI z_7) (by rw [ez_7]) ?_
    refine k_if_ne hC 31 dX12_body_22 rfl (by omega) (fun c_22 => ?_) (fun c_22 => ?_)
    · refine k_iload_n hC dX12_body_31 rfl 2 rfl ?_
      refine k_iconst hC dX12_body_32 ?_
      refine k_icmp_ne hC 44 dX12_body_33 rfl (by omega) (by omega) (fun c_33 => ?_) (fun c_33 => ?_)
      · obtain ⟨k, ek⟩ : ∃ zz : Nat, b = (zz : Int) := ⟨b.toNat, by omega⟩
        subst ek
        obtain ⟨p0, ep0⟩ : ∃ zz : Nat, q = (zz : Int) := ⟨q.toNat, by omega⟩
        subst ep0
        refine k_aload_n hC dX12_body_44 rfl 0 rfl ?_
        refine k_iload_n hC dX12_body_45 rfl 1 rfl ?_
        refine k_i2l hC dX12_body_46 (by omega) ?_
        refine k_iload_n hC dX12_body_47 rfl 2 rfl ?_
        refine k_pureV hC (c_X12_ofBody l hls G hN w1 fl (kup u 5 0) g (k : Int) p0 (by omega) (by omega) hw1 h_2) yy_X12_ofBody wm_X12_158 (kl hN (by decide)) hw1 rfl rfl rfl rfl (Nat.le_of_ble_eq_true rfl) (by decide) (by decide) ⟨by decide, by decide⟩ dX12_body_48 ?_
        refine k_topv (vL (g (9 + p0 + 4 * ((k : Int)).toNat))) rfl ?_
        refine k_l2i hC dX12_body_51 ?_
        have hB_8 : kLns G w1 ls lc lo := hLs.fr (fun j q1 q2 => (hf1 j (by omega)))
        have hB_9 : kHts G w1 hx hy := hHt.fr (fun j q1 q2 => (hf1 j (by omega)))
        subst hQ
        exact k_iret hC hr ⟨by decide, by decide⟩ (⟨_, 0, rfl, rfl, Or.inl ⟨by omega, rfl, (show ((g (9 + p0 + 4 * ((k : Int)).toNat) : Int) = bodyV g k (p0 : Int)) from (by unfold bodyV; rcases (show p0 = 0 ∨ p0 = 1 ∨ p0 = 2 by omega) with h | h | h <;> subst h <;> rfl))⟩, ⟨⟨u 12, u 13, hw1⟩, ⟨⟨_, _, _, hB_8⟩, _, _, hB_9⟩, fun j hj => hf1 j (by omega)⟩⟩) dX12_body_52
      · obtain ⟨k, ek⟩ : ∃ zz : Nat, b = (zz : Int) := ⟨b.toNat, by omega⟩
        subst ek
        refine k_aload_n hC dX12_body_36 rfl 0 rfl ?_
        refine k_iload_n hC dX12_body_37 rfl 1 rfl ?_
        refine k_pureV hC (c_X12_sightsOf l hls G hN w1 fl (kup u 5 0) g (k : Int) (by omega) hI hw1 h_2) yy_X12_sightsOf wm_X12_257 (kl hN (by decide)) hw1 rfl rfl rfl rfl (Nat.le_of_ble_eq_true rfl) (by decide) (by decide) ⟨by decide, by decide⟩ dX12_body_38 ?_
        refine k_topv (vI (cntM g (k : Int) (g 2).toNat)) rfl ?_
        refine k_goto hC 52 dX12_body_41 rfl ?_
        have hB_10 : kLns G w1 ls lc lo := hLs.fr (fun j q1 q2 => (hf1 j (by omega)))
        have hB_11 : kHts G w1 hx hy := hHt.fr (fun j q1 q2 => (hf1 j (by omega)))
        subst hQ
        exact k_iret hC hr ⟨by decide, by decide⟩ (⟨_, 0, rfl, rfl, Or.inl ⟨by omega, rfl, (show ((cntM g (k : Int) (g 2).toNat : Int) = bodyV g k q) from (by rw [show q = 3 by omega]; rfl))⟩, ⟨⟨u 12, u 13, hw1⟩, ⟨⟨_, _, _, hB_10⟩, _, _, hB_11⟩, fun j hj => hf1 j (by omega)⟩⟩) dX12_body_52
    · refine k_aload_n hC dX12_body_25 rfl 0 rfl ?_
      refine k_iconst hC dX12_body_26 ?_
      refine k_mutV hC (c_X12_raise l hls G hN w1 fl (kup u 5 0) 1 hw1) yy_X12_raise wm_X12_247 (kl hN (by decide)) hw1 rfl rfl rfl rfl (Nat.le_of_ble_eq_true rfl) (by decide) (by decide) ⟨by decide, by decide⟩ dX12_body_27 (fun w12 hp12 => ?_)
      obtain ⟨hu12, hf12⟩ := hp12
      have hB_13 : kLns G w12 ls lc lo := hLs.fr (fun j q1 q2 => (hf12 j (by omega)).trans (hf1 j (by omega)))
      have hB_14 : kHts G w12 hx hy := hHt.fr (fun j q1 q2 => (hf12 j (by omega)).trans (hf1 j (by omega)))
      subst hQ
      exact k_iret hC hr ⟨by decide, by decide⟩ (⟨_, 1, rfl, rfl, Or.inr (Or.inl ⟨by omega, rfl⟩), ⟨⟨u 12, u 13, hu12⟩, ⟨⟨_, _, _, hB_13⟩, _, _, hB_14⟩, fun j hj => (hf12 j (by omega)).trans (hf1 j (by omega))⟩⟩) dX12_body_30

set_option maxRecDepth 100000 in
set_option maxHeartbeats 4000000 in
theorem c_X12_leg (l : Launch) (hls : l.stackTraces = false) (G : kG) (hN : kN G = 150) (w : Nat → va_E) (fl : va_W) (u g : Nat → Int) (b q : Int) (hb : -2147483648 ≤ b ∧ b ≤ 2147483647) (hq : -2147483648 ≤ q ∧ q ≤ 2147483647) (hI : Inv g) (hm : w 133 = mdO G u) (hn : w 134 = lA G 93 g) (hSc : kScr G w) : KM l G yX12_leg cX12_leg 3 (some (FieldType.int)) 1 0 0 [.ref (kad G 133), vI b, vI q] w fl (kRt (thR ((0 ≤ b ∧ b < g 1) ∧ (0 ≤ q ∧ q ≤ 2)) (legV g b.toNat q) (¬ ((0 ≤ b ∧ b < g 1) ∧ (0 ≤ q ∧ q ≤ 2))) 1 (False) 2) fl (fun th w1 => mSt G w w1 u th)) := by
  refine KM_of2 hls (by decide +kernel) rfl (lv0 := [(0, .ref (kad G 133)), (1, vI b), (2, vI q)]) rfl (Nat.le_of_ble_eq_true rfl) (fun p e R s m args below meth c Q hC hr hQ => ?_)
  obtain ⟨⟨ls, lc, lo, hLs⟩, hx, hy, hHt⟩ := hSc
  have h0 := hI.c
  refine k_aload_n hC dX12_leg_0 rfl 0 rfl ?_
  refine k_iconst hC dX12_leg_1 ?_
  refine k_put hC fd_X12_74 (kl hN (by decide)) hm [.ref (kad G 134), .ref (kad G 135), .ref (kad G 136), .ref (kad G 137), vI (u 4), vI 0, vI (u 6), .ref (kad G 138), .ref (kad G 139), .ref (kad G 140), .ref (kad G 141), .ref (kad G 142), vL (u 12), vL (u 13), .ref (kad G 143), vI (u 15), .ref (kad G 144), vI (u 17), vI (u 18), vI (u 19), vI (u 20), vI (u 21), vI (u 22), vI (u 23), vI (u 24), vI (u 25), .ref (kad G 145), .ref (kad G 146), .ref (kad G 147), vI (u 29)] rfl (Nat.le_of_ble_eq_true rfl) rfl rfl dX12_leg_2 (fun w1 hw1 hf1 => ?_)
  refine k_iload_n hC dX12_leg_5 rfl 1 rfl ?_
  refine k_i2l hC dX12_leg_6 (by omega) ?_
  refine k_lconst (x := 0) hC dX12_leg_7 (by decide) ?_
  refine k_aload_n hC dX12_leg_8 rfl 0 rfl ?_
  refine k_get hC fd_X12_9 (kl hN (by decide)) hw1 rfl dX12_leg_9 ?_
  refine k_iconst hC dX12_leg_12 ?_
  have h_2 : w1 134 = lA G 93 g := (hf1 134 (by decide)).trans hn
  refine k_lald hC (kl hN (by decide)) h_2 (by omega) (by decide) dX12_leg_13 ?_
  refine k_topv (vL (g 1)) rfl ?_
  refine k_lconst (x := 1) hC dX12_leg_14 (by decide) ?_
  refine k_lsub hC dX12_leg_15 ?_
  refine k_pureS hC (c_X12_inRange l hls G hN w1 fl b 0 ((g 1) - 1) (by omega) (by omega) (by omega)) yy_X12_inRange wm_X12_243 rfl rfl (Nat.le_of_ble_eq_true rfl) (by decide) (by decide) ⟨by decide, by decide⟩ dX12_leg_16 ?_
  refine k_topv (vI (if 0 ≤ b ∧ b ≤ (g 1) - 1 then 1 else 0)) rfl ?_
  obtain ⟨z_3, ez_3, hz_3⟩ := k_bI (0 ≤ b ∧ b ≤ (g 1) - 1)
  refine k_topv (vI z_3) (by rw [ez_3]) ?_
  refine k_if_eq hC 44 dX12_leg_19 rfl (by omega) (fun c_19 => ?_) (fun c_19 => ?_)
  · refine k_aload_n hC dX12_leg_44 rfl 0 rfl ?_
    refine k_iconst hC dX12_leg_45 ?_
    refine k_mutV hC (c_X12_raise l hls G hN w1 fl (kup u 5 0) 1 hw1) yy_X12_raise wm_X12_247 (kl hN (by decide)) hw1 rfl rfl rfl rfl (Nat.le_of_ble_eq_true rfl) (by decide) (by decide) ⟨by decide, by decide⟩ dX12_leg_46 (fun w4 hp4 => ?_)
    obtain ⟨hu4, hf4⟩ := hp4
    have hB_5 : kLns G w4 ls lc lo := hLs.fr (fun j q1 q2 => (hf4 j (by omega)).trans (hf1 j (by omega)))
    have hB_6 : kHts G w4 hx hy := hHt.fr (fun j q1 q2 => (hf4 j (by omega)).trans (hf1 j (by omega)))
    subst hQ
    exact k_iret hC hr ⟨by decide, by decide⟩ (⟨_, 1, rfl, rfl, Or.inr (Or.inl ⟨by omega, rfl⟩), ⟨⟨u 12, u 13, hu4⟩, ⟨⟨_, _, _, hB_5⟩, _, _, hB_6⟩, fun j hj => (hf4 j (by omega)).trans (hf1 j (by omega))⟩⟩) dX12_leg_49
  · refine k_iload_n hC dX12_leg_22 rfl 2 rfl ?_
    refine k_i2l hC dX12_leg_23 (by omega) ?_
    refine k_lconst (x := 0) hC dX12_leg_24 (by decide) ?_
    refine k_ldc2 hC (x := 2) (v := 2) dX12_leg_25 (by decide) wk_X12_88 ?_
    refine k_pureS hC (c_X12_inRange l hls G hN w1 fl q 0 2 (by omega) (by omega) (by omega)) yy_X12_inRange wm_X12_243 rfl rfl (Nat.le_of_ble_eq_true rfl) (by decide) (by decide) ⟨by decide, by decide⟩ dX12_leg_28 ?_
    refine k_topv (vI (if 0 ≤ q ∧ q ≤ 2 then 1 else 0)) rfl ?_
    obtain ⟨z_7, ez_7, hz_7⟩ := k_bI (0 ≤ q ∧ q ≤ 2)
    refine k_topv (vI z_7) (by rw [ez_7]) ?_
    refine k_if_eq hC 44 dX12_leg_31 rfl (by omega) (fun c_31 => ?_) (fun c_31 => ?_)
    · refine k_aload_n hC dX12_leg_44 rfl 0 rfl ?_
      refine k_iconst hC dX12_leg_45 ?_
      refine k_mutV hC (c_X12_raise l hls G hN w1 fl (kup u 5 0) 1 hw1) yy_X12_raise wm_X12_247 (kl hN (by decide)) hw1 rfl rfl rfl rfl (Nat.le_of_ble_eq_true rfl) (by decide) (by decide) ⟨by decide, by decide⟩ dX12_leg_46 (fun w8 hp8 => ?_)
      obtain ⟨hu8, hf8⟩ := hp8
      have hB_9 : kLns G w8 ls lc lo := hLs.fr (fun j q1 q2 => (hf8 j (by omega)).trans (hf1 j (by omega)))
      have hB_10 : kHts G w8 hx hy := hHt.fr (fun j q1 q2 => (hf8 j (by omega)).trans (hf1 j (by omega)))
      subst hQ
      exact k_iret hC hr ⟨by decide, by decide⟩ (⟨_, 1, rfl, rfl, Or.inr (Or.inl ⟨by omega, rfl⟩), ⟨⟨u 12, u 13, hu8⟩, ⟨⟨_, _, _, hB_9⟩, _, _, hB_10⟩, fun j hj => (hf8 j (by omega)).trans (hf1 j (by omega))⟩⟩) dX12_leg_49
    · obtain ⟨k, ek⟩ : ∃ zz : Nat, b = (zz : Int) := ⟨b.toNat, by omega⟩
      subst ek
      obtain ⟨p0, ep0⟩ : ∃ zz : Nat, q = (zz : Int) := ⟨q.toNat, by omega⟩
      subst ep0
      refine k_aload_n hC dX12_leg_34 rfl 0 rfl ?_
      refine k_iload_n hC dX12_leg_35 rfl 1 rfl ?_
      refine k_iload_n hC dX12_leg_36 rfl 2 rfl ?_
      refine k_pureV hC (c_X12_ofLeg l hls G hN w1 fl (kup u 5 0) g k p0 (by omega) (by omega) hw1 h_2) yy_X12_ofLeg wm_X12_127 (kl hN (by decide)) hw1 rfl rfl rfl rfl (Nat.le_of_ble_eq_true rfl) (by decide) (by decide) ⟨by decide, by decide⟩ dX12_leg_37 ?_
      refine k_topv (vL (g (33 + p0 + 3 * k))) rfl ?_
      refine k_l2i hC dX12_leg_40 ?_
      refine k_goto hC 49 dX12_leg_41 rfl ?_
      have hB_11 : kLns G w1 ls lc lo := hLs.fr (fun j q1 q2 => (hf1 j (by omega)))
      have hB_12 : kHts G w1 hx hy := hHt.fr (fun j q1 q2 => (hf1 j (by omega)))
      subst hQ
      exact k_iret hC hr ⟨by decide, by decide⟩ (⟨_, 0, rfl, rfl, Or.inl ⟨by omega, rfl, (show ((g (33 + p0 + 3 * k) : Int) = legV g k (p0 : Int)) from (by unfold legV; rcases (show p0 = 0 ∨ p0 = 1 ∨ p0 = 2 by omega) with h | h | h <;> subst h <;> rfl))⟩, ⟨⟨u 12, u 13, hw1⟩, ⟨⟨_, _, _, hB_11⟩, _, _, hB_12⟩, fun j hj => hf1 j (by omega)⟩⟩) dX12_leg_49

set_option maxRecDepth 100000 in
set_option maxHeartbeats 4000000 in
theorem c_X12_displacement (l : Launch) (hls : l.stackTraces = false) (G : kG) (hN : kN G = 150) (w : Nat → va_E) (fl : va_W) (u g : Nat → Int) (T no : Int) (hT : -2147483648 ≤ T ∧ T ≤ 2147483647) (hno : no = 0 ∨ no = 1) (hI : Inv g) (hm : w 133 = mdO G u) (hn : w 134 = lA G 93 g) (hSc : kScr G w) : KM l G yX12_displacement cX12_displacement 3 (some (FieldType.int)) 7 0 0 [.ref (kad G 133), vI T, vI no] w fl (kRt (thR ((0 ≤ T ∧ T ≤ 5000)) (if no = 0 then dispM g T false else dispM g T true) (False) 1 (¬ (0 ≤ T ∧ T ≤ 5000)) 1) fl (fun th w1 => mSt G w w1 u th)) := by
  refine KM_of2 hls (by decide +kernel) rfl (lv0 := [(0, .ref (kad G 133)), (1, vI T), (2, vI no)]) rfl (Nat.le_of_ble_eq_true rfl) (fun p e R s m args below meth c Q hC hr hQ => ?_)
  obtain ⟨⟨ls, lc, lo, hLs⟩, hx, hy, hHt⟩ := hSc
  have h0 := hI.c
  refine k_aload_n hC dX12_displacement_0 rfl 0 rfl ?_
  refine k_iconst hC dX12_displacement_1 ?_
  refine k_put hC fd_X12_74 (kl hN (by decide)) hm [.ref (kad G 134), .ref (kad G 135), .ref (kad G 136), .ref (kad G 137), vI (u 4), vI 0, vI (u 6), .ref (kad G 138), .ref (kad G 139), .ref (kad G 140), .ref (kad G 141), .ref (kad G 142), vL (u 12), vL (u 13), .ref (kad G 143), vI (u 15), .ref (kad G 144), vI (u 17), vI (u 18), vI (u 19), vI (u 20), vI (u 21), vI (u 22), vI (u 23), vI (u 24), vI (u 25), .ref (kad G 145), .ref (kad G 146), .ref (kad G 147), vI (u 29)] rfl (Nat.le_of_ble_eq_true rfl) rfl rfl dX12_displacement_2 (fun w1 hw1 hf1 => ?_)
  refine k_aload_n hC dX12_displacement_5 rfl 0 rfl ?_
  refine k_iload_n hC dX12_displacement_6 rfl 1 rfl ?_
  have h_2 : w1 134 = lA G 93 g := (hf1 134 (by decide)).trans hn
  refine k_pureV hC (c_X12_isTime l hls G hN w1 fl (kup u 5 0) g T (by omega) hI hw1 h_2) yy_X12_isTime wm_X12_262 (kl hN (by decide)) hw1 rfl rfl rfl rfl (Nat.le_of_ble_eq_true rfl) (by decide) (by decide) ⟨by decide, by decide⟩ dX12_displacement_7 ?_
  obtain ⟨z_3, ez_3, hz_3⟩ := k_bI (0 ≤ T ∧ T ≤ 5000)
  refine k_topv (vI z_3) (by rw [ez_3]) ?_
  refine k_if_eq hC 24 dX12_displacement_10 rfl (by omega) (fun c_10 => ?_) (fun c_10 => ?_)
  · refine k_aload_n hC dX12_displacement_24 rfl 0 rfl ?_
    refine k_iconst hC dX12_displacement_25 ?_
    refine k_mutV hC (c_X12_raise l hls G hN w1 fl (kup u 5 0) 1 hw1) yy_X12_raise wm_X12_247 (kl hN (by decide)) hw1 rfl rfl rfl rfl (Nat.le_of_ble_eq_true rfl) (by decide) (by decide) ⟨by decide, by decide⟩ dX12_displacement_26 (fun w4 hp4 => ?_)
    obtain ⟨hu4, hf4⟩ := hp4
    have hB_5 : kLns G w4 ls lc lo := hLs.fr (fun j q1 q2 => (hf4 j (by omega)).trans (hf1 j (by omega)))
    have hB_6 : kHts G w4 hx hy := hHt.fr (fun j q1 q2 => (hf4 j (by omega)).trans (hf1 j (by omega)))
    subst hQ
    exact k_iret hC hr ⟨by decide, by decide⟩ (⟨_, 1, rfl, rfl, Or.inr (Or.inr ⟨by omega, rfl⟩), ⟨⟨u 12, u 13, hu4⟩, ⟨⟨_, _, _, hB_5⟩, _, _, hB_6⟩, fun j hj => (hf4 j (by omega)).trans (hf1 j (by omega))⟩⟩) dX12_displacement_29
  · refine k_aload_n hC dX12_displacement_13 rfl 0 rfl ?_
    refine k_iload_n hC dX12_displacement_14 rfl 1 rfl ?_
    refine k_i2l hC dX12_displacement_15 (by omega) ?_
    refine k_iload_n hC dX12_displacement_16 rfl 2 rfl ?_
    refine k_pureV hC (c_X12_displaced l hls G hN w1 fl (kup u 5 0) g T no hI (by omega) (by omega) hw1 h_2) yy_X12_displaced wm_X12_131 (kl hN (by decide)) hw1 rfl rfl rfl rfl (Nat.le_of_ble_eq_true rfl) (by decide) (by decide) ⟨by decide, by decide⟩ dX12_displacement_17 ?_
    refine k_topv (vL (dispM g T (bN no))) rfl ?_
    have hb_7 := dispM_b hI (t := T) (by omega) (bN no)
    refine k_l2i hC dX12_displacement_20 ?_
    refine k_goto hC 29 dX12_displacement_21 rfl ?_
    have hB_8 : kLns G w1 ls lc lo := hLs.fr (fun j q1 q2 => (hf1 j (by omega)))
    have hB_9 : kHts G w1 hx hy := hHt.fr (fun j q1 q2 => (hf1 j (by omega)))
    subst hQ
    exact k_iret hC hr ⟨by decide, by decide⟩ (⟨_, 0, rfl, rfl, Or.inl ⟨by omega, rfl, (show ((dispM g T (bN no) : Int) = if no = 0 then dispM g T false else dispM g T true) from (by rcases hno with h | h <;> subst h <;> rfl))⟩, ⟨⟨u 12, u 13, hw1⟩, ⟨⟨_, _, _, hB_8⟩, _, _, hB_9⟩, fun j hj => hf1 j (by omega)⟩⟩) dX12_displacement_29

set_option maxRecDepth 100000 in
set_option maxHeartbeats 4000000 in
theorem c_X12_reckoned (l : Launch) (hls : l.stackTraces = false) (G : kG) (hN : kN G = 150) (w : Nat → va_E) (fl : va_W) (u g : Nat → Int) (T no : Int) (hT : -2147483648 ≤ T ∧ T ≤ 2147483647) (hno : no = 0 ∨ no = 1) (hI : Inv g) (hm : w 133 = mdO G u) (hn : w 134 = lA G 93 g) (hSc : kScr G w) : KM l G yX12_reckoned cX12_reckoned 3 (some (FieldType.int)) 8 0 0 [.ref (kad G 133), vI T, vI no] w fl (kRt (thR ((0 ≤ T ∧ T ≤ 5000)) (if no = 0 then latM g T else lonT g T) (False) 1 (¬ (0 ≤ T ∧ T ≤ 5000)) 1) fl (fun th w1 => mSt G w w1 u th)) := by
  refine KM_of2 hls (by decide +kernel) rfl (lv0 := [(0, .ref (kad G 133)), (1, vI T), (2, vI no)]) rfl (Nat.le_of_ble_eq_true rfl) (fun p e R s m args below meth c Q hC hr hQ => ?_)
  obtain ⟨⟨ls, lc, lo, hLs⟩, hx, hy, hHt⟩ := hSc
  have h0 := hI.c
  refine k_aload_n hC dX12_reckoned_0 rfl 0 rfl ?_
  refine k_iconst hC dX12_reckoned_1 ?_
  refine k_put hC fd_X12_74 (kl hN (by decide)) hm [.ref (kad G 134), .ref (kad G 135), .ref (kad G 136), .ref (kad G 137), vI (u 4), vI 0, vI (u 6), .ref (kad G 138), .ref (kad G 139), .ref (kad G 140), .ref (kad G 141), .ref (kad G 142), vL (u 12), vL (u 13), .ref (kad G 143), vI (u 15), .ref (kad G 144), vI (u 17), vI (u 18), vI (u 19), vI (u 20), vI (u 21), vI (u 22), vI (u 23), vI (u 24), vI (u 25), .ref (kad G 145), .ref (kad G 146), .ref (kad G 147), vI (u 29)] rfl (Nat.le_of_ble_eq_true rfl) rfl rfl dX12_reckoned_2 (fun w1 hw1 hf1 => ?_)
  refine k_aload_n hC dX12_reckoned_5 rfl 0 rfl ?_
  refine k_iload_n hC dX12_reckoned_6 rfl 1 rfl ?_
  have h_2 : w1 134 = lA G 93 g := (hf1 134 (by decide)).trans hn
  refine k_pureV hC (c_X12_isTime l hls G hN w1 fl (kup u 5 0) g T (by omega) hI hw1 h_2) yy_X12_isTime wm_X12_262 (kl hN (by decide)) hw1 rfl rfl rfl rfl (Nat.le_of_ble_eq_true rfl) (by decide) (by decide) ⟨by decide, by decide⟩ dX12_reckoned_7 ?_
  obtain ⟨z_3, ez_3, hz_3⟩ := k_bI (0 ≤ T ∧ T ≤ 5000)
  refine k_topv (vI z_3) (by rw [ez_3]) ?_
  refine k_if_ne hC 19 dX12_reckoned_10 rfl (by omega) (fun c_10 => ?_) (fun c_10 => ?_)
  · refine k_iload_n hC dX12_reckoned_19 rfl 2 rfl ?_
    refine k_if_eq hC 32 dX12_reckoned_20 rfl (by omega) (fun c_20 => ?_) (fun c_20 => ?_)
    · refine k_aload_n hC dX12_reckoned_32 rfl 0 rfl ?_
      refine k_iload_n hC dX12_reckoned_33 rfl 1 rfl ?_
      refine k_i2l hC dX12_reckoned_34 (by omega) ?_
      refine k_pureV hC (c_X12_latitudeAt l hls G hN w1 fl (kup u 5 0) g T hI (by omega) hw1 h_2) yy_X12_latitudeAt wm_X12_167 (kl hN (by decide)) hw1 rfl rfl rfl rfl (Nat.le_of_ble_eq_true rfl) (by decide) (by decide) ⟨by decide, by decide⟩ dX12_reckoned_35 ?_
      refine k_topv (vL (latM g T)) rfl ?_
      have hb_4 := latM_b hI (t := T) (by omega)
      refine k_l2i hC dX12_reckoned_38 ?_
      have hB_5 : kLns G w1 ls lc lo := hLs.fr (fun j q1 q2 => (hf1 j (by omega)))
      have hB_6 : kHts G w1 hx hy := hHt.fr (fun j q1 q2 => (hf1 j (by omega)))
      subst hQ
      exact k_iret hC hr ⟨by decide, by decide⟩ (⟨_, 0, rfl, rfl, Or.inl ⟨by omega, rfl, (show ((latM g T : Int) = if no = 0 then latM g T else lonT g T) from (by first | (rw [if_pos (by omega)]; done) | (rw [if_neg (by omega)]; done)))⟩, ⟨⟨u 12, u 13, hw1⟩, ⟨⟨_, _, _, hB_5⟩, _, _, hB_6⟩, fun j hj => hf1 j (by omega)⟩⟩) dX12_reckoned_39
    · refine k_aload_n hC dX12_reckoned_23 rfl 0 rfl ?_
      refine k_iload_n hC dX12_reckoned_24 rfl 1 rfl ?_
      refine k_i2l hC dX12_reckoned_25 (by omega) ?_
      refine k_pureV hC (c_X12_longitudeAt l hls G hN w1 fl (kup u 5 0) g T hI (by omega) hw1 h_2) yy_X12_longitudeAt wm_X12_164 (kl hN (by decide)) hw1 rfl rfl rfl rfl (Nat.le_of_ble_eq_true rfl) (by decide) (by decide) ⟨by decide, by decide⟩ dX12_reckoned_26 ?_
      refine k_topv (vL (lonT g T)) rfl ?_
      have hb_7 := lonT_b g T
      refine k_goto hC 38 dX12_reckoned_29 rfl ?_
      refine k_l2i hC dX12_reckoned_38 ?_
      have hB_8 : kLns G w1 ls lc lo := hLs.fr (fun j q1 q2 => (hf1 j (by omega)))
      have hB_9 : kHts G w1 hx hy := hHt.fr (fun j q1 q2 => (hf1 j (by omega)))
      subst hQ
      exact k_iret hC hr ⟨by decide, by decide⟩ (⟨_, 0, rfl, rfl, Or.inl ⟨by omega, rfl, (show ((lonT g T : Int) = if no = 0 then latM g T else lonT g T) from (by first | (rw [if_pos (by omega)]; done) | (rw [if_neg (by omega)]; done)))⟩, ⟨⟨u 12, u 13, hw1⟩, ⟨⟨_, _, _, hB_8⟩, _, _, hB_9⟩, fun j hj => hf1 j (by omega)⟩⟩) dX12_reckoned_39
  · refine k_aload_n hC dX12_reckoned_13 rfl 0 rfl ?_
    refine k_iconst hC dX12_reckoned_14 ?_
    refine k_mutV hC (c_X12_raise l hls G hN w1 fl (kup u 5 0) 1 hw1) yy_X12_raise wm_X12_247 (kl hN (by decide)) hw1 rfl rfl rfl rfl (Nat.le_of_ble_eq_true rfl) (by decide) (by decide) ⟨by decide, by decide⟩ dX12_reckoned_15 (fun w10 hp10 => ?_)
    obtain ⟨hu10, hf10⟩ := hp10
    have hB_11 : kLns G w10 ls lc lo := hLs.fr (fun j q1 q2 => (hf10 j (by omega)).trans (hf1 j (by omega)))
    have hB_12 : kHts G w10 hx hy := hHt.fr (fun j q1 q2 => (hf10 j (by omega)).trans (hf1 j (by omega)))
    subst hQ
    exact k_iret hC hr ⟨by decide, by decide⟩ (⟨_, 1, rfl, rfl, Or.inr (Or.inr ⟨by omega, rfl⟩), ⟨⟨u 12, u 13, hu10⟩, ⟨⟨_, _, _, hB_11⟩, _, _, hB_12⟩, fun j hj => (hf10 j (by omega)).trans (hf1 j (by omega))⟩⟩) dX12_reckoned_18

set_option maxRecDepth 100000 in
set_option maxHeartbeats 4000000 in
theorem c_X12_sight (l : Launch) (hls : l.stackTraces = false) (G : kG) (hN : kN G = 150) (w : Nat → va_E) (fl : va_W) (u g : Nat → Int) (i q : Int) (hi : -2147483648 ≤ i ∧ i ≤ 2147483647) (hq : -2147483648 ≤ q ∧ q ≤ 2147483647) (hI : Inv g) (hm : w 133 = mdO G u) (hn : w 134 = lA G 93 g) (hSc : kScr G w) : KM l G yX12_sight cX12_sight 3 (some (FieldType.int)) 12 0 0 [.ref (kad G 133), vI i, vI q] w fl (kRt (thR ((0 ≤ i ∧ i < g 2) ∧ (0 ≤ q ∧ q ≤ 8)) (sightV g i.toNat q) (¬ ((0 ≤ i ∧ i < g 2) ∧ (0 ≤ q ∧ q ≤ 8))) 1 (False) 2) fl (fun th w1 => mSt G w w1 u th)) := by
  refine KM_of2 hls (by decide +kernel) rfl (lv0 := [(0, .ref (kad G 133)), (1, vI i), (2, vI q)]) rfl (Nat.le_of_ble_eq_true rfl) (fun p e R s m args below meth c Q hC hr hQ => ?_)
  obtain ⟨⟨ls, lc, lo, hLs⟩, hx, hy, hHt⟩ := hSc
  have h0 := hI.c
  refine k_aload_n hC dX12_sight_0 rfl 0 rfl ?_
  refine k_iconst hC dX12_sight_1 ?_
  refine k_put hC fd_X12_74 (kl hN (by decide)) hm [.ref (kad G 134), .ref (kad G 135), .ref (kad G 136), .ref (kad G 137), vI (u 4), vI 0, vI (u 6), .ref (kad G 138), .ref (kad G 139), .ref (kad G 140), .ref (kad G 141), .ref (kad G 142), vL (u 12), vL (u 13), .ref (kad G 143), vI (u 15), .ref (kad G 144), vI (u 17), vI (u 18), vI (u 19), vI (u 20), vI (u 21), vI (u 22), vI (u 23), vI (u 24), vI (u 25), .ref (kad G 145), .ref (kad G 146), .ref (kad G 147), vI (u 29)] rfl (Nat.le_of_ble_eq_true rfl) rfl rfl dX12_sight_2 (fun w1 hw1 hf1 => ?_)
  refine k_aload_n hC dX12_sight_5 rfl 0 rfl ?_
  refine k_iload_n hC dX12_sight_6 rfl 1 rfl ?_
  have h_2 : w1 134 = lA G 93 g := (hf1 134 (by decide)).trans hn
  refine k_pureV hC (c_X12_isSight l hls G hN w1 fl (kup u 5 0) g i (by omega) hI hw1 h_2) yy_X12_isSight wm_X12_265 (kl hN (by decide)) hw1 rfl rfl rfl rfl (Nat.le_of_ble_eq_true rfl) (by decide) (by decide) ⟨by decide, by decide⟩ dX12_sight_7 ?_
  obtain ⟨z_3, ez_3, hz_3⟩ := k_bI (0 ≤ i ∧ i ≤ g 2 - 1)
  refine k_topv (vI z_3) (by rw [ez_3]) ?_
  refine k_if_eq hC 25 dX12_sight_10 rfl (by omega) (fun c_10 => ?_) (fun c_10 => ?_)
  · refine k_aload_n hC dX12_sight_25 rfl 0 rfl ?_
    refine k_iconst hC dX12_sight_26 ?_
    refine k_mutV hC (c_X12_raise l hls G hN w1 fl (kup u 5 0) 1 hw1) yy_X12_raise wm_X12_247 (kl hN (by decide)) hw1 rfl rfl rfl rfl (Nat.le_of_ble_eq_true rfl) (by decide) (by decide) ⟨by decide, by decide⟩ dX12_sight_27 (fun w4 hp4 => ?_)
    obtain ⟨hu4, hf4⟩ := hp4
    have hB_5 : kLns G w4 ls lc lo := hLs.fr (fun j q1 q2 => (hf4 j (by omega)).trans (hf1 j (by omega)))
    have hB_6 : kHts G w4 hx hy := hHt.fr (fun j q1 q2 => (hf4 j (by omega)).trans (hf1 j (by omega)))
    subst hQ
    exact k_iret hC hr ⟨by decide, by decide⟩ (⟨_, 1, rfl, rfl, Or.inr (Or.inl ⟨by omega, rfl⟩), ⟨⟨u 12, u 13, hu4⟩, ⟨⟨_, _, _, hB_5⟩, _, _, hB_6⟩, fun j hj => (hf4 j (by omega)).trans (hf1 j (by omega))⟩⟩) dX12_sight_30
  · refine k_iload_n hC dX12_sight_13 rfl 2 rfl ?_
    refine k_i2l hC dX12_sight_14 (by omega) ?_
    refine k_lconst (x := 0) hC dX12_sight_15 (by decide) ?_
    refine k_ldc2 hC (x := 8) (v := 8) dX12_sight_16 (by decide) wk_X12_251 ?_
    refine k_pureS hC (c_X12_inRange l hls G hN w1 fl q 0 8 (by omega) (by omega) (by omega)) yy_X12_inRange wm_X12_243 rfl rfl (Nat.le_of_ble_eq_true rfl) (by decide) (by decide) ⟨by decide, by decide⟩ dX12_sight_19 ?_
    refine k_topv (vI (if 0 ≤ q ∧ q ≤ 8 then 1 else 0)) rfl ?_
    obtain ⟨z_7, ez_7, hz_7⟩ := k_bI (0 ≤ q ∧ q ≤ 8)
    refine k_topv (vI z_7) (by rw [ez_7]) ?_
    refine k_if_ne hC 31 dX12_sight_22 rfl (by omega) (fun c_22 => ?_) (fun c_22 => ?_)
    · obtain ⟨k, ek⟩ : ∃ zz : Nat, i = (zz : Int) := ⟨i.toNat, by omega⟩
      subst ek
      refine k_iload_n hC dX12_sight_31 rfl 2 rfl ?_
      by_cases c_32 : q < 3 ∨ 8 < q
      · refine k_tswO hC (x := q) 120 dX12_sight_32 (by rw [k_t32 (by omega)]; exact c_32) rfl ?_
        refine k_aload_n hC dX12_sight_120 rfl 0 rfl ?_
        obtain ⟨p0, ep0⟩ : ∃ zz : Nat, q = (zz : Int) := ⟨q.toNat, by omega⟩
        subst ep0
        refine k_iload_n hC dX12_sight_121 rfl 1 rfl ?_
        refine k_iload_n hC dX12_sight_122 rfl 2 rfl ?_
        refine k_pureV hC (c_X12_ofSight l hls G hN w1 fl (kup u 5 0) g k p0 (by omega) (by omega) hw1 h_2) yy_X12_ofSight wm_X12_147 (kl hN (by decide)) hw1 rfl rfl rfl rfl (Nat.le_of_ble_eq_true rfl) (by decide) (by decide) ⟨by decide, by decide⟩ dX12_sight_123 ?_
        refine k_topv (vL (g (57 + p0 + 3 * k))) rfl ?_
        refine k_l2i hC dX12_sight_126 ?_
        have hB_8 : kLns G w1 ls lc lo := hLs.fr (fun j q1 q2 => (hf1 j (by omega)))
        have hB_9 : kHts G w1 hx hy := hHt.fr (fun j q1 q2 => (hf1 j (by omega)))
        subst hQ
        exact k_iret hC hr ⟨by decide, by decide⟩ (⟨_, 0, rfl, rfl, Or.inl ⟨by omega, rfl, (show ((g (57 + p0 + 3 * k) : Int) = sightV g k (p0 : Int)) from (by unfold sightV; rcases (show p0 = 0 ∨ p0 = 1 ∨ p0 = 2 by omega) with h | h | h <;> subst h <;> rfl))⟩, ⟨⟨u 12, u 13, hw1⟩, ⟨⟨_, _, _, hB_8⟩, _, _, hB_9⟩, fun j hj => hf1 j (by omega)⟩⟩) dX12_sight_127
      · have h_32 : q = 3 ∨ q = 4 ∨ q = 5 ∨ q = 6 ∨ q = 7 ∨ q = 8 := by omega
        rcases h_32 with q_32 | q_32 | q_32 | q_32 | q_32 | q_32
        · refine k_tswI hC (x := q) 72 (off := 40) dX12_sight_32 (by rw [k_t32 (by omega)]; omega) (by rw [k_t32 (by omega)]; omega) (by rw [k_t32 (by omega), q_32]; rfl) rfl ?_
          refine k_aload_n hC dX12_sight_72 rfl 0 rfl ?_
          refine k_iload_n hC dX12_sight_73 rfl 1 rfl ?_
          refine k_pureV hC (c_X12_apparent l hls G hN w1 fl (kup u 5 0) g k hI (by omega) hw1 h_2) yy_X12_apparent wm_X12_154 (kl hN (by decide)) hw1 rfl rfl rfl rfl (Nat.le_of_ble_eq_true rfl) (by decide) (by decide) ⟨by decide, by decide⟩ dX12_sight_74 ?_
          refine k_topv (vL (apM g k)) rfl ?_
          have hb_10 := apM_b hI k (by omega)
          refine k_l2i hC dX12_sight_77 ?_
          have hB_11 : kLns G w1 ls lc lo := hLs.fr (fun j q1 q2 => (hf1 j (by omega)))
          have hB_12 : kHts G w1 hx hy := hHt.fr (fun j q1 q2 => (hf1 j (by omega)))
          subst hQ
          exact k_iret hC hr ⟨by decide, by decide⟩ (⟨_, 0, rfl, rfl, Or.inl ⟨by omega, rfl, (show ((apM g k : Int) = sightV g k q) from (by rw [q_32]; rfl))⟩, ⟨⟨u 12, u 13, hw1⟩, ⟨⟨_, _, _, hB_11⟩, _, _, hB_12⟩, fun j hj => hf1 j (by omega)⟩⟩) dX12_sight_78
        · refine k_tswI hC (x := q) 79 (off := 47) dX12_sight_32 (by rw [k_t32 (by omega)]; omega) (by rw [k_t32 (by omega)]; omega) (by rw [k_t32 (by omega), q_32]; rfl) rfl ?_
          refine k_aload_n hC dX12_sight_79 rfl 0 rfl ?_
          refine k_iload_n hC dX12_sight_80 rfl 1 rfl ?_
          refine k_pureV hC (c_X12_observed l hls G hN w1 fl (kup u 5 0) g k hI (by omega) hw1 h_2) yy_X12_observed wm_X12_181 (kl hN (by decide)) hw1 rfl rfl rfl rfl (Nat.le_of_ble_eq_true rfl) (by decide) (by decide) ⟨by decide, by decide⟩ dX12_sight_81 ?_
          refine k_topv (vL (obsM g k)) rfl ?_
          have hb_13 := obsM_b hI k (by omega)
          refine k_l2i hC dX12_sight_84 ?_
          have hB_14 : kLns G w1 ls lc lo := hLs.fr (fun j q1 q2 => (hf1 j (by omega)))
          have hB_15 : kHts G w1 hx hy := hHt.fr (fun j q1 q2 => (hf1 j (by omega)))
          subst hQ
          exact k_iret hC hr ⟨by decide, by decide⟩ (⟨_, 0, rfl, rfl, Or.inl ⟨by omega, rfl, (show ((obsM g k : Int) = sightV g k q) from (by rw [q_32]; rfl))⟩, ⟨⟨u 12, u 13, hw1⟩, ⟨⟨_, _, _, hB_14⟩, _, _, hB_15⟩, fun j hj => hf1 j (by omega)⟩⟩) dX12_sight_85
        · refine k_tswI hC (x := q) 86 (off := 54) dX12_sight_32 (by rw [k_t32 (by omega)]; omega) (by rw [k_t32 (by omega)]; omega) (by rw [k_t32 (by omega), q_32]; rfl) rfl ?_
          refine k_aload_n hC dX12_sight_86 rfl 0 rfl ?_
          refine k_iload_n hC dX12_sight_87 rfl 1 rfl ?_
          refine k_pureV hC (c_X12_expected l hls G hN w1 fl (kup u 5 0) g k hI (by omega) hw1 h_2) yy_X12_expected wm_X12_179 (kl hN (by decide)) hw1 rfl rfl rfl rfl (Nat.le_of_ble_eq_true rfl) (by decide) (by decide) ⟨by decide, by decide⟩ dX12_sight_88 ?_
          refine k_topv (vL (expM g k)) rfl ?_
          have hb_16 := expM_b g k
          refine k_l2i hC dX12_sight_91 ?_
          have hB_17 : kLns G w1 ls lc lo := hLs.fr (fun j q1 q2 => (hf1 j (by omega)))
          have hB_18 : kHts G w1 hx hy := hHt.fr (fun j q1 q2 => (hf1 j (by omega)))
          subst hQ
          exact k_iret hC hr ⟨by decide, by decide⟩ (⟨_, 0, rfl, rfl, Or.inl ⟨by omega, rfl, (show ((expM g k : Int) = sightV g k q) from (by rw [q_32]; rfl))⟩, ⟨⟨u 12, u 13, hw1⟩, ⟨⟨_, _, _, hB_17⟩, _, _, hB_18⟩, fun j hj => hf1 j (by omega)⟩⟩) dX12_sight_92
        · refine k_tswI hC (x := q) 93 (off := 61) dX12_sight_32 (by rw [k_t32 (by omega)]; omega) (by rw [k_t32 (by omega)]; omega) (by rw [k_t32 (by omega), q_32]; rfl) rfl ?_
          refine k_aload_n hC dX12_sight_93 rfl 0 rfl ?_
          refine k_iload_n hC dX12_sight_94 rfl 1 rfl ?_
          refine k_pureV hC (c_X12_azimuth l hls G hN w1 fl (kup u 5 0) g k hI (by omega) hw1 h_2) yy_X12_azimuth wm_X12_184 (kl hN (by decide)) hw1 rfl rfl rfl rfl (Nat.le_of_ble_eq_true rfl) (by decide) (by decide) ⟨by decide, by decide⟩ dX12_sight_95 ?_
          refine k_topv (vL (aziM g k)) rfl ?_
          have hb_19 := aziM_b g k
          refine k_l2i hC dX12_sight_98 ?_
          have hB_20 : kLns G w1 ls lc lo := hLs.fr (fun j q1 q2 => (hf1 j (by omega)))
          have hB_21 : kHts G w1 hx hy := hHt.fr (fun j q1 q2 => (hf1 j (by omega)))
          subst hQ
          exact k_iret hC hr ⟨by decide, by decide⟩ (⟨_, 0, rfl, rfl, Or.inl ⟨by omega, rfl, (show ((aziM g k : Int) = sightV g k q) from (by rw [q_32]; rfl))⟩, ⟨⟨u 12, u 13, hw1⟩, ⟨⟨_, _, _, hB_20⟩, _, _, hB_21⟩, fun j hj => hf1 j (by omega)⟩⟩) dX12_sight_99
        · refine k_tswI hC (x := q) 100 (off := 68) dX12_sight_32 (by rw [k_t32 (by omega)]; omega) (by rw [k_t32 (by omega)]; omega) (by rw [k_t32 (by omega), q_32]; rfl) rfl ?_
          refine k_aload_n hC dX12_sight_100 rfl 0 rfl ?_
          refine k_iload_n hC dX12_sight_101 rfl 1 rfl ?_
          refine k_pureV hC (c_X12_intercept l hls G hN w1 fl (kup u 5 0) g k hI (by omega) hw1 h_2) yy_X12_intercept wm_X12_190 (kl hN (by decide)) hw1 rfl rfl rfl rfl (Nat.le_of_ble_eq_true rfl) (by decide) (by decide) ⟨by decide, by decide⟩ dX12_sight_102 ?_
          refine k_topv (vL (intM g k)) rfl ?_
          have hb_22 := intM_b hI k (by omega)
          refine k_l2i hC dX12_sight_105 ?_
          have hB_23 : kLns G w1 ls lc lo := hLs.fr (fun j q1 q2 => (hf1 j (by omega)))
          have hB_24 : kHts G w1 hx hy := hHt.fr (fun j q1 q2 => (hf1 j (by omega)))
          subst hQ
          exact k_iret hC hr ⟨by decide, by decide⟩ (⟨_, 0, rfl, rfl, Or.inl ⟨by omega, rfl, (show ((intM g k : Int) = sightV g k q) from (by rw [q_32]; rfl))⟩, ⟨⟨u 12, u 13, hw1⟩, ⟨⟨_, _, _, hB_23⟩, _, _, hB_24⟩, fun j hj => hf1 j (by omega)⟩⟩) dX12_sight_106
        · refine k_tswI hC (x := q) 107 (off := 75) dX12_sight_32 (by rw [k_t32 (by omega)]; omega) (by rw [k_t32 (by omega)]; omega) (by rw [k_t32 (by omega), q_32]; rfl) rfl ?_
          refine k_aload_n hC dX12_sight_107 rfl 0 rfl ?_
          refine k_iload_n hC dX12_sight_108 rfl 1 rfl ?_
          have hB_25 : kLns G w1 ls lc lo := hLs.fr (fun j q1 q2 => (hf1 j (by omega)))
          refine k_muvV hC (c_X12_layLine l hls G hN w1 fl (kup u 5 0) g ls lc lo k hI (by omega) hw1 h_2 hB_25) yy_X12_layLine wm_X12_193 (kl hN (by decide)) hw1 rfl rfl rfl rfl (Nat.le_of_ble_eq_true rfl) (by decide) (by decide) ⟨by decide, by decide⟩ dX12_sight_109 (fun w26 hp26 => ?_)
          obtain ⟨hl26, hf26⟩ := hp26
          refine k_aload_n hC dX12_sight_112 rfl 0 rfl ?_
          have h_27 : w26 133 = .inr (12, [.ref (kad G 134), .ref (kad G 135), .ref (kad G 136), .ref (kad G 137), vI (u 4), vI 0, vI (u 6), .ref (kad G 138), .ref (kad G 139), .ref (kad G 140), .ref (kad G 141), .ref (kad G 142), vL (u 12), vL (u 13), .ref (kad G 143), vI (u 15), .ref (kad G 144), vI (u 17), vI (u 18), vI (u 19), vI (u 20), vI (u 21), vI (u 22), vI (u 23), vI (u 24), vI (u 25), .ref (kad G 145), .ref (kad G 146), .ref (kad G 147), vI (u 29)]) := (hf26 133 (by omega)).trans hw1
          refine k_get hC fd_X12_28 (kl hN (by decide)) h_27 rfl dX12_sight_113 ?_
          refine k_iload_n hC dX12_sight_116 rfl 1 rfl ?_
          refine k_lald hC (kl hN (by decide)) hl26.2.2 (by omega) (by decide) dX12_sight_117 ?_
          refine k_topv (vL ((kup lo k (offM g k)) k)) rfl ?_
          refine k_topv (vL (offM g k)) (congrArg vL (by exact kup_s)) ?_
          refine k_l2i hC dX12_sight_118 ?_
          have hB_28 : kHts G w26 hx hy := hHt.fr (fun j q1 q2 => (hf26 j (by omega)).trans (hf1 j (by omega)))
          subst hQ
          exact k_iret hC hr ⟨by decide, by decide⟩ (⟨_, 0, rfl, rfl, Or.inl ⟨by omega, rfl, (show ((offM g k : Int) = sightV g k q) from (by rw [q_32]; rfl))⟩, ⟨⟨u 12, u 13, h_27⟩, ⟨⟨_, _, _, hl26⟩, _, _, hB_28⟩, fun j hj => (hf26 j (by omega)).trans (hf1 j (by omega))⟩⟩) dX12_sight_119
    · refine k_aload_n hC dX12_sight_25 rfl 0 rfl ?_
      refine k_iconst hC dX12_sight_26 ?_
      refine k_mutV hC (c_X12_raise l hls G hN w1 fl (kup u 5 0) 1 hw1) yy_X12_raise wm_X12_247 (kl hN (by decide)) hw1 rfl rfl rfl rfl (Nat.le_of_ble_eq_true rfl) (by decide) (by decide) ⟨by decide, by decide⟩ dX12_sight_27 (fun w29 hp29 => ?_)
      obtain ⟨hu29, hf29⟩ := hp29
      have hB_30 : kLns G w29 ls lc lo := hLs.fr (fun j q1 q2 => (hf29 j (by omega)).trans (hf1 j (by omega)))
      have hB_31 : kHts G w29 hx hy := hHt.fr (fun j q1 q2 => (hf29 j (by omega)).trans (hf1 j (by omega)))
      subst hQ
      exact k_iret hC hr ⟨by decide, by decide⟩ (⟨_, 1, rfl, rfl, Or.inr (Or.inl ⟨by omega, rfl⟩), ⟨⟨u 12, u 13, hu29⟩, ⟨⟨_, _, _, hB_30⟩, _, _, hB_31⟩, fun j hj => (hf29 j (by omega)).trans (hf1 j (by omega))⟩⟩) dX12_sight_30

set_option maxRecDepth 100000 in
set_option maxHeartbeats 4000000 in
theorem c_X12_carried (l : Launch) (hls : l.stackTraces = false) (G : kG) (hN : kN G = 150) (w : Nat → va_E) (fl : va_W) (u g : Nat → Int) (i T : Int) (hi : -2147483648 ≤ i ∧ i ≤ 2147483647) (hT : -2147483648 ≤ T ∧ T ≤ 2147483647) (hI : Inv g) (hm : w 133 = mdO G u) (hn : w 134 = lA G 93 g) (hSc : kScr G w) : KM l G yX12_carried cX12_carried 3 (some (FieldType.int)) 13 0 0 [.ref (kad G 133), vI i, vI T] w fl (kRt (thR ((0 ≤ i ∧ i < g 2) ∧ (0 ≤ T ∧ T ≤ 5000)) (carM g i.toNat T) (¬ (0 ≤ i ∧ i < g 2)) 1 ((0 ≤ i ∧ i < g 2) ∧ ¬ (0 ≤ T ∧ T ≤ 5000)) 2) fl (fun th w1 => mSt G w w1 u th)) := by
  refine KM_of2 hls (by decide +kernel) rfl (lv0 := [(0, .ref (kad G 133)), (1, vI i), (2, vI T)]) rfl (Nat.le_of_ble_eq_true rfl) (fun p e R s m args below meth c Q hC hr hQ => ?_)
  obtain ⟨⟨ls, lc, lo, hLs⟩, hx, hy, hHt⟩ := hSc
  have h0 := hI.c
  refine k_aload_n hC dX12_carried_0 rfl 0 rfl ?_
  refine k_aload_n hC dX12_carried_1 rfl 0 rfl ?_
  refine k_iload_n hC dX12_carried_2 rfl 1 rfl ?_
  refine k_pureV hC (c_X12_isSight l hls G hN w fl u g i (by omega) hI hm hn) yy_X12_isSight wm_X12_265 (kl hN (by decide)) hm rfl rfl rfl rfl (Nat.le_of_ble_eq_true rfl) (by decide) (by decide) ⟨by decide, by decide⟩ dX12_carried_3 ?_
  obtain ⟨z_1, ez_1, hz_1⟩ := k_bI (0 ≤ i ∧ i ≤ g 2 - 1)
  refine k_topv (vI z_1) (by rw [ez_1]) ?_
  refine k_if_ne hC 13 dX12_carried_6 rfl (by omega) (fun c_6 => ?_) (fun c_6 => ?_)
  · refine k_aload_n hC dX12_carried_13 rfl 0 rfl ?_
    refine k_iload_n hC dX12_carried_14 rfl 2 rfl ?_
    refine k_pureV hC (c_X12_isTime l hls G hN w fl u g T (by omega) hI hm hn) yy_X12_isTime wm_X12_262 (kl hN (by decide)) hm rfl rfl rfl rfl (Nat.le_of_ble_eq_true rfl) (by decide) (by decide) ⟨by decide, by decide⟩ dX12_carried_15 ?_
    obtain ⟨z_2, ez_2, hz_2⟩ := k_bI (0 ≤ T ∧ T ≤ 5000)
    refine k_topv (vI z_2) (by rw [ez_2]) ?_
    refine k_if_eq hC 25 dX12_carried_18 rfl (by omega) (fun c_18 => ?_) (fun c_18 => ?_)
    · refine k_iconst hC dX12_carried_25 ?_
      refine k_put hC fd_X12_74 (kl hN (by decide)) hm [.ref (kad G 134), .ref (kad G 135), .ref (kad G 136), .ref (kad G 137), vI (u 4), vI 2, vI (u 6), .ref (kad G 138), .ref (kad G 139), .ref (kad G 140), .ref (kad G 141), .ref (kad G 142), vL (u 12), vL (u 13), .ref (kad G 143), vI (u 15), .ref (kad G 144), vI (u 17), vI (u 18), vI (u 19), vI (u 20), vI (u 21), vI (u 22), vI (u 23), vI (u 24), vI (u 25), .ref (kad G 145), .ref (kad G 146), .ref (kad G 147), vI (u 29)] rfl (Nat.le_of_ble_eq_true rfl) rfl rfl dX12_carried_26 (fun w3 hw3 hf3 => ?_)
      refine k_aload_n hC dX12_carried_29 rfl 0 rfl ?_
      refine k_get hC fd_X12_74 (kl hN (by decide)) hw3 rfl dX12_carried_30 ?_
      refine k_if_eq hC 38 dX12_carried_33 rfl (by omega) (fun c_33 => absurd c_33 (by omega)) (fun c_33 => ?_)
      refine k_iconst hC dX12_carried_36 ?_
      have hB_4 : kLns G w3 ls lc lo := hLs.fr (fun j q1 q2 => (hf3 j (by omega)))
      have hB_5 : kHts G w3 hx hy := hHt.fr (fun j q1 q2 => (hf3 j (by omega)))
      subst hQ
      exact k_iret hC hr ⟨by decide, by decide⟩ (⟨_, 2, rfl, rfl, Or.inr (Or.inr ⟨by omega, rfl⟩), ⟨⟨u 12, u 13, hw3⟩, ⟨⟨_, _, _, hB_4⟩, _, _, hB_5⟩, fun j hj => hf3 j (by omega)⟩⟩) dX12_carried_37
    · refine k_iconst hC dX12_carried_21 ?_
      refine k_goto hC 26 dX12_carried_22 rfl ?_
      refine k_put hC fd_X12_74 (kl hN (by decide)) hm [.ref (kad G 134), .ref (kad G 135), .ref (kad G 136), .ref (kad G 137), vI (u 4), vI 0, vI (u 6), .ref (kad G 138), .ref (kad G 139), .ref (kad G 140), .ref (kad G 141), .ref (kad G 142), vL (u 12), vL (u 13), .ref (kad G 143), vI (u 15), .ref (kad G 144), vI (u 17), vI (u 18), vI (u 19), vI (u 20), vI (u 21), vI (u 22), vI (u 23), vI (u 24), vI (u 25), .ref (kad G 145), .ref (kad G 146), .ref (kad G 147), vI (u 29)] rfl (Nat.le_of_ble_eq_true rfl) rfl rfl dX12_carried_26 (fun w6 hw6 hf6 => ?_)
      obtain ⟨k, ek⟩ : ∃ zz : Nat, i = (zz : Int) := ⟨i.toNat, by omega⟩
      subst ek
      refine k_aload_n hC dX12_carried_29 rfl 0 rfl ?_
      refine k_get hC fd_X12_74 (kl hN (by decide)) hw6 rfl dX12_carried_30 ?_
      refine k_if_eq hC 38 dX12_carried_33 rfl (by omega) (fun c_33 => ?_) (fun c_33 => absurd c_33 (by omega))
      refine k_aload_n hC dX12_carried_38 rfl 0 rfl ?_
      refine k_iload_n hC dX12_carried_39 rfl 1 rfl ?_
      refine k_iload_n hC dX12_carried_40 rfl 2 rfl ?_
      refine k_i2l hC dX12_carried_41 (by omega) ?_
      have h_7 : w6 134 = lA G 93 g := (hf6 134 (by decide)).trans hn
      have hB_8 : kLns G w6 ls lc lo := hLs.fr (fun j q1 q2 => (hf6 j (by omega)))
      refine k_muvV hC (c_X12_carry l hls G hN w6 fl (kup u 5 0) g ls lc lo k T hI (by omega) (by omega) hw6 h_7 hB_8) yy_X12_carry wm_X12_197 (kl hN (by decide)) hw6 rfl rfl rfl rfl (Nat.le_of_ble_eq_true rfl) (by decide) (by decide) ⟨by decide, by decide⟩ dX12_carried_42 (fun w9 hp9 => ?_)
      obtain ⟨⟨ls9, lc9, lo9, hl9, hat9, hat_9⟩, hf9⟩ := hp9
      refine k_aload_n hC dX12_carried_45 rfl 0 rfl ?_
      have h_10 : w9 133 = .inr (12, [.ref (kad G 134), .ref (kad G 135), .ref (kad G 136), .ref (kad G 137), vI (u 4), vI 0, vI (u 6), .ref (kad G 138), .ref (kad G 139), .ref (kad G 140), .ref (kad G 141), .ref (kad G 142), vL (u 12), vL (u 13), .ref (kad G 143), vI (u 15), .ref (kad G 144), vI (u 17), vI (u 18), vI (u 19), vI (u 20), vI (u 21), vI (u 22), vI (u 23), vI (u 24), vI (u 25), .ref (kad G 145), .ref (kad G 146), .ref (kad G 147), vI (u 29)]) := (hf9 133 (by omega)).trans hw6
      refine k_get hC fd_X12_28 (kl hN (by decide)) h_10 rfl dX12_carried_46 ?_
      refine k_iload_n hC dX12_carried_49 rfl 1 rfl ?_
      refine k_lald hC (kl hN (by decide)) hl9.2.2 (by omega) (by decide) dX12_carried_50 ?_
      refine k_topv (vL (lo9 k)) rfl ?_
      refine k_topv (vL (carM g k T)) (congrArg vL (by exact hat9.2.2)) ?_
      refine k_l2i hC dX12_carried_51 ?_
      have hB_11 : kHts G w9 hx hy := hHt.fr (fun j q1 q2 => (hf9 j (by omega)).trans (hf6 j (by omega)))
      subst hQ
      exact k_iret hC hr ⟨by decide, by decide⟩ (⟨_, 0, rfl, rfl, Or.inl ⟨by omega, rfl, (show ((carM g k T : Int) = carM g k T) from rfl)⟩, ⟨⟨u 12, u 13, h_10⟩, ⟨⟨_, _, _, hl9⟩, _, _, hB_11⟩, fun j hj => (hf9 j (by omega)).trans (hf6 j (by omega))⟩⟩) dX12_carried_52
  · refine k_iconst hC dX12_carried_9 ?_
    refine k_goto hC 26 dX12_carried_10 rfl ?_
    refine k_put hC fd_X12_74 (kl hN (by decide)) hm [.ref (kad G 134), .ref (kad G 135), .ref (kad G 136), .ref (kad G 137), vI (u 4), vI 1, vI (u 6), .ref (kad G 138), .ref (kad G 139), .ref (kad G 140), .ref (kad G 141), .ref (kad G 142), vL (u 12), vL (u 13), .ref (kad G 143), vI (u 15), .ref (kad G 144), vI (u 17), vI (u 18), vI (u 19), vI (u 20), vI (u 21), vI (u 22), vI (u 23), vI (u 24), vI (u 25), .ref (kad G 145), .ref (kad G 146), .ref (kad G 147), vI (u 29)] rfl (Nat.le_of_ble_eq_true rfl) rfl rfl dX12_carried_26 (fun w12 hw12 hf12 => ?_)
    refine k_aload_n hC dX12_carried_29 rfl 0 rfl ?_
    refine k_get hC fd_X12_74 (kl hN (by decide)) hw12 rfl dX12_carried_30 ?_
    refine k_if_eq hC 38 dX12_carried_33 rfl (by omega) (fun c_33 => absurd c_33 (by omega)) (fun c_33 => ?_)
    refine k_iconst hC dX12_carried_36 ?_
    have hB_13 : kLns G w12 ls lc lo := hLs.fr (fun j q1 q2 => (hf12 j (by omega)))
    have hB_14 : kHts G w12 hx hy := hHt.fr (fun j q1 q2 => (hf12 j (by omega)))
    subst hQ
    exact k_iret hC hr ⟨by decide, by decide⟩ (⟨_, 1, rfl, rfl, Or.inr (Or.inl ⟨by omega, rfl⟩), ⟨⟨u 12, u 13, hw12⟩, ⟨⟨_, _, _, hB_13⟩, _, _, hB_14⟩, fun j hj => hf12 j (by omega)⟩⟩) dX12_carried_37

set_option maxRecDepth 100000 in
set_option maxHeartbeats 4000000 in
theorem c_X12_crossing (l : Launch) (hls : l.stackTraces = false) (G : kG) (hN : kN G = 150) (w : Nat → va_E) (fl : va_W) (u g : Nat → Int) (i j T no : Int) (hi : -2147483648 ≤ i ∧ i ≤ 2147483647) (hj : -2147483648 ≤ j ∧ j ≤ 2147483647) (hT : -2147483648 ≤ T ∧ T ≤ 2147483647) (hno : no = 0 ∨ no = 1) (hI : Inv g) (hm : w 133 = mdO G u) (hn : w 134 = lA G 93 g) (hSc : kScr G w) : KM l G yX12_crossing cX12_crossing 5 (some (FieldType.int)) 13 0 0 [.ref (kad G 133), vI i, vI j, vI T, vI no] w fl (kRt (thR (((0 ≤ i ∧ i < g 2) ∧ (0 ≤ j ∧ j < g 2)) ∧ (0 ≤ T ∧ T ≤ 5000)) (crsV g i.toNat j.toNat T no) (¬ ((0 ≤ i ∧ i < g 2) ∧ (0 ≤ j ∧ j < g 2))) 1 (((0 ≤ i ∧ i < g 2) ∧ (0 ≤ j ∧ j < g 2)) ∧ ¬ (0 ≤ T ∧ T ≤ 5000)) 2) fl (fun th w1 => mSt G w w1 u th)) := by
  refine KM_of2 hls (by decide +kernel) rfl (lv0 := [(0, .ref (kad G 133)), (1, vI i), (2, vI j), (3, vI T), (4, vI no)]) rfl (Nat.le_of_ble_eq_true rfl) (fun p e R s m args below meth c Q hC hr hQ => ?_)
  obtain ⟨⟨ls, lc, lo, hLs⟩, hx, hy, hHt⟩ := hSc
  have h0 := hI.c
  refine k_aload_n hC dX12_crossing_0 rfl 0 rfl ?_
  refine k_aload_n hC dX12_crossing_1 rfl 0 rfl ?_
  refine k_iload_n hC dX12_crossing_2 rfl 1 rfl ?_
  refine k_pureV hC (c_X12_isSight l hls G hN w fl u g i (by omega) hI hm hn) yy_X12_isSight wm_X12_265 (kl hN (by decide)) hm rfl rfl rfl rfl (Nat.le_of_ble_eq_true rfl) (by decide) (by decide) ⟨by decide, by decide⟩ dX12_crossing_3 ?_
  obtain ⟨z_1, ez_1, hz_1⟩ := k_bI (0 ≤ i ∧ i ≤ g 2 - 1)
  refine k_topv (vI z_1) (by rw [ez_1]) ?_
  refine k_if_eq hC 17 dX12_crossing_6 rfl (by omega) (fun c_6 => ?_) (fun c_6 => ?_)
  · refine k_iconst hC dX12_crossing_17 ?_
    refine k_goto hC 34 dX12_crossing_18 rfl ?_
    refine k_put hC fd_X12_74 (kl hN (by decide)) hm [.ref (kad G 134), .ref (kad G 135), .ref (kad G 136), .ref (kad G 137), vI (u 4), vI 1, vI (u 6), .ref (kad G 138), .ref (kad G 139), .ref (kad G 140), .ref (kad G 141), .ref (kad G 142), vL (u 12), vL (u 13), .ref (kad G 143), vI (u 15), .ref (kad G 144), vI (u 17), vI (u 18), vI (u 19), vI (u 20), vI (u 21), vI (u 22), vI (u 23), vI (u 24), vI (u 25), .ref (kad G 145), .ref (kad G 146), .ref (kad G 147), vI (u 29)] rfl (Nat.le_of_ble_eq_true rfl) rfl rfl dX12_crossing_34 (fun w2 hw2 hf2 => ?_)
    refine k_aload_n hC dX12_crossing_37 rfl 0 rfl ?_
    refine k_get hC fd_X12_74 (kl hN (by decide)) hw2 rfl dX12_crossing_38 ?_
    refine k_if_eq hC 46 dX12_crossing_41 rfl (by omega) (fun c_41 => absurd c_41 (by omega)) (fun c_41 => ?_)
    refine k_iconst hC dX12_crossing_44 ?_
    have hB_3 : kLns G w2 ls lc lo := hLs.fr (fun j q1 q2 => (hf2 j (by omega)))
    have hB_4 : kHts G w2 hx hy := hHt.fr (fun j q1 q2 => (hf2 j (by omega)))
    subst hQ
    exact k_iret hC hr ⟨by decide, by decide⟩ (⟨_, 1, rfl, rfl, Or.inr (Or.inl ⟨by omega, rfl⟩), ⟨⟨u 12, u 13, hw2⟩, ⟨⟨_, _, _, hB_3⟩, _, _, hB_4⟩, fun j hj => hf2 j (by omega)⟩⟩) dX12_crossing_45
  · refine k_aload_n hC dX12_crossing_9 rfl 0 rfl ?_
    refine k_iload_n hC dX12_crossing_10 rfl 2 rfl ?_
    refine k_pureV hC (c_X12_isSight l hls G hN w fl u g j (by omega) hI hm hn) yy_X12_isSight wm_X12_265 (kl hN (by decide)) hm rfl rfl rfl rfl (Nat.le_of_ble_eq_true rfl) (by decide) (by decide) ⟨by decide, by decide⟩ dX12_crossing_11 ?_
    obtain ⟨z_5, ez_5, hz_5⟩ := k_bI (0 ≤ j ∧ j ≤ g 2 - 1)
    refine k_topv (vI z_5) (by rw [ez_5]) ?_
    refine k_if_ne hC 21 dX12_crossing_14 rfl (by omega) (fun c_14 => ?_) (fun c_14 => ?_)
    · refine k_aload_n hC dX12_crossing_21 rfl 0 rfl ?_
      refine k_iload_n hC dX12_crossing_22 rfl 3 rfl ?_
      refine k_pureV hC (c_X12_isTime l hls G hN w fl u g T (by omega) hI hm hn) yy_X12_isTime wm_X12_262 (kl hN (by decide)) hm rfl rfl rfl rfl (Nat.le_of_ble_eq_true rfl) (by decide) (by decide) ⟨by decide, by decide⟩ dX12_crossing_23 ?_
      obtain ⟨z_6, ez_6, hz_6⟩ := k_bI (0 ≤ T ∧ T ≤ 5000)
      refine k_topv (vI z_6) (by rw [ez_6]) ?_
      refine k_if_eq hC 33 dX12_crossing_26 rfl (by omega) (fun c_26 => ?_) (fun c_26 => ?_)
      · refine k_iconst hC dX12_crossing_33 ?_
        refine k_put hC fd_X12_74 (kl hN (by decide)) hm [.ref (kad G 134), .ref (kad G 135), .ref (kad G 136), .ref (kad G 137), vI (u 4), vI 2, vI (u 6), .ref (kad G 138), .ref (kad G 139), .ref (kad G 140), .ref (kad G 141), .ref (kad G 142), vL (u 12), vL (u 13), .ref (kad G 143), vI (u 15), .ref (kad G 144), vI (u 17), vI (u 18), vI (u 19), vI (u 20), vI (u 21), vI (u 22), vI (u 23), vI (u 24), vI (u 25), .ref (kad G 145), .ref (kad G 146), .ref (kad G 147), vI (u 29)] rfl (Nat.le_of_ble_eq_true rfl) rfl rfl dX12_crossing_34 (fun w7 hw7 hf7 => ?_)
        refine k_aload_n hC dX12_crossing_37 rfl 0 rfl ?_
        refine k_get hC fd_X12_74 (kl hN (by decide)) hw7 rfl dX12_crossing_38 ?_
        refine k_if_eq hC 46 dX12_crossing_41 rfl (by omega) (fun c_41 => absurd c_41 (by omega)) (fun c_41 => ?_)
        refine k_iconst hC dX12_crossing_44 ?_
        have hB_8 : kLns G w7 ls lc lo := hLs.fr (fun j q1 q2 => (hf7 j (by omega)))
        have hB_9 : kHts G w7 hx hy := hHt.fr (fun j q1 q2 => (hf7 j (by omega)))
        subst hQ
        exact k_iret hC hr ⟨by decide, by decide⟩ (⟨_, 2, rfl, rfl, Or.inr (Or.inr ⟨by omega, rfl⟩), ⟨⟨u 12, u 13, hw7⟩, ⟨⟨_, _, _, hB_8⟩, _, _, hB_9⟩, fun j hj => hf7 j (by omega)⟩⟩) dX12_crossing_45
      · refine k_iconst hC dX12_crossing_29 ?_
        refine k_goto hC 34 dX12_crossing_30 rfl ?_
        refine k_put hC fd_X12_74 (kl hN (by decide)) hm [.ref (kad G 134), .ref (kad G 135), .ref (kad G 136), .ref (kad G 137), vI (u 4), vI 0, vI (u 6), .ref (kad G 138), .ref (kad G 139), .ref (kad G 140), .ref (kad G 141), .ref (kad G 142), vL (u 12), vL (u 13), .ref (kad G 143), vI (u 15), .ref (kad G 144), vI (u 17), vI (u 18), vI (u 19), vI (u 20), vI (u 21), vI (u 22), vI (u 23), vI (u 24), vI (u 25), .ref (kad G 145), .ref (kad G 146), .ref (kad G 147), vI (u 29)] rfl (Nat.le_of_ble_eq_true rfl) rfl rfl dX12_crossing_34 (fun w10 hw10 hf10 => ?_)
        obtain ⟨k, ek⟩ : ∃ zz : Nat, i = (zz : Int) := ⟨i.toNat, by omega⟩
        subst ek
        obtain ⟨n, en⟩ : ∃ zz : Nat, j = (zz : Int) := ⟨j.toNat, by omega⟩
        subst en
        have ht : 0 ≤ T ∧ T ≤ 5000 := by omega
        refine k_aload_n hC dX12_crossing_37 rfl 0 rfl ?_
        refine k_get hC fd_X12_74 (kl hN (by decide)) hw10 rfl dX12_crossing_38 ?_
        refine k_if_eq hC 46 dX12_crossing_41 rfl (by omega) (fun c_41 => ?_) (fun c_41 => absurd c_41 (by omega))
        refine k_aload_n hC dX12_crossing_46 rfl 0 rfl ?_
        refine k_iload_n hC dX12_crossing_47 rfl 1 rfl ?_
        refine k_iload_n hC dX12_crossing_48 rfl 3 rfl ?_
        refine k_i2l hC dX12_crossing_49 (by omega) ?_
        have h_11 : w10 134 = lA G 93 g := (hf10 134 (by decide)).trans hn
        have hB_12 : kLns G w10 ls lc lo := hLs.fr (fun j q1 q2 => (hf10 j (by omega)))
        refine k_muvV hC (c_X12_carry l hls G hN w10 fl (kup u 5 0) g ls lc lo k T hI (by omega) (by omega) hw10 h_11 hB_12) yy_X12_carry wm_X12_197 (kl hN (by decide)) hw10 rfl rfl rfl rfl (Nat.le_of_ble_eq_true rfl) (by decide) (by decide) ⟨by decide, by decide⟩ dX12_crossing_50 (fun w13 hp13 => ?_)
        obtain ⟨⟨ls13, lc13, lo13, hl13, hat13, hat_13⟩, hf13⟩ := hp13
        refine k_aload_n hC dX12_crossing_53 rfl 0 rfl ?_
        refine k_iload_n hC dX12_crossing_54 rfl 2 rfl ?_
        refine k_iload_n hC dX12_crossing_55 rfl 3 rfl ?_
        refine k_i2l hC dX12_crossing_56 (by omega) ?_
        have h_14 : w13 133 = .inr (12, [.ref (kad G 134), .ref (kad G 135), .ref (kad G 136), .ref (kad G 137), vI (u 4), vI 0, vI (u 6), .ref (kad G 138), .ref (kad G 139), .ref (kad G 140), .ref (kad G 141), .ref (kad G 142), vL (u 12), vL (u 13), .ref (kad G 143), vI (u 15), .ref (kad G 144), vI (u 17), vI (u 18), vI (u 19), vI (u 20), vI (u 21), vI (u 22), vI (u 23), vI (u 24), vI (u 25), .ref (kad G 145), .ref (kad G 146), .ref (kad G 147), vI (u 29)]) := (hf13 133 (by omega)).trans hw10
        have h_15 : w13 134 = lA G 93 g := (hf13 134 (by omega)).trans h_11
        refine k_muvV hC (c_X12_carry l hls G hN w13 fl (kup u 5 0) g ls13 lc13 lo13 n T hI (by omega) (by omega) h_14 h_15 hl13) yy_X12_carry wm_X12_197 (kl hN (by decide)) h_14 rfl rfl rfl rfl (Nat.le_of_ble_eq_true rfl) (by decide) (by decide) ⟨by decide, by decide⟩ dX12_crossing_57 (fun w16 hp16 => ?_)
        obtain ⟨⟨ls16, lc16, lo16, hl16, hat16, hat_16⟩, hf16⟩ := hp16
        refine k_aload_n hC dX12_crossing_60 rfl 0 rfl ?_
        refine k_iload_n hC dX12_crossing_61 rfl 1 rfl ?_
        refine k_iload_n hC dX12_crossing_62 rfl 2 rfl ?_
        have h_17 : w16 133 = .inr (12, [.ref (kad G 134), .ref (kad G 135), .ref (kad G 136), .ref (kad G 137), vI (u 4), vI 0, vI (u 6), .ref (kad G 138), .ref (kad G 139), .ref (kad G 140), .ref (kad G 141), .ref (kad G 142), vL (u 12), vL (u 13), .ref (kad G 143), vI (u 15), .ref (kad G 144), vI (u 17), vI (u 18), vI (u 19), vI (u 20), vI (u 21), vI (u 22), vI (u 23), vI (u 24), vI (u 25), .ref (kad G 145), .ref (kad G 146), .ref (kad G 147), vI (u 29)]) := (hf16 133 (by omega)).trans h_14
        have h_18 : w16 134 = lA G 93 g := (hf16 134 (by omega)).trans h_15
        refine k_pureV hC (c_X12_crossWell l hls G hN w16 fl (kup u 5 0) g ls16 lc16 lo16 k n T (by omega) (by omega) (hat_16 k hat13) hat16 hI h_17 h_18 hl16) yy_X12_crossWell wm_X12_214 (kl hN (by decide)) h_17 rfl rfl rfl rfl (Nat.le_of_ble_eq_true rfl) (by decide) (by decide) ⟨by decide, by decide⟩ dX12_crossing_63 ?_
        refine k_topv (vI (if crOK (crDet (sinM (aziM g k)) (cosM (aziM g k)) (sinM (aziM g n)) (cosM (aziM g n))) then 1 else 0)) rfl ?_
        obtain ⟨z_19, ez_19, hz_19⟩ := k_bI (crOK (crDet (sinM (aziM g k)) (cosM (aziM g k)) (sinM (aziM g n)) (cosM (aziM g n))))
        refine k_topv (vI z_19) (by rw [ez_19]) ?_
        refine k_if_eq hC 81 dX12_crossing_66 rfl (by omega) (fun c_66 => ?_) (fun c_66 => ?_)
        · have nok : ¬ crOK (crDet (sinM (aziM g k)) (cosM (aziM g k)) (sinM (aziM g n)) (cosM (aziM g n))) := (hz_19.resolve_left (fun q1 => by omega)).2
          refine k_ldcw hC (x := (-1000000000)) (v := (-1000000000)) dX12_crossing_81 (by decide) wk_X12_268 ?_
          have hB_20 : kHts G w16 hx hy := hHt.fr (fun j q1 q2 => (hf16 j (by omega)).trans ((hf13 j (by omega)).trans (hf10 j (by omega))))
          subst hQ
          exact k_iret hC hr ⟨by decide, by decide⟩ (⟨_, 0, rfl, rfl, Or.inl ⟨by omega, rfl, (show ((-1000000000 : Int) = crsV g k n T no) from (by unfold crsV; rw [if_neg nok]))⟩, ⟨⟨u 12, u 13, h_17⟩, ⟨⟨_, _, _, hl16⟩, _, _, hB_20⟩, fun j hj => (hf16 j (by omega)).trans ((hf13 j (by omega)).trans (hf10 j (by omega)))⟩⟩) dX12_crossing_84
        · have hok : crOK (crDet (sinM (aziM g k)) (cosM (aziM g k)) (sinM (aziM g n)) (cosM (aziM g n))) := (hz_19.resolve_right (fun q1 => by omega)).2
          refine k_aload_n hC dX12_crossing_69 rfl 0 rfl ?_
          refine k_iload_n hC dX12_crossing_70 rfl 1 rfl ?_
          refine k_iload_n hC dX12_crossing_71 rfl 2 rfl ?_
          refine k_iload hC dX12_crossing_72 4 rfl ?_
          refine k_pureV hC (c_X12_crossingOf l hls G hN w16 fl (kup u 5 0) g ls16 lc16 lo16 k n T no (by omega) (by omega) (hat_16 k hat13) hat16 hI hok ht (by omega) h_17 h_18 hl16) yy_X12_crossingOf wm_X12_218 (kl hN (by decide)) h_17 rfl rfl rfl rfl (Nat.le_of_ble_eq_true rfl) (by decide) (by decide) ⟨by decide, by decide⟩ dX12_crossing_74 ?_
          refine k_topv (vL (if no = 0 then cE g k n T else cN g k n T)) rfl ?_
          refine k_l2i hC dX12_crossing_77 ?_
          refine k_goto hC 84 dX12_crossing_78 rfl ?_
          have hB_21 : kHts G w16 hx hy := hHt.fr (fun j q1 q2 => (hf16 j (by omega)).trans ((hf13 j (by omega)).trans (hf10 j (by omega))))
          subst hQ
          exact k_iret hC hr ⟨by decide, by decide⟩ (⟨_, 0, rfl, rfl, Or.inl ⟨by omega, rfl, (show ((if no = 0 then cE g k n T else cN g k n T : Int) = crsV g k n T no) from (by unfold crsV; rw [if_pos hok]))⟩, ⟨⟨u 12, u 13, h_17⟩, ⟨⟨_, _, _, hl16⟩, _, _, hB_21⟩, fun j hj => (hf16 j (by omega)).trans ((hf13 j (by omega)).trans (hf10 j (by omega)))⟩⟩) dX12_crossing_84
    · refine k_iconst hC dX12_crossing_17 ?_
      refine k_goto hC 34 dX12_crossing_18 rfl ?_
      refine k_put hC fd_X12_74 (kl hN (by decide)) hm [.ref (kad G 134), .ref (kad G 135), .ref (kad G 136), .ref (kad G 137), vI (u 4), vI 1, vI (u 6), .ref (kad G 138), .ref (kad G 139), .ref (kad G 140), .ref (kad G 141), .ref (kad G 142), vL (u 12), vL (u 13), .ref (kad G 143), vI (u 15), .ref (kad G 144), vI (u 17), vI (u 18), vI (u 19), vI (u 20), vI (u 21), vI (u 22), vI (u 23), vI (u 24), vI (u 25), .ref (kad G 145), .ref (kad G 146), .ref (kad G 147), vI (u 29)] rfl (Nat.le_of_ble_eq_true rfl) rfl rfl dX12_crossing_34 (fun w22 hw22 hf22 => ?_)
      refine k_aload_n hC dX12_crossing_37 rfl 0 rfl ?_
      refine k_get hC fd_X12_74 (kl hN (by decide)) hw22 rfl dX12_crossing_38 ?_
      refine k_if_eq hC 46 dX12_crossing_41 rfl (by omega) (fun c_41 => absurd c_41 (by omega)) (fun c_41 => ?_)
      refine k_iconst hC dX12_crossing_44 ?_
      have hB_23 : kLns G w22 ls lc lo := hLs.fr (fun j q1 q2 => (hf22 j (by omega)))
      have hB_24 : kHts G w22 hx hy := hHt.fr (fun j q1 q2 => (hf22 j (by omega)))
      subst hQ
      exact k_iret hC hr ⟨by decide, by decide⟩ (⟨_, 1, rfl, rfl, Or.inr (Or.inl ⟨by omega, rfl⟩), ⟨⟨u 12, u 13, hw22⟩, ⟨⟨_, _, _, hB_23⟩, _, _, hB_24⟩, fun j hj => hf22 j (by omega)⟩⟩) dX12_crossing_45

set_option maxRecDepth 100000 in
set_option maxHeartbeats 4000000 in
theorem c_X12_carryHat (l : Launch) (hls : l.stackTraces = false) (G : kG) (hN : kN G = 150) (w : Nat → va_E) (fl : va_W) (u g : Nat → Int) (i j k : Nat) (T : Int) (hi : (i : Int) < g 2) (hj : (j : Int) < g 2) (hk : (k : Int) < g 2) (ht : 0 ≤ T ∧ T ≤ 5000) (hI : Inv g) (hm : w 133 = mdO G u) (hn : w 134 = lA G 93 g) (hSc : kScr G w) : KM l G yX12_carryHat cX12_carryHat 5 (some (FieldType.boolean)) 13 0 0 [.ref (kad G 133), vI (i : Int), vI (j : Int), vI (k : Int), vI T] w fl (kMut (vI (selI (hatP g i j k) 1 0)) fl (fun w1 => (∃ ls lc lo : Nat → Int, kLns G w1 ls lc lo) ∧ (∃ hx1 hy1 : Nat → Int, kHts G w1 hx1 hy1 ∧ (hatP g i j k → hx1 = htX g i j k T ∧ hy1 = htY g i j k T)) ∧ ∀ j, (j < 138 ∨ 142 < j) → w1 j = w j)) := by
  refine KM_of2 hls (by decide +kernel) rfl (lv0 := [(0, .ref (kad G 133)), (1, vI (i : Int)), (2, vI (j : Int)), (3, vI (k : Int)), (4, vI T)]) rfl (Nat.le_of_ble_eq_true rfl) (fun p e R s m args below meth c Q hC hr hQ => ?_)
  obtain ⟨⟨ls, lc, lo, hLs⟩, hx, hy, hHt⟩ := hSc
  have h0 := hI.c
  refine k_aload_n hC dX12_carryHat_0 rfl 0 rfl ?_
  refine k_iload_n hC dX12_carryHat_1 rfl 1 rfl ?_
  refine k_iload hC dX12_carryHat_2 4 rfl ?_
  refine k_i2l hC dX12_carryHat_4 (by omega) ?_
  refine k_muvV hC (c_X12_carry l hls G hN w fl u g ls lc lo i T hI (by omega) (by omega) hm hn hLs) yy_X12_carry wm_X12_197 (kl hN (by decide)) hm rfl rfl rfl rfl (Nat.le_of_ble_eq_true rfl) (by decide) (by decide) ⟨by decide, by decide⟩ dX12_carryHat_5 (fun w1 hp1 => ?_)
  obtain ⟨⟨ls1, lc1, lo1, hl1, hat1, hat_1⟩, hf1⟩ := hp1
  refine k_aload_n hC dX12_carryHat_8 rfl 0 rfl ?_
  refine k_iload_n hC dX12_carryHat_9 rfl 2 rfl ?_
  refine k_iload hC dX12_carryHat_10 4 rfl ?_
  refine k_i2l hC dX12_carryHat_12 (by omega) ?_
  have h_2 : w1 133 = .inr (12, [.ref (kad G 134), .ref (kad G 135), .ref (kad G 136), .ref (kad G 137), vI (u 4), vI (u 5), vI (u 6), .ref (kad G 138), .ref (kad G 139), .ref (kad G 140), .ref (kad G 141), .ref (kad G 142), vL (u 12), vL (u 13), .ref (kad G 143), vI (u 15), .ref (kad G 144), vI (u 17), vI (u 18), vI (u 19), vI (u 20), vI (u 21), vI (u 22), vI (u 23), vI (u 24), vI (u 25), .ref (kad G 145), .ref (kad G 146), .ref (kad G 147), vI (u 29)]) := (hf1 133 (by omega)).trans hm
  have h_3 : w1 134 = lA G 93 g := (hf1 134 (by omega)).trans hn
  refine k_muvV hC (c_X12_carry l hls G hN w1 fl u g ls1 lc1 lo1 j T hI (by omega) (by omega) h_2 h_3 hl1) yy_X12_carry wm_X12_197 (kl hN (by decide)) h_2 rfl rfl rfl rfl (Nat.le_of_ble_eq_true rfl) (by decide) (by decide) ⟨by decide, by decide⟩ dX12_carryHat_13 (fun w4 hp4 => ?_)
  obtain ⟨⟨ls4, lc4, lo4, hl4, hat4, hat_4⟩, hf4⟩ := hp4
  refine k_aload_n hC dX12_carryHat_16 rfl 0 rfl ?_
  refine k_iload_n hC dX12_carryHat_17 rfl 3 rfl ?_
  refine k_iload hC dX12_carryHat_18 4 rfl ?_
  refine k_i2l hC dX12_carryHat_20 (by omega) ?_
  have h_5 : w4 133 = .inr (12, [.ref (kad G 134), .ref (kad G 135), .ref (kad G 136), .ref (kad G 137), vI (u 4), vI (u 5), vI (u 6), .ref (kad G 138), .ref (kad G 139), .ref (kad G 140), .ref (kad G 141), .ref (kad G 142), vL (u 12), vL (u 13), .ref (kad G 143), vI (u 15), .ref (kad G 144), vI (u 17), vI (u 18), vI (u 19), vI (u 20), vI (u 21), vI (u 22), vI (u 23), vI (u 24), vI (u 25), .ref (kad G 145), .ref (kad G 146), .ref (kad G 147), vI (u 29)]) := (hf4 133 (by omega)).trans h_2
  have h_6 : w4 134 = lA G 93 g := (hf4 134 (by omega)).trans h_3
  refine k_muvV hC (c_X12_carry l hls G hN w4 fl u g ls4 lc4 lo4 k T hI (by omega) (by omega) h_5 h_6 hl4) yy_X12_carry wm_X12_197 (kl hN (by decide)) h_5 rfl rfl rfl rfl (Nat.le_of_ble_eq_true rfl) (by decide) (by decide) ⟨by decide, by decide⟩ dX12_carryHat_21 (fun w7 hp7 => ?_)
  obtain ⟨⟨ls7, lc7, lo7, hl7, hat7, hat_7⟩, hf7⟩ := hp7
  refine k_aload_n hC dX12_carryHat_24 rfl 0 rfl ?_
  refine k_iload_n hC dX12_carryHat_25 rfl 1 rfl ?_
  refine k_iload_n hC dX12_carryHat_26 rfl 2 rfl ?_
  refine k_iload_n hC dX12_carryHat_27 rfl 3 rfl ?_
  have h_8 : w7 133 = .inr (12, [.ref (kad G 134), .ref (kad G 135), .ref (kad G 136), .ref (kad G 137), vI (u 4), vI (u 5), vI (u 6), .ref (kad G 138), .ref (kad G 139), .ref (kad G 140), .ref (kad G 141), .ref (kad G 142), vL (u 12), vL (u 13), .ref (kad G 143), vI (u 15), .ref (kad G 144), vI (u 17), vI (u 18), vI (u 19), vI (u 20), vI (u 21), vI (u 22), vI (u 23), vI (u 24), vI (u 25), .ref (kad G 145), .ref (kad G 146), .ref (kad G 147), vI (u 29)]) := (hf7 133 (by omega)).trans h_5
  have h_9 : w7 134 = lA G 93 g := (hf7 134 (by omega)).trans h_6
  have hB_10 : kHts G w7 hx hy := hHt.fr (fun j q1 q2 => (hf7 j (by omega)).trans ((hf4 j (by omega)).trans (hf1 j (by omega))))
  refine k_mutV hC (c_X12_layHat l hls G hN w7 fl u g ls7 lc7 lo7 hx hy i j k T (by omega) (by omega) (by omega) (hat_7 i (hat_4 i hat1)) (hat_7 j hat4) hat7 ht hI h_8 h_9 hl7 hB_10) yy_X12_layHat wm_X12_269 (kl hN (by decide)) h_8 rfl rfl rfl rfl (Nat.le_of_ble_eq_true rfl) (by decide) (by decide) ⟨by decide, by decide⟩ dX12_carryHat_28 (fun w11 hp11 => ?_)
  obtain ⟨⟨hx11, hy11, hh11, hxy11⟩, hf11⟩ := hp11
  obtain ⟨z11, ez11, hz11⟩ := selI_c (hatP g i j k)
  refine k_topv (vI z11) (by rw [ez11]) ?_
  have hB_12 : kLns G w11 ls7 lc7 lo7 := hl7.fr (fun j q1 q2 => (hf11 j (by omega)))
  subst hQ
  exact k_zret hC (by omega) hr ⟨by decide, by decide⟩ (⟨congrArg (fun z => some (vI z)) (show selI (hatP g i j k) 1 0 = z11 from ez11), rfl, ⟨_, _, _, hB_12⟩, ⟨_, _, hh11, hxy11⟩, fun j hj => (hf11 j (by omega)).trans ((hf7 j (by omega)).trans ((hf4 j (by omega)).trans (hf1 j (by omega))))⟩) dX12_carryHat_31

set_option maxRecDepth 100000 in
set_option maxHeartbeats 4000000 in
theorem c_X12_hat (l : Launch) (hls : l.stackTraces = false) (G : kG) (hN : kN G = 150) (w : Nat → va_E) (fl : va_W) (u g : Nat → Int) (i j k T q : Int) (hi : -2147483648 ≤ i ∧ i ≤ 2147483647) (hj : -2147483648 ≤ j ∧ j ≤ 2147483647) (hk : -2147483648 ≤ k ∧ k ≤ 2147483647) (hT : -2147483648 ≤ T ∧ T ≤ 2147483647) (hq : -2147483648 ≤ q ∧ q ≤ 2147483647) (hI : Inv g) (hm : w 133 = mdO G u) (hn : w 134 = lA G 93 g) (hSc : kScr G w) : KM l G yX12_hat cX12_hat 7 (some (FieldType.int)) 14 0 0 [.ref (kad G 133), vI i, vI j, vI k, vI T, vI q] w fl (kRt (thR ((((0 ≤ i ∧ i < g 2) ∧ (0 ≤ j ∧ j < g 2) ∧ (0 ≤ k ∧ k < g 2)) ∧ (0 ≤ T ∧ T ≤ 5000)) ∧ (0 ≤ q ∧ q ≤ 2)) (hatV g i.toNat j.toNat k.toNat T q) (¬ ((0 ≤ i ∧ i < g 2) ∧ (0 ≤ j ∧ j < g 2) ∧ (0 ≤ k ∧ k < g 2))) 1 (((0 ≤ i ∧ i < g 2) ∧ (0 ≤ j ∧ j < g 2) ∧ (0 ≤ k ∧ k < g 2)) ∧ ¬ ((0 ≤ T ∧ T ≤ 5000) ∧ (0 ≤ q ∧ q ≤ 2))) 2) fl (fun th w1 => mSt G w w1 u th)) := by
  refine KM_of2 hls (by decide +kernel) rfl (lv0 := [(0, .ref (kad G 133)), (1, vI i), (2, vI j), (3, vI k), (4, vI T), (5, vI q)]) rfl (Nat.le_of_ble_eq_true rfl) (fun p e R s m args below meth c Q hC hr hQ => ?_)
  obtain ⟨⟨ls, lc, lo, hLs⟩, hx, hy, hHt⟩ := hSc
  have h0 := hI.c
  refine k_aload_n hC dX12_hat_0 rfl 0 rfl ?_
  refine k_aload_n hC dX12_hat_1 rfl 0 rfl ?_
  refine k_iload_n hC dX12_hat_2 rfl 1 rfl ?_
  refine k_iload_n hC dX12_hat_3 rfl 2 rfl ?_
  refine k_iload_n hC dX12_hat_4 rfl 3 rfl ?_
  refine k_pureV hC (c_X12_areSights l hls G hN w fl u g i j k (by omega) (by omega) (by omega) hI hm hn) yy_X12_areSights wm_X12_273 (kl hN (by decide)) hm rfl rfl rfl rfl (Nat.le_of_ble_eq_true rfl) (by decide) (by decide) ⟨by decide, by decide⟩ dX12_hat_5 ?_
  obtain ⟨z_1, ez_1, hz_1⟩ := k_bI ((0 ≤ i ∧ i < g 2) ∧ (0 ≤ j ∧ j < g 2) ∧ (0 ≤ k ∧ k < g 2))
  refine k_topv (vI z_1) (by rw [ez_1]) ?_
  refine k_if_ne hC 15 dX12_hat_8 rfl (by omega) (fun c_8 => ?_) (fun c_8 => ?_)
  · refine k_aload_n hC dX12_hat_15 rfl 0 rfl ?_
    refine k_iload hC dX12_hat_16 4 rfl ?_
    refine k_pureV hC (c_X12_isTime l hls G hN w fl u g T (by omega) hI hm hn) yy_X12_isTime wm_X12_262 (kl hN (by decide)) hm rfl rfl rfl rfl (Nat.le_of_ble_eq_true rfl) (by decide) (by decide) ⟨by decide, by decide⟩ dX12_hat_18 ?_
    obtain ⟨z_2, ez_2, hz_2⟩ := k_bI (0 ≤ T ∧ T ≤ 5000)
    refine k_topv (vI z_2) (by rw [ez_2]) ?_
    refine k_if_eq hC 41 dX12_hat_21 rfl (by omega) (fun c_21 => ?_) (fun c_21 => ?_)
    · refine k_iconst hC dX12_hat_41 ?_
      refine k_put hC fd_X12_74 (kl hN (by decide)) hm [.ref (kad G 134), .ref (kad G 135), .ref (kad G 136), .ref (kad G 137), vI (u 4), vI 2, vI (u 6), .ref (kad G 138), .ref (kad G 139), .ref (kad G 140), .ref (kad G 141), .ref (kad G 142), vL (u 12), vL (u 13), .ref (kad G 143), vI (u 15), .ref (kad G 144), vI (u 17), vI (u 18), vI (u 19), vI (u 20), vI (u 21), vI (u 22), vI (u 23), vI (u 24), vI (u 25), .ref (kad G 145), .ref (kad G 146), .ref (kad G 147), vI (u 29)] rfl (Nat.le_of_ble_eq_true rfl) rfl rfl dX12_hat_42 (fun w3 hw3 hf3 => ?_)
      refine k_aload_n hC dX12_hat_45 rfl 0 rfl ?_
      refine k_get hC fd_X12_74 (kl hN (by decide)) hw3 rfl dX12_hat_46 ?_
      refine k_if_eq hC 54 dX12_hat_49 rfl (by omega) (fun c_49 => absurd c_49 (by omega)) (fun c_49 => ?_)
      refine k_iconst hC dX12_hat_52 ?_
      have hB_4 : kLns G w3 ls lc lo := hLs.fr (fun j q1 q2 => (hf3 j (by omega)))
      have hB_5 : kHts G w3 hx hy := hHt.fr (fun j q1 q2 => (hf3 j (by omega)))
      subst hQ
      exact k_iret hC hr ⟨by decide, by decide⟩ (⟨_, 2, rfl, rfl, Or.inr (Or.inr ⟨by omega, rfl⟩), ⟨⟨u 12, u 13, hw3⟩, ⟨⟨_, _, _, hB_4⟩, _, _, hB_5⟩, fun j hj => hf3 j (by omega)⟩⟩) dX12_hat_53
    · refine k_iload hC dX12_hat_24 5 rfl ?_
      refine k_i2l hC dX12_hat_26 (by omega) ?_
      refine k_lconst (x := 0) hC dX12_hat_27 (by decide) ?_
      refine k_ldc2 hC (x := 2) (v := 2) dX12_hat_28 (by decide) wk_X12_88 ?_
      refine k_pureS hC (c_X12_inRange l hls G hN w fl q 0 2 (by omega) (by omega) (by omega)) yy_X12_inRange wm_X12_243 rfl rfl (Nat.le_of_ble_eq_true rfl) (by decide) (by decide) ⟨by decide, by decide⟩ dX12_hat_31 ?_
      refine k_topv (vI (if 0 ≤ q ∧ q ≤ 2 then 1 else 0)) rfl ?_
      obtain ⟨z_6, ez_6, hz_6⟩ := k_bI (0 ≤ q ∧ q ≤ 2)
      refine k_topv (vI z_6) (by rw [ez_6]) ?_
      refine k_if_eq hC 41 dX12_hat_34 rfl (by omega) (fun c_34 => ?_) (fun c_34 => ?_)
      · refine k_iconst hC dX12_hat_41 ?_
        refine k_put hC fd_X12_74 (kl hN (by decide)) hm [.ref (kad G 134), .ref (kad G 135), .ref (kad G 136), .ref (kad G 137), vI (u 4), vI 2, vI (u 6), .ref (kad G 138), .ref (kad G 139), .ref (kad G 140), .ref (kad G 141), .ref (kad G 142), vL (u 12), vL (u 13), .ref (kad G 143), vI (u 15), .ref (kad G 144), vI (u 17), vI (u 18), vI (u 19), vI (u 20), vI (u 21), vI (u 22), vI (u 23), vI (u 24), vI (u 25), .ref (kad G 145), .ref (kad G 146), .ref (kad G 147), vI (u 29)] rfl (Nat.le_of_ble_eq_true rfl) rfl rfl dX12_hat_42 (fun w7 hw7 hf7 => ?_)
        refine k_aload_n hC dX12_hat_45 rfl 0 rfl ?_
        refine k_get hC fd_X12_74 (kl hN (by decide)) hw7 rfl dX12_hat_46 ?_
        refine k_if_eq hC 54 dX12_hat_49 rfl (by omega) (fun c_49 => absurd c_49 (by omega)) (fun c_49 => ?_)
        refine k_iconst hC dX12_hat_52 ?_
        have hB_8 : kLns G w7 ls lc lo := hLs.fr (fun j q1 q2 => (hf7 j (by omega)))
        have hB_9 : kHts G w7 hx hy := hHt.fr (fun j q1 q2 => (hf7 j (by omega)))
        subst hQ
        exact k_iret hC hr ⟨by decide, by decide⟩ (⟨_, 2, rfl, rfl, Or.inr (Or.inr ⟨by omega, rfl⟩), ⟨⟨u 12, u 13, hw7⟩, ⟨⟨_, _, _, hB_8⟩, _, _, hB_9⟩, fun j hj => hf7 j (by omega)⟩⟩) dX12_hat_53
      · refine k_iconst hC dX12_hat_37 ?_
        refine k_goto hC 42 dX12_hat_38 rfl ?_
        refine k_put hC fd_X12_74 (kl hN (by decide)) hm [.ref (kad G 134), .ref (kad G 135), .ref (kad G 136), .ref (kad G 137), vI (u 4), vI 0, vI (u 6), .ref (kad G 138), .ref (kad G 139), .ref (kad G 140), .ref (kad G 141), .ref (kad G 142), vL (u 12), vL (u 13), .ref (kad G 143), vI (u 15), .ref (kad G 144), vI (u 17), vI (u 18), vI (u 19), vI (u 20), vI (u 21), vI (u 22), vI (u 23), vI (u 24), vI (u 25), .ref (kad G 145), .ref (kad G 146), .ref (kad G 147), vI (u 29)] rfl (Nat.le_of_ble_eq_true rfl) rfl rfl dX12_hat_42 (fun w10 hw10 hf10 => ?_)
        obtain ⟨a, ea⟩ : ∃ zz : Nat, i = (zz : Int) := ⟨i.toNat, by omega⟩
        subst ea
        obtain ⟨b, eb⟩ : ∃ zz : Nat, j = (zz : Int) := ⟨j.toNat, by omega⟩
        subst eb
        obtain ⟨d, ed⟩ : ∃ zz : Nat, k = (zz : Int) := ⟨k.toNat, by omega⟩
        subst ed
        refine k_aload_n hC dX12_hat_45 rfl 0 rfl ?_
        refine k_get hC fd_X12_74 (kl hN (by decide)) hw10 rfl dX12_hat_46 ?_
        refine k_if_eq hC 54 dX12_hat_49 rfl (by omega) (fun c_49 => ?_) (fun c_49 => absurd c_49 (by omega))
        refine k_aload_n hC dX12_hat_54 rfl 0 rfl ?_
        refine k_iload_n hC dX12_hat_55 rfl 1 rfl ?_
        refine k_iload_n hC dX12_hat_56 rfl 2 rfl ?_
        refine k_iload_n hC dX12_hat_57 rfl 3 rfl ?_
        refine k_iload hC dX12_hat_58 4 rfl ?_
        have h_11 : w10 134 = lA G 93 g := (hf10 134 (by decide)).trans hn
        have hB_12 : kLns G w10 ls lc lo := hLs.fr (fun j q1 q2 => (hf10 j (by omega)))
        have hB_13 : kHts G w10 hx hy := hHt.fr (fun j q1 q2 => (hf10 j (by omega)))
        refine k_mutV hC (c_X12_carryHat l hls G hN w10 fl (kup u 5 0) g a b d T (by omega) (by omega) (by omega) (by omega) hI hw10 h_11 ⟨⟨_, _, _, hB_12⟩, _, _, hB_13⟩) yy_X12_carryHat wm_X12_276 (kl hN (by decide)) hw10 rfl rfl rfl rfl (Nat.le_of_ble_eq_true rfl) (by decide) (by decide) ⟨by decide, by decide⟩ dX12_hat_60 (fun w14 hp14 => ?_)
        obtain ⟨⟨ls14, lc14, lo14, hl14⟩, ⟨hx14, hy14, hh14, hxy14⟩, hf14⟩ := hp14
        obtain ⟨z14, ez14, hz14⟩ := selI_c (hatP g a b d)
        refine k_topv (vI z14) (by rw [ez14]) ?_
        refine k_if_ne hC 70 dX12_hat_63 rfl (by omega) (fun c_63 => ?_) (fun c_63 => ?_)
        · have hok : hatP g a b d := (hz14.resolve_right (fun q1 => by omega)).2
          have hhx_15 : kHts G w14 (htX g a b d T) (htY g a b d T) := by have q := hh14; rw [(hxy14 hok).1, (hxy14 hok).2] at q; exact q
          have hcE_16 := cE_b g a b T
          have hcN_17 := cN_b g a b T
          have hcE_18 := cE_b g a d T
          have hcN_19 := cN_b g a d T
          have hcE_20 := cE_b g b d T
          have hcN_21 := cN_b g b d T
          refine k_iload hC dX12_hat_70 5 rfl ?_
          refine k_iconst hC dX12_hat_72 ?_
          refine k_icmp_ne hC 83 dX12_hat_73 rfl (by omega) (by omega) (fun c_73 => ?_) (fun c_73 => ?_)
          · refine k_aload_n hC dX12_hat_83 rfl 0 rfl ?_
            have h_22 : w14 133 = .inr (12, [.ref (kad G 134), .ref (kad G 135), .ref (kad G 136), .ref (kad G 137), vI (u 4), vI 0, vI (u 6), .ref (kad G 138), .ref (kad G 139), .ref (kad G 140), .ref (kad G 141), .ref (kad G 142), vL (u 12), vL (u 13), .ref (kad G 143), vI (u 15), .ref (kad G 144), vI (u 17), vI (u 18), vI (u 19), vI (u 20), vI (u 21), vI (u 22), vI (u 23), vI (u 24), vI (u 25), .ref (kad G 145), .ref (kad G 146), .ref (kad G 147), vI (u 29)]) := (hf14 133 (by omega)).trans hw10
            refine k_get hC fd_X12_34 (kl hN (by decide)) h_22 rfl dX12_hat_84 ?_
            refine k_astore hC [(6, .ref (kad G 142)), (0, .ref (kad G 133)), (1, vI (a : Int)), (2, vI (b : Int)), (3, vI (d : Int)), (4, vI T), (5, vI q)] dX12_hat_87 (by decide) rfl ?_
            refine k_iload hC dX12_hat_89 6 rfl ?_
            refine k_if_ne hC 107 dX12_hat_91 rfl (by omega) (fun c_91 => ?_) (fun c_91 => ?_)
            · refine k_aload hC dX12_hat_107 0 rfl ?_
              refine k_iconst hC dX12_hat_109 ?_
              refine k_lald hC (kl hN (by decide)) hhx_15.2 (by omega) (by decide) dX12_hat_110 ?_
              refine k_topv (vL ((htY g a b d T) (0 : Nat))) rfl ?_
              refine k_topv (vL (cN g a b T)) rfl ?_
              refine k_aload hC dX12_hat_111 0 rfl ?_
              refine k_iconst hC dX12_hat_113 ?_
              refine k_lald hC (kl hN (by decide)) hhx_15.2 (by omega) (by decide) dX12_hat_114 ?_
              refine k_topv (vL ((htY g a b d T) (1 : Nat))) rfl ?_
              refine k_topv (vL (cN g a d T)) rfl ?_
              refine k_ladd hC dX12_hat_115 ?_
              refine k_aload hC dX12_hat_116 0 rfl ?_
              refine k_iconst hC dX12_hat_118 ?_
              refine k_lald hC (kl hN (by decide)) hhx_15.2 (by omega) (by decide) dX12_hat_119 ?_
              refine k_topv (vL ((htY g a b d T) (2 : Nat))) rfl ?_
              refine k_topv (vL (cN g b d T)) rfl ?_
              refine k_ladd hC dX12_hat_120 ?_
              refine k_ldc2 hC (x := 3) (v := 3) dX12_hat_121 (by decide) wk_X12_142 ?_
              refine k_pureS hC (c_X12_floor l hls G hN w14 fl (((cN g a b T) + (cN g a d T)) + (cN g b d T)) 3 (by omega) (by omega)) yy_X12_floor wm_X12_92 rfl rfl (Nat.le_of_ble_eq_true rfl) (by decide) (by decide) ⟨by decide, by decide⟩ dX12_hat_124 ?_
              refine k_l2i hC dX12_hat_127 ?_
              subst hQ
              exact k_iret hC hr ⟨by decide, by decide⟩ (⟨_, 0, rfl, rfl, Or.inl ⟨by omega, rfl, (show (((((cN g a b T) + (cN g a d T)) + (cN g b d T)).fdiv 3 : Int) = hatV g a b d T q) from (by unfold hatV; rw [selI_1 hok]; first | (rw [if_pos (by omega)]; done) | (rw [if_neg (by omega)]; first | (rw [if_pos (by omega), Int.fdiv_eq_ediv_of_nonneg _ (by decide)]; done) | (rw [if_neg (by omega), Int.fdiv_eq_ediv_of_nonneg _ (by decide)]; done))))⟩, ⟨⟨u 12, u 13, h_22⟩, ⟨⟨_, _, _, hl14⟩, _, _, hhx_15⟩, fun j hj => (hf14 j (by omega)).trans (hf10 j (by omega))⟩⟩) dX12_hat_128
            · refine k_ldc2 hC (x := 1000000000) (v := 1000000000) dX12_hat_94 (by decide) wk_X12_280 ?_
              refine k_aload_n hC dX12_hat_97 rfl 1 rfl ?_
              refine k_pureV hC (c_X12_hatArea l hls G hN w14 fl (kup u 5 0) (cE g a b T) (cN g a b T) (cE g a d T) (cN g a d T) (cE g b d T) (cN g b d T) (by omega) (by omega) (by omega) (by omega) (by omega) (by omega) h_22 hhx_15) yy_X12_hatArea wm_X12_282 (kl hN (by decide)) h_22 rfl rfl rfl rfl (Nat.le_of_ble_eq_true rfl) (by decide) (by decide) ⟨by decide, by decide⟩ dX12_hat_98 ?_
              have hab := hatA_b g a b d T
              refine k_topv (vL (hatA g a b d T)) rfl ?_
              refine k_mminL hC wm_X12_77 wmath_mminL (by omega) (by omega) (by decide) (Nat.le_of_ble_eq_true rfl) ⟨by decide, by decide⟩ dX12_hat_101 ?_
              refine k_topv (vL (hatA g a b d T)) (congrArg vL (by omega)) ?_
              refine k_goto hC 127 dX12_hat_104 rfl ?_
              refine k_l2i hC dX12_hat_127 ?_
              subst hQ
              exact k_iret hC hr ⟨by decide, by decide⟩ (⟨_, 0, rfl, rfl, Or.inl ⟨by omega, rfl, (show ((hatA g a b d T : Int) = hatV g a b d T q) from (by unfold hatV; rw [selI_1 hok]; first | (rw [if_pos (by omega)]; done) | (rw [if_neg (by omega)]; first | (rw [if_pos (by omega), Int.fdiv_eq_ediv_of_nonneg _ (by decide)]; done) | (rw [if_neg (by omega), Int.fdiv_eq_ediv_of_nonneg _ (by decide)]; done))))⟩, ⟨⟨u 12, u 13, h_22⟩, ⟨⟨_, _, _, hl14⟩, _, _, hhx_15⟩, fun j hj => (hf14 j (by omega)).trans (hf10 j (by omega))⟩⟩) dX12_hat_128
          · refine k_aload_n hC dX12_hat_76 rfl 0 rfl ?_
            have h_23 : w14 133 = .inr (12, [.ref (kad G 134), .ref (kad G 135), .ref (kad G 136), .ref (kad G 137), vI (u 4), vI 0, vI (u 6), .ref (kad G 138), .ref (kad G 139), .ref (kad G 140), .ref (kad G 141), .ref (kad G 142), vL (u 12), vL (u 13), .ref (kad G 143), vI (u 15), .ref (kad G 144), vI (u 17), vI (u 18), vI (u 19), vI (u 20), vI (u 21), vI (u 22), vI (u 23), vI (u 24), vI (u 25), .ref (kad G 145), .ref (kad G 146), .ref (kad G 147), vI (u 29)]) := (hf14 133 (by omega)).trans hw10
            refine k_get hC fd_X12_31 (kl hN (by decide)) h_23 rfl dX12_hat_77 ?_
            refine k_goto hC 87 dX12_hat_80 rfl ?_
            refine k_astore hC [(6, .ref (kad G 141)), (0, .ref (kad G 133)), (1, vI (a : Int)), (2, vI (b : Int)), (3, vI (d : Int)), (4, vI T), (5, vI q)] dX12_hat_87 (by decide) rfl ?_
            refine k_iload hC dX12_hat_89 6 rfl ?_
            refine k_if_ne hC 107 dX12_hat_91 rfl (by omega) (fun c_91 => ?_) (fun c_91 => ?_)
            · refine k_aload hC dX12_hat_107 0 rfl ?_
              refine k_iconst hC dX12_hat_109 ?_
              refine k_lald hC (kl hN (by decide)) hhx_15.1 (by omega) (by decide) dX12_hat_110 ?_
              refine k_topv (vL ((htX g a b d T) (0 : Nat))) rfl ?_
              refine k_topv (vL (cE g a b T)) rfl ?_
              refine k_aload hC dX12_hat_111 0 rfl ?_
              refine k_iconst hC dX12_hat_113 ?_
              refine k_lald hC (kl hN (by decide)) hhx_15.1 (by omega) (by decide) dX12_hat_114 ?_
              refine k_topv (vL ((htX g a b d T) (1 : Nat))) rfl ?_
              refine k_topv (vL (cE g a d T)) rfl ?_
              refine k_ladd hC dX12_hat_115 ?_
              refine k_aload hC dX12_hat_116 0 rfl ?_
              refine k_iconst hC dX12_hat_118 ?_
              refine k_lald hC (kl hN (by decide)) hhx_15.1 (by omega) (by decide) dX12_hat_119 ?_
              refine k_topv (vL ((htX g a b d T) (2 : Nat))) rfl ?_
              refine k_topv (vL (cE g b d T)) rfl ?_
              refine k_ladd hC dX12_hat_120 ?_
              refine k_ldc2 hC (x := 3) (v := 3) dX12_hat_121 (by decide) wk_X12_142 ?_
              refine k_pureS hC (c_X12_floor l hls G hN w14 fl (((cE g a b T) + (cE g a d T)) + (cE g b d T)) 3 (by omega) (by omega)) yy_X12_floor wm_X12_92 rfl rfl (Nat.le_of_ble_eq_true rfl) (by decide) (by decide) ⟨by decide, by decide⟩ dX12_hat_124 ?_
              refine k_l2i hC dX12_hat_127 ?_
              subst hQ
              exact k_iret hC hr ⟨by decide, by decide⟩ (⟨_, 0, rfl, rfl, Or.inl ⟨by omega, rfl, (show (((((cE g a b T) + (cE g a d T)) + (cE g b d T)).fdiv 3 : Int) = hatV g a b d T q) from (by unfold hatV; rw [selI_1 hok]; first | (rw [if_pos (by omega)]; done) | (rw [if_neg (by omega)]; first | (rw [if_pos (by omega), Int.fdiv_eq_ediv_of_nonneg _ (by decide)]; done) | (rw [if_neg (by omega), Int.fdiv_eq_ediv_of_nonneg _ (by decide)]; done))))⟩, ⟨⟨u 12, u 13, h_23⟩, ⟨⟨_, _, _, hl14⟩, _, _, hhx_15⟩, fun j hj => (hf14 j (by omega)).trans (hf10 j (by omega))⟩⟩) dX12_hat_128
            · refine k_ldc2 hC (x := 1000000000) (v := 1000000000) dX12_hat_94 (by decide) wk_X12_280 ?_
              refine k_aload_n hC dX12_hat_97 rfl 1 rfl ?_
              refine k_pureV hC (c_X12_hatArea l hls G hN w14 fl (kup u 5 0) (cE g a b T) (cN g a b T) (cE g a d T) (cN g a d T) (cE g b d T) (cN g b d T) (by omega) (by omega) (by omega) (by omega) (by omega) (by omega) h_23 hhx_15) yy_X12_hatArea wm_X12_282 (kl hN (by decide)) h_23 rfl rfl rfl rfl (Nat.le_of_ble_eq_true rfl) (by decide) (by decide) ⟨by decide, by decide⟩ dX12_hat_98 ?_
              have hab := hatA_b g a b d T
              refine k_topv (vL (hatA g a b d T)) rfl ?_
              refine k_mminL hC wm_X12_77 wmath_mminL (by omega) (by omega) (by decide) (Nat.le_of_ble_eq_true rfl) ⟨by decide, by decide⟩ dX12_hat_101 ?_
              refine k_topv (vL (hatA g a b d T)) (congrArg vL (by omega)) ?_
              refine k_goto hC 127 dX12_hat_104 rfl ?_
              refine k_l2i hC dX12_hat_127 ?_
              subst hQ
              exact k_iret hC hr ⟨by decide, by decide⟩ (⟨_, 0, rfl, rfl, Or.inl ⟨by omega, rfl, (show ((hatA g a b d T : Int) = hatV g a b d T q) from (by unfold hatV; rw [selI_1 hok]; first | (rw [if_pos (by omega)]; done) | (rw [if_neg (by omega)]; first | (rw [if_pos (by omega), Int.fdiv_eq_ediv_of_nonneg _ (by decide)]; done) | (rw [if_neg (by omega), Int.fdiv_eq_ediv_of_nonneg _ (by decide)]; done))))⟩, ⟨⟨u 12, u 13, h_23⟩, ⟨⟨_, _, _, hl14⟩, _, _, hhx_15⟩, fun j hj => (hf14 j (by omega)).trans (hf10 j (by omega))⟩⟩) dX12_hat_128
        · have nok : ¬ hatP g a b d := (hz14.resolve_left (fun q1 => by omega)).2
          refine k_ldcw hC (x := (-1000000000)) (v := (-1000000000)) dX12_hat_66 (by decide) wk_X12_268 ?_
          have h_24 : w14 133 = .inr (12, [.ref (kad G 134), .ref (kad G 135), .ref (kad G 136), .ref (kad G 137), vI (u 4), vI 0, vI (u 6), .ref (kad G 138), .ref (kad G 139), .ref (kad G 140), .ref (kad G 141), .ref (kad G 142), vL (u 12), vL (u 13), .ref (kad G 143), vI (u 15), .ref (kad G 144), vI (u 17), vI (u 18), vI (u 19), vI (u 20), vI (u 21), vI (u 22), vI (u 23), vI (u 24), vI (u 25), .ref (kad G 145), .ref (kad G 146), .ref (kad G 147), vI (u 29)]) := (hf14 133 (by omega)).trans hw10
          subst hQ
          exact k_iret hC hr ⟨by decide, by decide⟩ (⟨_, 0, rfl, rfl, Or.inl ⟨by omega, rfl, (show ((-1000000000 : Int) = hatV g a b d T q) from (by unfold hatV; rw [selI_0 nok]))⟩, ⟨⟨u 12, u 13, h_24⟩, ⟨⟨_, _, _, hl14⟩, _, _, hh14⟩, fun j hj => (hf14 j (by omega)).trans (hf10 j (by omega))⟩⟩) dX12_hat_69
  · refine k_iconst hC dX12_hat_11 ?_
    refine k_goto hC 42 dX12_hat_12 rfl ?_
    refine k_put hC fd_X12_74 (kl hN (by decide)) hm [.ref (kad G 134), .ref (kad G 135), .ref (kad G 136), .ref (kad G 137), vI (u 4), vI 1, vI (u 6), .ref (kad G 138), .ref (kad G 139), .ref (kad G 140), .ref (kad G 141), .ref (kad G 142), vL (u 12), vL (u 13), .ref (kad G 143), vI (u 15), .ref (kad G 144), vI (u 17), vI (u 18), vI (u 19), vI (u 20), vI (u 21), vI (u 22), vI (u 23), vI (u 24), vI (u 25), .ref (kad G 145), .ref (kad G 146), .ref (kad G 147), vI (u 29)] rfl (Nat.le_of_ble_eq_true rfl) rfl rfl dX12_hat_42 (fun w25 hw25 hf25 => ?_)
    refine k_aload_n hC dX12_hat_45 rfl 0 rfl ?_
    refine k_get hC fd_X12_74 (kl hN (by decide)) hw25 rfl dX12_hat_46 ?_
    refine k_if_eq hC 54 dX12_hat_49 rfl (by omega) (fun c_49 => absurd c_49 (by omega)) (fun c_49 => ?_)
    refine k_iconst hC dX12_hat_52 ?_
    have hB_26 : kLns G w25 ls lc lo := hLs.fr (fun j q1 q2 => (hf25 j (by omega)))
    have hB_27 : kHts G w25 hx hy := hHt.fr (fun j q1 q2 => (hf25 j (by omega)))
    subst hQ
    exact k_iret hC hr ⟨by decide, by decide⟩ (⟨_, 1, rfl, rfl, Or.inr (Or.inl ⟨by omega, rfl⟩), ⟨⟨u 12, u 13, hw25⟩, ⟨⟨_, _, _, hB_26⟩, _, _, hB_27⟩, fun j hj => hf25 j (by omega)⟩⟩) dX12_hat_53

set_option maxRecDepth 100000 in
set_option maxHeartbeats 4000000 in
theorem c_X12_isInside (l : Launch) (hls : l.stackTraces = false) (G : kG) (hN : kN G = 150) (w : Nat → va_E) (fl : va_W) (u g : Nat → Int) (i j k T x y : Int) (hi : -2147483648 ≤ i ∧ i ≤ 2147483647) (hj : -2147483648 ≤ j ∧ j ≤ 2147483647) (hk : -2147483648 ≤ k ∧ k ≤ 2147483647) (hT : -2147483648 ≤ T ∧ T ≤ 2147483647) (hx1 : -2147483648 ≤ x ∧ x ≤ 2147483647) (hy1 : -2147483648 ≤ y ∧ y ≤ 2147483647) (hI : Inv g) (hm : w 133 = mdO G u) (hn : w 134 = lA G 93 g) (hSc : kScr G w) : KM l G yX12_isInside cX12_isInside 8 (some (FieldType.boolean)) 14 0 0 [.ref (kad G 133), vI i, vI j, vI k, vI T, vI x, vI y] w fl (kRt (thR ((((0 ≤ i ∧ i < g 2) ∧ (0 ≤ j ∧ j < g 2) ∧ (0 ≤ k ∧ k < g 2)) ∧ (0 ≤ T ∧ T ≤ 5000)) ∧ ((-1000000 ≤ x ∧ x ≤ 1000000) ∧ (-1000000 ≤ y ∧ y ≤ 1000000))) (insV g i.toNat j.toNat k.toNat T x y) (¬ ((0 ≤ i ∧ i < g 2) ∧ (0 ≤ j ∧ j < g 2) ∧ (0 ≤ k ∧ k < g 2))) 1 (((0 ≤ i ∧ i < g 2) ∧ (0 ≤ j ∧ j < g 2) ∧ (0 ≤ k ∧ k < g 2)) ∧ ¬ ((0 ≤ T ∧ T ≤ 5000) ∧ ((-1000000 ≤ x ∧ x ≤ 1000000) ∧ (-1000000 ≤ y ∧ y ≤ 1000000)))) 2) fl (fun th w1 => mSt G w w1 u th)) := by
  refine KM_of2 hls (by decide +kernel) rfl (lv0 := [(0, .ref (kad G 133)), (1, vI i), (2, vI j), (3, vI k), (4, vI T), (5, vI x), (6, vI y)]) rfl (Nat.le_of_ble_eq_true rfl) (fun p e R s m args below meth c Q hC hr hQ => ?_)
  obtain ⟨⟨ls, lc, lo, hLs⟩, hx, hy, hHt⟩ := hSc
  have h0 := hI.c
  refine k_iload hC dX12_isInside_0 5 rfl ?_
  refine k_i2l hC dX12_isInside_2 (by omega) ?_
  refine k_ldc2 hC (x := (-1000000)) (v := (-1000000)) dX12_isInside_3 (by decide) wk_X12_241 ?_
  refine k_ldc2 hC (x := 1000000) (v := 1000000) dX12_isInside_6 (by decide) wk_X12_113 ?_
  refine k_pureS hC (c_X12_inRange l hls G hN w fl x (-1000000) 1000000 (by omega) (by omega) (by omega)) yy_X12_inRange wm_X12_243 rfl rfl (Nat.le_of_ble_eq_true rfl) (by decide) (by decide) ⟨by decide, by decide⟩ dX12_isInside_9 ?_
  refine k_topv (vI (if -1000000 ≤ x ∧ x ≤ 1000000 then 1 else 0)) rfl ?_
  obtain ⟨z_1, ez_1, hz_1⟩ := k_bI (-1000000 ≤ x ∧ x ≤ 1000000)
  refine k_topv (vI z_1) (by rw [ez_1]) ?_
  refine k_if_eq hC 34 dX12_isInside_12 rfl (by omega) (fun c_12 => ?_) (fun c_12 => ?_)
  · refine k_iconst hC dX12_isInside_34 ?_
    refine k_istore hC [(7, vI 0), (0, .ref (kad G 133)), (1, vI i), (2, vI j), (3, vI k), (4, vI T), (5, vI x), (6, vI y)] dX12_isInside_35 (by decide) rfl ?_
    refine k_aload_n hC dX12_isInside_37 rfl 1 rfl ?_
    refine k_aload_n hC dX12_isInside_38 rfl 1 rfl ?_
    refine k_iload_n hC dX12_isInside_39 rfl 2 rfl ?_
    refine k_iload_n hC dX12_isInside_40 rfl 3 rfl ?_
    refine k_iload_n hC dX12_isInside_41 rfl 4 rfl ?_
    refine k_pureV hC (c_X12_areSights l hls G hN w fl u g i j k (by omega) (by omega) (by omega) hI hm hn) yy_X12_areSights wm_X12_273 (kl hN (by decide)) hm rfl rfl rfl rfl (Nat.le_of_ble_eq_true rfl) (by decide) (by decide) ⟨by decide, by decide⟩ dX12_isInside_42 ?_
    obtain ⟨z_2, ez_2, hz_2⟩ := k_bI ((0 ≤ i ∧ i < g 2) ∧ (0 ≤ j ∧ j < g 2) ∧ (0 ≤ k ∧ k < g 2))
    refine k_topv (vI z_2) (by rw [ez_2]) ?_
    refine k_if_ne hC 52 dX12_isInside_45 rfl (by omega) (fun c_45 => ?_) (fun c_45 => ?_)
    · refine k_aload_n hC dX12_isInside_52 rfl 1 rfl ?_
      refine k_iload hC dX12_isInside_53 5 rfl ?_
      refine k_pureV hC (c_X12_isTime l hls G hN w fl u g T (by omega) hI hm hn) yy_X12_isTime wm_X12_262 (kl hN (by decide)) hm rfl rfl rfl rfl (Nat.le_of_ble_eq_true rfl) (by decide) (by decide) ⟨by decide, by decide⟩ dX12_isInside_55 ?_
      obtain ⟨z_3, ez_3, hz_3⟩ := k_bI (0 ≤ T ∧ T ≤ 5000)
      refine k_topv (vI z_3) (by rw [ez_3]) ?_
      refine k_if_eq hC 70 dX12_isInside_58 rfl (by omega) (fun c_58 => ?_) (fun c_58 => ?_)
      · refine k_iconst hC dX12_isInside_70 ?_
        refine k_put hC fd_X12_74 (kl hN (by decide)) hm [.ref (kad G 134), .ref (kad G 135), .ref (kad G 136), .ref (kad G 137), vI (u 4), vI 2, vI (u 6), .ref (kad G 138), .ref (kad G 139), .ref (kad G 140), .ref (kad G 141), .ref (kad G 142), vL (u 12), vL (u 13), .ref (kad G 143), vI (u 15), .ref (kad G 144), vI (u 17), vI (u 18), vI (u 19), vI (u 20), vI (u 21), vI (u 22), vI (u 23), vI (u 24), vI (u 25), .ref (kad G 145), .ref (kad G 146), .ref (kad G 147), vI (u 29)] rfl (Nat.le_of_ble_eq_true rfl) rfl rfl dX12_isInside_71 (fun w4 hw4 hf4 => ?_)
        refine k_aload_n hC dX12_isInside_74 rfl 1 rfl ?_
        refine k_get hC fd_X12_74 (kl hN (by decide)) hw4 rfl dX12_isInside_75 ?_
        refine k_if_ne hC 93 dX12_isInside_78 rfl (by omega) (fun c_78 => ?_) (fun c_78 => absurd c_78 (by omega))
        refine k_iconst hC dX12_isInside_93 ?_
        have hB_5 : kLns G w4 ls lc lo := hLs.fr (fun j q1 q2 => (hf4 j (by omega)))
        have hB_6 : kHts G w4 hx hy := hHt.fr (fun j q1 q2 => (hf4 j (by omega)))
        subst hQ
        exact k_zret hC (by omega) hr ⟨by decide, by decide⟩ (⟨_, 2, rfl, rfl, Or.inr (Or.inr ⟨by omega, rfl⟩), ⟨⟨u 12, u 13, hw4⟩, ⟨⟨_, _, _, hB_5⟩, _, _, hB_6⟩, fun j hj => hf4 j (by omega)⟩⟩) dX12_isInside_94
      · refine k_iload hC dX12_isInside_61 0 rfl ?_
        refine k_if_eq hC 70 dX12_isInside_63 rfl (by omega) (fun c_63 => ?_) (fun c_63 => absurd c_63 (by omega))
        refine k_iconst hC dX12_isInside_70 ?_
        refine k_put hC fd_X12_74 (kl hN (by decide)) hm [.ref (kad G 134), .ref (kad G 135), .ref (kad G 136), .ref (kad G 137), vI (u 4), vI 2, vI (u 6), .ref (kad G 138), .ref (kad G 139), .ref (kad G 140), .ref (kad G 141), .ref (kad G 142), vL (u 12), vL (u 13), .ref (kad G 143), vI (u 15), .ref (kad G 144), vI (u 17), vI (u 18), vI (u 19), vI (u 20), vI (u 21), vI (u 22), vI (u 23), vI (u 24), vI (u 25), .ref (kad G 145), .ref (kad G 146), .ref (kad G 147), vI (u 29)] rfl (Nat.le_of_ble_eq_true rfl) rfl rfl dX12_isInside_71 (fun w7 hw7 hf7 => ?_)
        refine k_aload_n hC dX12_isInside_74 rfl 1 rfl ?_
        refine k_get hC fd_X12_74 (kl hN (by decide)) hw7 rfl dX12_isInside_75 ?_
        refine k_if_ne hC 93 dX12_isInside_78 rfl (by omega) (fun c_78 => ?_) (fun c_78 => absurd c_78 (by omega))
        refine k_iconst hC dX12_isInside_93 ?_
        have hB_8 : kLns G w7 ls lc lo := hLs.fr (fun j q1 q2 => (hf7 j (by omega)))
        have hB_9 : kHts G w7 hx hy := hHt.fr (fun j q1 q2 => (hf7 j (by omega)))
        subst hQ
        exact k_zret hC (by omega) hr ⟨by decide, by decide⟩ (⟨_, 2, rfl, rfl, Or.inr (Or.inr ⟨by omega, rfl⟩), ⟨⟨u 12, u 13, hw7⟩, ⟨⟨_, _, _, hB_8⟩, _, _, hB_9⟩, fun j hj => hf7 j (by omega)⟩⟩) dX12_isInside_94
    · refine k_iconst hC dX12_isInside_48 ?_
      refine k_goto hC 71 dX12_isInside_49 rfl ?_
      refine k_put hC fd_X12_74 (kl hN (by decide)) hm [.ref (kad G 134), .ref (kad G 135), .ref (kad G 136), .ref (kad G 137), vI (u 4), vI 1, vI (u 6), .ref (kad G 138), .ref (kad G 139), .ref (kad G 140), .ref (kad G 141), .ref (kad G 142), vL (u 12), vL (u 13), .ref (kad G 143), vI (u 15), .ref (kad G 144), vI (u 17), vI (u 18), vI (u 19), vI (u 20), vI (u 21), vI (u 22), vI (u 23), vI (u 24), vI (u 25), .ref (kad G 145), .ref (kad G 146), .ref (kad G 147), vI (u 29)] rfl (Nat.le_of_ble_eq_true rfl) rfl rfl dX12_isInside_71 (fun w10 hw10 hf10 => ?_)
      refine k_aload_n hC dX12_isInside_74 rfl 1 rfl ?_
      refine k_get hC fd_X12_74 (kl hN (by decide)) hw10 rfl dX12_isInside_75 ?_
      refine k_if_ne hC 93 dX12_isInside_78 rfl (by omega) (fun c_78 => ?_) (fun c_78 => absurd c_78 (by omega))
      refine k_iconst hC dX12_isInside_93 ?_
      have hB_11 : kLns G w10 ls lc lo := hLs.fr (fun j q1 q2 => (hf10 j (by omega)))
      have hB_12 : kHts G w10 hx hy := hHt.fr (fun j q1 q2 => (hf10 j (by omega)))
      subst hQ
      exact k_zret hC (by omega) hr ⟨by decide, by decide⟩ (⟨_, 1, rfl, rfl, Or.inr (Or.inl ⟨by omega, rfl⟩), ⟨⟨u 12, u 13, hw10⟩, ⟨⟨_, _, _, hB_11⟩, _, _, hB_12⟩, fun j hj => hf10 j (by omega)⟩⟩) dX12_isInside_94
  · refine k_iload hC dX12_isInside_15 6 rfl ?_
    refine k_i2l hC dX12_isInside_17 (by omega) ?_
    refine k_ldc2 hC (x := (-1000000)) (v := (-1000000)) dX12_isInside_18 (by decide) wk_X12_241 ?_
    refine k_ldc2 hC (x := 1000000) (v := 1000000) dX12_isInside_21 (by decide) wk_X12_113 ?_
    refine k_pureS hC (c_X12_inRange l hls G hN w fl y (-1000000) 1000000 (by omega) (by omega) (by omega)) yy_X12_inRange wm_X12_243 rfl rfl (Nat.le_of_ble_eq_true rfl) (by decide) (by decide) ⟨by decide, by decide⟩ dX12_isInside_24 ?_
    refine k_topv (vI (if -1000000 ≤ y ∧ y ≤ 1000000 then 1 else 0)) rfl ?_
    obtain ⟨z_13, ez_13, hz_13⟩ := k_bI (-1000000 ≤ y ∧ y ≤ 1000000)
    refine k_topv (vI z_13) (by rw [ez_13]) ?_
    refine k_if_eq hC 34 dX12_isInside_27 rfl (by omega) (fun c_27 => ?_) (fun c_27 => ?_)
    · refine k_iconst hC dX12_isInside_34 ?_
      refine k_istore hC [(7, vI 0), (0, .ref (kad G 133)), (1, vI i), (2, vI j), (3, vI k), (4, vI T), (5, vI x), (6, vI y)] dX12_isInside_35 (by decide) rfl ?_
      refine k_aload_n hC dX12_isInside_37 rfl 1 rfl ?_
      refine k_aload_n hC dX12_isInside_38 rfl 1 rfl ?_
      refine k_iload_n hC dX12_isInside_39 rfl 2 rfl ?_
      refine k_iload_n hC dX12_isInside_40 rfl 3 rfl ?_
      refine k_iload_n hC dX12_isInside_41 rfl 4 rfl ?_
      refine k_pureV hC (c_X12_areSights l hls G hN w fl u g i j k (by omega) (by omega) (by omega) hI hm hn) yy_X12_areSights wm_X12_273 (kl hN (by decide)) hm rfl rfl rfl rfl (Nat.le_of_ble_eq_true rfl) (by decide) (by decide) ⟨by decide, by decide⟩ dX12_isInside_42 ?_
      obtain ⟨z_14, ez_14, hz_14⟩ := k_bI ((0 ≤ i ∧ i < g 2) ∧ (0 ≤ j ∧ j < g 2) ∧ (0 ≤ k ∧ k < g 2))
      refine k_topv (vI z_14) (by rw [ez_14]) ?_
      refine k_if_ne hC 52 dX12_isInside_45 rfl (by omega) (fun c_45 => ?_) (fun c_45 => ?_)
      · refine k_aload_n hC dX12_isInside_52 rfl 1 rfl ?_
        refine k_iload hC dX12_isInside_53 5 rfl ?_
        refine k_pureV hC (c_X12_isTime l hls G hN w fl u g T (by omega) hI hm hn) yy_X12_isTime wm_X12_262 (kl hN (by decide)) hm rfl rfl rfl rfl (Nat.le_of_ble_eq_true rfl) (by decide) (by decide) ⟨by decide, by decide⟩ dX12_isInside_55 ?_
        obtain ⟨z_15, ez_15, hz_15⟩ := k_bI (0 ≤ T ∧ T ≤ 5000)
        refine k_topv (vI z_15) (by rw [ez_15]) ?_
        refine k_if_eq hC 70 dX12_isInside_58 rfl (by omega) (fun c_58 => ?_) (fun c_58 => ?_)
        · refine k_iconst hC dX12_isInside_70 ?_
          refine k_put hC fd_X12_74 (kl hN (by decide)) hm [.ref (kad G 134), .ref (kad G 135), .ref (kad G 136), .ref (kad G 137), vI (u 4), vI 2, vI (u 6), .ref (kad G 138), .ref (kad G 139), .ref (kad G 140), .ref (kad G 141), .ref (kad G 142), vL (u 12), vL (u 13), .ref (kad G 143), vI (u 15), .ref (kad G 144), vI (u 17), vI (u 18), vI (u 19), vI (u 20), vI (u 21), vI (u 22), vI (u 23), vI (u 24), vI (u 25), .ref (kad G 145), .ref (kad G 146), .ref (kad G 147), vI (u 29)] rfl (Nat.le_of_ble_eq_true rfl) rfl rfl dX12_isInside_71 (fun w16 hw16 hf16 => ?_)
          refine k_aload_n hC dX12_isInside_74 rfl 1 rfl ?_
          refine k_get hC fd_X12_74 (kl hN (by decide)) hw16 rfl dX12_isInside_75 ?_
          refine k_if_ne hC 93 dX12_isInside_78 rfl (by omega) (fun c_78 => ?_) (fun c_78 => absurd c_78 (by omega))
          refine k_iconst hC dX12_isInside_93 ?_
          have hB_17 : kLns G w16 ls lc lo := hLs.fr (fun j q1 q2 => (hf16 j (by omega)))
          have hB_18 : kHts G w16 hx hy := hHt.fr (fun j q1 q2 => (hf16 j (by omega)))
          subst hQ
          exact k_zret hC (by omega) hr ⟨by decide, by decide⟩ (⟨_, 2, rfl, rfl, Or.inr (Or.inr ⟨by omega, rfl⟩), ⟨⟨u 12, u 13, hw16⟩, ⟨⟨_, _, _, hB_17⟩, _, _, hB_18⟩, fun j hj => hf16 j (by omega)⟩⟩) dX12_isInside_94
        · refine k_iload hC dX12_isInside_61 0 rfl ?_
          refine k_if_eq hC 70 dX12_isInside_63 rfl (by omega) (fun c_63 => ?_) (fun c_63 => absurd c_63 (by omega))
          refine k_iconst hC dX12_isInside_70 ?_
          refine k_put hC fd_X12_74 (kl hN (by decide)) hm [.ref (kad G 134), .ref (kad G 135), .ref (kad G 136), .ref (kad G 137), vI (u 4), vI 2, vI (u 6), .ref (kad G 138), .ref (kad G 139), .ref (kad G 140), .ref (kad G 141), .ref (kad G 142), vL (u 12), vL (u 13), .ref (kad G 143), vI (u 15), .ref (kad G 144), vI (u 17), vI (u 18), vI (u 19), vI (u 20), vI (u 21), vI (u 22), vI (u 23), vI (u 24), vI (u 25), .ref (kad G 145), .ref (kad G 146), .ref (kad G 147), vI (u 29)] rfl (Nat.le_of_ble_eq_true rfl) rfl rfl dX12_isInside_71 (fun w19 hw19 hf19 => ?_)
          refine k_aload_n hC dX12_isInside_74 rfl 1 rfl ?_
          refine k_get hC fd_X12_74 (kl hN (by decide)) hw19 rfl dX12_isInside_75 ?_
          refine k_if_ne hC 93 dX12_isInside_78 rfl (by omega) (fun c_78 => ?_) (fun c_78 => absurd c_78 (by omega))
          refine k_iconst hC dX12_isInside_93 ?_
          have hB_20 : kLns G w19 ls lc lo := hLs.fr (fun j q1 q2 => (hf19 j (by omega)))
          have hB_21 : kHts G w19 hx hy := hHt.fr (fun j q1 q2 => (hf19 j (by omega)))
          subst hQ
          exact k_zret hC (by omega) hr ⟨by decide, by decide⟩ (⟨_, 2, rfl, rfl, Or.inr (Or.inr ⟨by omega, rfl⟩), ⟨⟨u 12, u 13, hw19⟩, ⟨⟨_, _, _, hB_20⟩, _, _, hB_21⟩, fun j hj => hf19 j (by omega)⟩⟩) dX12_isInside_94
      · refine k_iconst hC dX12_isInside_48 ?_
        refine k_goto hC 71 dX12_isInside_49 rfl ?_
        refine k_put hC fd_X12_74 (kl hN (by decide)) hm [.ref (kad G 134), .ref (kad G 135), .ref (kad G 136), .ref (kad G 137), vI (u 4), vI 1, vI (u 6), .ref (kad G 138), .ref (kad G 139), .ref (kad G 140), .ref (kad G 141), .ref (kad G 142), vL (u 12), vL (u 13), .ref (kad G 143), vI (u 15), .ref (kad G 144), vI (u 17), vI (u 18), vI (u 19), vI (u 20), vI (u 21), vI (u 22), vI (u 23), vI (u 24), vI (u 25), .ref (kad G 145), .ref (kad G 146), .ref (kad G 147), vI (u 29)] rfl (Nat.le_of_ble_eq_true rfl) rfl rfl dX12_isInside_71 (fun w22 hw22 hf22 => ?_)
        refine k_aload_n hC dX12_isInside_74 rfl 1 rfl ?_
        refine k_get hC fd_X12_74 (kl hN (by decide)) hw22 rfl dX12_isInside_75 ?_
        refine k_if_ne hC 93 dX12_isInside_78 rfl (by omega) (fun c_78 => ?_) (fun c_78 => absurd c_78 (by omega))
        refine k_iconst hC dX12_isInside_93 ?_
        have hB_23 : kLns G w22 ls lc lo := hLs.fr (fun j q1 q2 => (hf22 j (by omega)))
        have hB_24 : kHts G w22 hx hy := hHt.fr (fun j q1 q2 => (hf22 j (by omega)))
        subst hQ
        exact k_zret hC (by omega) hr ⟨by decide, by decide⟩ (⟨_, 1, rfl, rfl, Or.inr (Or.inl ⟨by omega, rfl⟩), ⟨⟨u 12, u 13, hw22⟩, ⟨⟨_, _, _, hB_23⟩, _, _, hB_24⟩, fun j hj => hf22 j (by omega)⟩⟩) dX12_isInside_94
    · refine k_iconst hC dX12_isInside_30 ?_
      refine k_goto hC 35 dX12_isInside_31 rfl ?_
      refine k_istore hC [(7, vI 1), (0, .ref (kad G 133)), (1, vI i), (2, vI j), (3, vI k), (4, vI T), (5, vI x), (6, vI y)] dX12_isInside_35 (by decide) rfl ?_
      refine k_aload_n hC dX12_isInside_37 rfl 1 rfl ?_
      refine k_aload_n hC dX12_isInside_38 rfl 1 rfl ?_
      refine k_iload_n hC dX12_isInside_39 rfl 2 rfl ?_
      refine k_iload_n hC dX12_isInside_40 rfl 3 rfl ?_
      refine k_iload_n hC dX12_isInside_41 rfl 4 rfl ?_
      refine k_pureV hC (c_X12_areSights l hls G hN w fl u g i j k (by omega) (by omega) (by omega) hI hm hn) yy_X12_areSights wm_X12_273 (kl hN (by decide)) hm rfl rfl rfl rfl (Nat.le_of_ble_eq_true rfl) (by decide) (by decide) ⟨by decide, by decide⟩ dX12_isInside_42 ?_
      obtain ⟨z_25, ez_25, hz_25⟩ := k_bI ((0 ≤ i ∧ i < g 2) ∧ (0 ≤ j ∧ j < g 2) ∧ (0 ≤ k ∧ k < g 2))
      refine k_topv (vI z_25) (by rw [ez_25]) ?_
      refine k_if_ne hC 52 dX12_isInside_45 rfl (by omega) (fun c_45 => ?_) (fun c_45 => ?_)
      · refine k_aload_n hC dX12_isInside_52 rfl 1 rfl ?_
        refine k_iload hC dX12_isInside_53 5 rfl ?_
        refine k_pureV hC (c_X12_isTime l hls G hN w fl u g T (by omega) hI hm hn) yy_X12_isTime wm_X12_262 (kl hN (by decide)) hm rfl rfl rfl rfl (Nat.le_of_ble_eq_true rfl) (by decide) (by decide) ⟨by decide, by decide⟩ dX12_isInside_55 ?_
        obtain ⟨z_26, ez_26, hz_26⟩ := k_bI (0 ≤ T ∧ T ≤ 5000)
        refine k_topv (vI z_26) (by rw [ez_26]) ?_
        refine k_if_eq hC 70 dX12_isInside_58 rfl (by omega) (fun c_58 => ?_) (fun c_58 => ?_)
        · refine k_iconst hC dX12_isInside_70 ?_
          refine k_put hC fd_X12_74 (kl hN (by decide)) hm [.ref (kad G 134), .ref (kad G 135), .ref (kad G 136), .ref (kad G 137), vI (u 4), vI 2, vI (u 6), .ref (kad G 138), .ref (kad G 139), .ref (kad G 140), .ref (kad G 141), .ref (kad G 142), vL (u 12), vL (u 13), .ref (kad G 143), vI (u 15), .ref (kad G 144), vI (u 17), vI (u 18), vI (u 19), vI (u 20), vI (u 21), vI (u 22), vI (u 23), vI (u 24), vI (u 25), .ref (kad G 145), .ref (kad G 146), .ref (kad G 147), vI (u 29)] rfl (Nat.le_of_ble_eq_true rfl) rfl rfl dX12_isInside_71 (fun w27 hw27 hf27 => ?_)
          refine k_aload_n hC dX12_isInside_74 rfl 1 rfl ?_
          refine k_get hC fd_X12_74 (kl hN (by decide)) hw27 rfl dX12_isInside_75 ?_
          refine k_if_ne hC 93 dX12_isInside_78 rfl (by omega) (fun c_78 => ?_) (fun c_78 => absurd c_78 (by omega))
          refine k_iconst hC dX12_isInside_93 ?_
          have hB_28 : kLns G w27 ls lc lo := hLs.fr (fun j q1 q2 => (hf27 j (by omega)))
          have hB_29 : kHts G w27 hx hy := hHt.fr (fun j q1 q2 => (hf27 j (by omega)))
          subst hQ
          exact k_zret hC (by omega) hr ⟨by decide, by decide⟩ (⟨_, 2, rfl, rfl, Or.inr (Or.inr ⟨by omega, rfl⟩), ⟨⟨u 12, u 13, hw27⟩, ⟨⟨_, _, _, hB_28⟩, _, _, hB_29⟩, fun j hj => hf27 j (by omega)⟩⟩) dX12_isInside_94
        · refine k_iload hC dX12_isInside_61 0 rfl ?_
          refine k_if_eq hC 70 dX12_isInside_63 rfl (by omega) (fun c_63 => absurd c_63 (by omega)) (fun c_63 => ?_)
          refine k_iconst hC dX12_isInside_66 ?_
          refine k_goto hC 71 dX12_isInside_67 rfl ?_
          refine k_put hC fd_X12_74 (kl hN (by decide)) hm [.ref (kad G 134), .ref (kad G 135), .ref (kad G 136), .ref (kad G 137), vI (u 4), vI 0, vI (u 6), .ref (kad G 138), .ref (kad G 139), .ref (kad G 140), .ref (kad G 141), .ref (kad G 142), vL (u 12), vL (u 13), .ref (kad G 143), vI (u 15), .ref (kad G 144), vI (u 17), vI (u 18), vI (u 19), vI (u 20), vI (u 21), vI (u 22), vI (u 23), vI (u 24), vI (u 25), .ref (kad G 145), .ref (kad G 146), .ref (kad G 147), vI (u 29)] rfl (Nat.le_of_ble_eq_true rfl) rfl rfl dX12_isInside_71 (fun w30 hw30 hf30 => ?_)
          obtain ⟨a, ea⟩ : ∃ zz : Nat, i = (zz : Int) := ⟨i.toNat, by omega⟩
          subst ea
          obtain ⟨b, eb⟩ : ∃ zz : Nat, j = (zz : Int) := ⟨j.toNat, by omega⟩
          subst eb
          obtain ⟨d, ed⟩ : ∃ zz : Nat, k = (zz : Int) := ⟨k.toNat, by omega⟩
          subst ed
          refine k_aload_n hC dX12_isInside_74 rfl 1 rfl ?_
          refine k_get hC fd_X12_74 (kl hN (by decide)) hw30 rfl dX12_isInside_75 ?_
          refine k_if_ne hC 93 dX12_isInside_78 rfl (by omega) (fun c_78 => absurd c_78 (by omega)) (fun c_78 => ?_)
          refine k_aload_n hC dX12_isInside_81 rfl 1 rfl ?_
          refine k_iload_n hC dX12_isInside_82 rfl 2 rfl ?_
          refine k_iload_n hC dX12_isInside_83 rfl 3 rfl ?_
          refine k_iload_n hC dX12_isInside_84 rfl 4 rfl ?_
          refine k_iload hC dX12_isInside_85 5 rfl ?_
          have h_31 : w30 134 = lA G 93 g := (hf30 134 (by decide)).trans hn
          have hB_32 : kLns G w30 ls lc lo := hLs.fr (fun j q1 q2 => (hf30 j (by omega)))
          have hB_33 : kHts G w30 hx hy := hHt.fr (fun j q1 q2 => (hf30 j (by omega)))
          refine k_mutV hC (c_X12_carryHat l hls G hN w30 fl (kup u 5 0) g a b d T (by omega) (by omega) (by omega) (by omega) hI hw30 h_31 ⟨⟨_, _, _, hB_32⟩, _, _, hB_33⟩) yy_X12_carryHat wm_X12_276 (kl hN (by decide)) hw30 rfl rfl rfl rfl (Nat.le_of_ble_eq_true rfl) (by decide) (by decide) ⟨by decide, by decide⟩ dX12_isInside_87 (fun w34 hp34 => ?_)
          obtain ⟨⟨ls34, lc34, lo34, hl34⟩, ⟨hx34, hy34, hh34, hxy34⟩, hf34⟩ := hp34
          obtain ⟨z34, ez34, hz34⟩ := selI_c (hatP g a b d)
          refine k_topv (vI z34) (by rw [ez34]) ?_
          refine k_if_ne hC 95 dX12_isInside_90 rfl (by omega) (fun c_90 => ?_) (fun c_90 => ?_)
          · have hok : hatP g a b d := (hz34.resolve_right (fun q1 => by omega)).2
            have hhx_35 : kHts G w34 (htX g a b d T) (htY g a b d T) := by have q := hh34; rw [(hxy34 hok).1, (hxy34 hok).2] at q; exact q
            have hcE_36 := cE_b g a b T
            have hcN_37 := cN_b g a b T
            have hcE_38 := cE_b g a d T
            have hcN_39 := cN_b g a d T
            have hcE_40 := cE_b g b d T
            have hcN_41 := cN_b g b d T
            refine k_aload_n hC dX12_isInside_95 rfl 1 rfl ?_
            refine k_iconst hC dX12_isInside_96 ?_
            refine k_iconst hC dX12_isInside_97 ?_
            refine k_iconst hC dX12_isInside_98 ?_
            refine k_iload hC dX12_isInside_99 6 rfl ?_
            refine k_i2l hC dX12_isInside_101 (by omega) ?_
            refine k_iload hC dX12_isInside_102 7 rfl ?_
            refine k_i2l hC dX12_isInside_104 (by omega) ?_
            have h_42 : w34 133 = .inr (12, [.ref (kad G 134), .ref (kad G 135), .ref (kad G 136), .ref (kad G 137), vI (u 4), vI 0, vI (u 6), .ref (kad G 138), .ref (kad G 139), .ref (kad G 140), .ref (kad G 141), .ref (kad G 142), vL (u 12), vL (u 13), .ref (kad G 143), vI (u 15), .ref (kad G 144), vI (u 17), vI (u 18), vI (u 19), vI (u 20), vI (u 21), vI (u 22), vI (u 23), vI (u 24), vI (u 25), .ref (kad G 145), .ref (kad G 146), .ref (kad G 147), vI (u 29)]) := (hf34 133 (by omega)).trans hw30
            refine k_pureV hC (c_X12_isBeside012 l hls G hN w34 fl (kup u 5 0) (cE g a b T) (cN g a b T) (cE g a d T) (cN g a d T) (cE g b d T) (cN g b d T) x y (by omega) (by omega) (by omega) (by omega) (by omega) (by omega) (by omega) (by omega) h_42 hhx_35) yy_X12_isBeside wm_X12_285 (kl hN (by decide)) h_42 rfl rfl rfl rfl (Nat.le_of_ble_eq_true rfl) (by decide) (by decide) ⟨by decide, by decide⟩ dX12_isInside_105 ?_
            obtain ⟨z_43, ez_43, hz_43⟩ := k_bI (besP (cE g a b T) (cN g a b T) (cE g a d T) (cN g a d T) (cE g b d T) (cN g b d T) x y)
            refine k_topv (vI z_43) (by rw [ez_43]) ?_
            refine k_if_eq hC 147 dX12_isInside_108 rfl (by omega) (fun c_108 => ?_) (fun c_108 => ?_)
            · refine k_iconst hC dX12_isInside_147 ?_
              subst hQ
              exact k_zret hC (by omega) hr ⟨by decide, by decide⟩ (⟨_, 0, rfl, rfl, Or.inl ⟨by omega, rfl, (show ((0 : Int) = insV g a b d T x y) from (by unfold insV; exact (selI_0 (fun q => (hz_43.resolve_left (fun q1 => by omega)).2 q.2.1)).symm))⟩, ⟨⟨u 12, u 13, h_42⟩, ⟨⟨_, _, _, hl34⟩, _, _, hhx_35⟩, fun j hj => (hf34 j (by omega)).trans (hf30 j (by omega))⟩⟩) dX12_isInside_148
            · refine k_aload_n hC dX12_isInside_111 rfl 1 rfl ?_
              refine k_iconst hC dX12_isInside_112 ?_
              refine k_iconst hC dX12_isInside_113 ?_
              refine k_iconst hC dX12_isInside_114 ?_
              refine k_iload hC dX12_isInside_115 6 rfl ?_
              refine k_i2l hC dX12_isInside_117 (by omega) ?_
              refine k_iload hC dX12_isInside_118 7 rfl ?_
              refine k_i2l hC dX12_isInside_120 (by omega) ?_
              refine k_pureV hC (c_X12_isBeside021 l hls G hN w34 fl (kup u 5 0) (cE g a b T) (cN g a b T) (cE g a d T) (cN g a d T) (cE g b d T) (cN g b d T) x y (by omega) (by omega) (by omega) (by omega) (by omega) (by omega) (by omega) (by omega) h_42 hhx_35) yy_X12_isBeside wm_X12_285 (kl hN (by decide)) h_42 rfl rfl rfl rfl (Nat.le_of_ble_eq_true rfl) (by decide) (by decide) ⟨by decide, by decide⟩ dX12_isInside_121 ?_
              obtain ⟨z_44, ez_44, hz_44⟩ := k_bI (besP (cE g a b T) (cN g a b T) (cE g b d T) (cN g b d T) (cE g a d T) (cN g a d T) x y)
              refine k_topv (vI z_44) (by rw [ez_44]) ?_
              refine k_if_eq hC 147 dX12_isInside_124 rfl (by omega) (fun c_124 => ?_) (fun c_124 => ?_)
              · refine k_iconst hC dX12_isInside_147 ?_
                subst hQ
                exact k_zret hC (by omega) hr ⟨by decide, by decide⟩ (⟨_, 0, rfl, rfl, Or.inl ⟨by omega, rfl, (show ((0 : Int) = insV g a b d T x y) from (by unfold insV; exact (selI_0 (fun q => (hz_44.resolve_left (fun q1 => by omega)).2 q.2.2.1)).symm))⟩, ⟨⟨u 12, u 13, h_42⟩, ⟨⟨_, _, _, hl34⟩, _, _, hhx_35⟩, fun j hj => (hf34 j (by omega)).trans (hf30 j (by omega))⟩⟩) dX12_isInside_148
              · refine k_aload_n hC dX12_isInside_127 rfl 1 rfl ?_
                refine k_iconst hC dX12_isInside_128 ?_
                refine k_iconst hC dX12_isInside_129 ?_
                refine k_iconst hC dX12_isInside_130 ?_
                refine k_iload hC dX12_isInside_131 6 rfl ?_
                refine k_i2l hC dX12_isInside_133 (by omega) ?_
                refine k_iload hC dX12_isInside_134 7 rfl ?_
                refine k_i2l hC dX12_isInside_136 (by omega) ?_
                refine k_pureV hC (c_X12_isBeside120 l hls G hN w34 fl (kup u 5 0) (cE g a b T) (cN g a b T) (cE g a d T) (cN g a d T) (cE g b d T) (cN g b d T) x y (by omega) (by omega) (by omega) (by omega) (by omega) (by omega) (by omega) (by omega) h_42 hhx_35) yy_X12_isBeside wm_X12_285 (kl hN (by decide)) h_42 rfl rfl rfl rfl (Nat.le_of_ble_eq_true rfl) (by decide) (by decide) ⟨by decide, by decide⟩ dX12_isInside_137 ?_
                obtain ⟨z_45, ez_45, hz_45⟩ := k_bI (besP (cE g a d T) (cN g a d T) (cE g b d T) (cN g b d T) (cE g a b T) (cN g a b T) x y)
                refine k_topv (vI z_45) (by rw [ez_45]) ?_
                refine k_if_eq hC 147 dX12_isInside_140 rfl (by omega) (fun c_140 => ?_) (fun c_140 => ?_)
                · refine k_iconst hC dX12_isInside_147 ?_
                  subst hQ
                  exact k_zret hC (by omega) hr ⟨by decide, by decide⟩ (⟨_, 0, rfl, rfl, Or.inl ⟨by omega, rfl, (show ((0 : Int) = insV g a b d T x y) from (by unfold insV; exact (selI_0 (fun q => (hz_45.resolve_left (fun q1 => by omega)).2 q.2.2.2)).symm))⟩, ⟨⟨u 12, u 13, h_42⟩, ⟨⟨_, _, _, hl34⟩, _, _, hhx_35⟩, fun j hj => (hf34 j (by omega)).trans (hf30 j (by omega))⟩⟩) dX12_isInside_148
                · refine k_iconst hC dX12_isInside_143 ?_
                  refine k_goto hC 148 dX12_isInside_144 rfl ?_
                  subst hQ
                  exact k_zret hC (by omega) hr ⟨by decide, by decide⟩ (⟨_, 0, rfl, rfl, Or.inl ⟨by omega, rfl, (show ((1 : Int) = insV g a b d T x y) from (by unfold insV; exact (selI_1 ⟨hok, (hz_43.resolve_right (fun q => by omega)).2, (hz_44.resolve_right (fun q => by omega)).2, (hz_45.resolve_right (fun q => by omega)).2⟩).symm))⟩, ⟨⟨u 12, u 13, h_42⟩, ⟨⟨_, _, _, hl34⟩, _, _, hhx_35⟩, fun j hj => (hf34 j (by omega)).trans (hf30 j (by omega))⟩⟩) dX12_isInside_148
          · have nok : ¬ hatP g a b d := (hz34.resolve_left (fun q1 => by omega)).2
            refine k_iconst hC dX12_isInside_93 ?_
            have h_46 : w34 133 = .inr (12, [.ref (kad G 134), .ref (kad G 135), .ref (kad G 136), .ref (kad G 137), vI (u 4), vI 0, vI (u 6), .ref (kad G 138), .ref (kad G 139), .ref (kad G 140), .ref (kad G 141), .ref (kad G 142), vL (u 12), vL (u 13), .ref (kad G 143), vI (u 15), .ref (kad G 144), vI (u 17), vI (u 18), vI (u 19), vI (u 20), vI (u 21), vI (u 22), vI (u 23), vI (u 24), vI (u 25), .ref (kad G 145), .ref (kad G 146), .ref (kad G 147), vI (u 29)]) := (hf34 133 (by omega)).trans hw30
            subst hQ
            exact k_zret hC (by omega) hr ⟨by decide, by decide⟩ (⟨_, 0, rfl, rfl, Or.inl ⟨by omega, rfl, (show ((0 : Int) = insV g a b d T x y) from (by unfold insV; exact (selI_0 (fun q => nok q.1)).symm))⟩, ⟨⟨u 12, u 13, h_46⟩, ⟨⟨_, _, _, hl34⟩, _, _, hh34⟩, fun j hj => (hf34 j (by omega)).trans (hf30 j (by omega))⟩⟩) dX12_isInside_94
      · refine k_iconst hC dX12_isInside_48 ?_
        refine k_goto hC 71 dX12_isInside_49 rfl ?_
        refine k_put hC fd_X12_74 (kl hN (by decide)) hm [.ref (kad G 134), .ref (kad G 135), .ref (kad G 136), .ref (kad G 137), vI (u 4), vI 1, vI (u 6), .ref (kad G 138), .ref (kad G 139), .ref (kad G 140), .ref (kad G 141), .ref (kad G 142), vL (u 12), vL (u 13), .ref (kad G 143), vI (u 15), .ref (kad G 144), vI (u 17), vI (u 18), vI (u 19), vI (u 20), vI (u 21), vI (u 22), vI (u 23), vI (u 24), vI (u 25), .ref (kad G 145), .ref (kad G 146), .ref (kad G 147), vI (u 29)] rfl (Nat.le_of_ble_eq_true rfl) rfl rfl dX12_isInside_71 (fun w47 hw47 hf47 => ?_)
        refine k_aload_n hC dX12_isInside_74 rfl 1 rfl ?_
        refine k_get hC fd_X12_74 (kl hN (by decide)) hw47 rfl dX12_isInside_75 ?_
        refine k_if_ne hC 93 dX12_isInside_78 rfl (by omega) (fun c_78 => ?_) (fun c_78 => absurd c_78 (by omega))
        refine k_iconst hC dX12_isInside_93 ?_
        have hB_48 : kLns G w47 ls lc lo := hLs.fr (fun j q1 q2 => (hf47 j (by omega)))
        have hB_49 : kHts G w47 hx hy := hHt.fr (fun j q1 q2 => (hf47 j (by omega)))
        subst hQ
        exact k_zret hC (by omega) hr ⟨by decide, by decide⟩ (⟨_, 1, rfl, rfl, Or.inr (Or.inl ⟨by omega, rfl⟩), ⟨⟨u 12, u 13, hw47⟩, ⟨⟨_, _, _, hB_48⟩, _, _, hB_49⟩, fun j hj => hf47 j (by omega)⟩⟩) dX12_isInside_94

set_option maxRecDepth 100000 in
set_option maxHeartbeats 4000000 in
theorem c_X12_smallestHat (l : Launch) (hls : l.stackTraces = false) (G : kG) (hN : kN G = 150) (w : Nat → va_E) (fl : va_W) (u g : Nat → Int) (T : Int) (hT : -2147483648 ≤ T ∧ T ≤ 2147483647) (hI : Inv g) (hm : w 133 = mdO G u) (hn : w 134 = lA G 93 g) (hSc : kScr G w) : KM l G yX12_smallestHat cX12_smallestHat 8 (some (FieldType.int)) 14 0 0 [.ref (kad G 133), vI T] w fl (kRt (thR ((0 ≤ T ∧ T ≤ 5000)) (leastM g T) (False) 1 (¬ (0 ≤ T ∧ T ≤ 5000)) 1) fl (fun th w1 => mSt G w w1 u th)) := by
  refine KM_of2 hls (by decide +kernel) rfl (lv0 := [(0, .ref (kad G 133)), (1, vI T)]) rfl (Nat.le_of_ble_eq_true rfl) (fun p e R s m args below meth c Q hC hr hQ => ?_)
  obtain ⟨⟨ls, lc, lo, hLs⟩, hx, hy, hHt⟩ := hSc
  have h0 := hI.c
  refine k_aload_n hC dX12_smallestHat_0 rfl 0 rfl ?_
  refine k_iconst hC dX12_smallestHat_1 ?_
  refine k_put hC fd_X12_74 (kl hN (by decide)) hm [.ref (kad G 134), .ref (kad G 135), .ref (kad G 136), .ref (kad G 137), vI (u 4), vI 0, vI (u 6), .ref (kad G 138), .ref (kad G 139), .ref (kad G 140), .ref (kad G 141), .ref (kad G 142), vL (u 12), vL (u 13), .ref (kad G 143), vI (u 15), .ref (kad G 144), vI (u 17), vI (u 18), vI (u 19), vI (u 20), vI (u 21), vI (u 22), vI (u 23), vI (u 24), vI (u 25), .ref (kad G 145), .ref (kad G 146), .ref (kad G 147), vI (u 29)] rfl (Nat.le_of_ble_eq_true rfl) rfl rfl dX12_smallestHat_2 (fun w1 hw1 hf1 => ?_)
  refine k_aload_n hC dX12_smallestHat_5 rfl 0 rfl ?_
  refine k_iload_n hC dX12_smallestHat_6 rfl 1 rfl ?_
  have h_2 : w1 134 = lA G 93 g := (hf1 134 (by decide)).trans hn
  refine k_pureV hC (c_X12_isTime l hls G hN w1 fl (kup u 5 0) g T (by omega) hI hw1 h_2) yy_X12_isTime wm_X12_262 (kl hN (by decide)) hw1 rfl rfl rfl rfl (Nat.le_of_ble_eq_true rfl) (by decide) (by decide) ⟨by decide, by decide⟩ dX12_smallestHat_7 ?_
  obtain ⟨z_3, ez_3, hz_3⟩ := k_bI (0 ≤ T ∧ T ≤ 5000)
  refine k_topv (vI z_3) (by rw [ez_3]) ?_
  refine k_if_ne hC 19 dX12_smallestHat_10 rfl (by omega) (fun c_10 => ?_) (fun c_10 => ?_)
  · refine k_aload_n hC dX12_smallestHat_19 rfl 0 rfl ?_
    refine k_iload_n hC dX12_smallestHat_20 rfl 1 rfl ?_
    refine k_i2l hC dX12_smallestHat_21 (by omega) ?_
    have hB_4 : kLns G w1 ls lc lo := hLs.fr (fun j q1 q2 => (hf1 j (by omega)))
    refine k_muvV hC (c_X12_carryAll l hls G hN w1 fl (kup u 5 0) g ls lc lo T hI (by omega) hw1 h_2 hB_4) yy_X12_carryAll wm_X12_228 (kl hN (by decide)) hw1 rfl rfl rfl rfl (Nat.le_of_ble_eq_true rfl) (by decide) (by decide) ⟨by decide, by decide⟩ dX12_smallestHat_22 (fun w5 hp5 => ?_)
    obtain ⟨⟨ls5, lc5, lo5, hl5, hall5⟩, hf5⟩ := hp5
    have hall := hall5
    refine k_iconst hC dX12_smallestHat_25 ?_
    refine k_istore_n hC [(2, vI (-1)), (0, .ref (kad G 133)), (1, vI T)] dX12_smallestHat_26 rfl (by decide) rfl ?_
    refine k_lconst (x := 0) hC dX12_smallestHat_27 (by decide) ?_
    refine k_lstore_n hC [(3, vL 0), (2, vI (-1)), (0, .ref (kad G 133)), (1, vI T)] dX12_smallestHat_28 rfl (by decide) rfl ?_
    refine k_iconst hC dX12_smallestHat_29 ?_
    refine k_istore hC [(5, vI 0), (3, vL 0), (2, vI (-1)), (0, .ref (kad G 133)), (1, vI T)] dX12_smallestHat_30 (by decide) rfl ?_
    have ht : 0 ≤ T ∧ T ≤ 5000 := by omega
    have loop1 : ∀ (n1 : Nat) (a : Nat) (f : Int) (le : Int) (hxa1 : Nat → Int) (hya1 : Nat → Int) (wv1 : Nat → va_E), ((g 2).toNat < n1 + a) → (a ≤ (g 2).toNat) → ((-1 ≤ f ∧ f ≤ 200000) ∧ (0 ≤ le ∧ le ≤ 400000000)) → ((f, le) = lh1 g T (g 2).toNat a (-1, 0)) → (wv1 133 = .inr (12, [.ref (kad G 134), .ref (kad G 135), .ref (kad G 136), .ref (kad G 137), vI (u 4), vI 0, vI (u 6), .ref (kad G 138), .ref (kad G 139), .ref (kad G 140), .ref (kad G 141), .ref (kad G 142), vL (u 12), vL (u 13), .ref (kad G 143), vI (u 15), .ref (kad G 144), vI (u 17), vI (u 18), vI (u 19), vI (u 20), vI (u 21), vI (u 22), vI (u 23), vI (u 24), vI (u 25), .ref (kad G 145), .ref (kad G 146), .ref (kad G 147), vI (u 29)])) → (wv1 134 = lA G 93 g) → (kLns G wv1 ls5 lc5 lo5) → (kHts G wv1 hxa1 hya1) → ((∀ j, (j < 141 ∨ 142 < j) → wv1 j = w5 j)) → KW p l e R s m args below meth c 8 G Q wv1 fl 0 0 32 [(5, vI (a : Int)), (3, vL le), (2, vI f), (0, .ref (kad G 133)), (1, vI T)] [] := by
      intro n1
      induction n1 with
      | zero =>
        intro a f le hxa1 hya1 wv1 hn_1 ha hst hq hm1 hn1 hLs1 hHt1 hfr1
        exact absurd hn_1 (by omega)
      | succ n1 ih1 =>
        intro a f le hxa1 hya1 wv1 hn_1 ha hst hq hm1 hn1 hLs1 hHt1 hfr1
        refine k_iload hC dX12_smallestHat_32 0 rfl ?_
        refine k_i2l hC dX12_smallestHat_34 (by omega) ?_
        refine k_aload_n hC dX12_smallestHat_35 rfl 3 rfl ?_
        refine k_get hC fd_X12_9 (kl hN (by decide)) hm1 rfl dX12_smallestHat_36 ?_
        refine k_iconst hC dX12_smallestHat_39 ?_
        refine k_lald hC (kl hN (by decide)) hn1 (by omega) (by decide) dX12_smallestHat_40 ?_
        refine k_topv (vL (g 2)) rfl ?_
        refine k_lcmp_ge hC 149 dX12_smallestHat_41 dX12_smallestHat_42 rfl (by omega) (by omega) (fun c_41 => ?_) (fun c_41 => ?_)
        · refine k_iload_n hC dX12_smallestHat_149 rfl 2 rfl ?_
          subst hQ
          exact k_iret hC hr ⟨by decide, by decide⟩ (⟨_, 0, rfl, rfl, Or.inl ⟨by omega, rfl, (show ((f : Int) = leastM g T) from (by unfold leastM; rw [show (lh1 g T (g 2).toNat (g 2).toNat (-1, 0)) = (f, le) from by rw [hq, show a = (g 2).toNat by omega]]))⟩, ⟨⟨u 12, u 13, hm1⟩, ⟨⟨_, _, _, hLs1⟩, _, _, hHt1⟩, fun j hj => (hfr1 j (by omega)).trans ((hf5 j (by omega)).trans (hf1 j (by omega)))⟩⟩) dX12_smallestHat_150
        · refine k_iload hC dX12_smallestHat_45 0 rfl ?_
          refine k_iconst hC dX12_smallestHat_47 ?_
          refine k_iadd hC dX12_smallestHat_48 ?_
          refine k_istore hC [(6, vI ((a : Int) + 1)), (5, vI (a : Int)), (3, vL le), (2, vI f), (0, .ref (kad G 133)), (1, vI T)] dX12_smallestHat_49 (by decide) rfl ?_
          have loop2 : ∀ (n2 : Nat) (b : Nat) (f2 : Int) (le2 : Int) (hxa2 : Nat → Int) (hya2 : Nat → Int) (wv2 : Nat → va_E), ((g 2).toNat < n2 + (a + 1 + b)) → (a + 1 + b ≤ (g 2).toNat) → ((-1 ≤ f2 ∧ f2 ≤ 200000) ∧ (0 ≤ le2 ∧ le2 ≤ 400000000)) → ((f2, le2) = lh2 g T (g 2).toNat a (a + 1) b (f, le)) → (wv2 133 = .inr (12, [.ref (kad G 134), .ref (kad G 135), .ref (kad G 136), .ref (kad G 137), vI (u 4), vI 0, vI (u 6), .ref (kad G 138), .ref (kad G 139), .ref (kad G 140), .ref (kad G 141), .ref (kad G 142), vL (u 12), vL (u 13), .ref (kad G 143), vI (u 15), .ref (kad G 144), vI (u 17), vI (u 18), vI (u 19), vI (u 20), vI (u 21), vI (u 22), vI (u 23), vI (u 24), vI (u 25), .ref (kad G 145), .ref (kad G 146), .ref (kad G 147), vI (u 29)])) → (wv2 134 = lA G 93 g) → (kLns G wv2 ls5 lc5 lo5) → (kHts G wv2 hxa2 hya2) → ((∀ j, (j < 141 ∨ 142 < j) → wv2 j = w5 j)) → KW p l e R s m args below meth c 8 G Q wv2 fl 0 0 51 [(6, vI ((a + 1 + b : Nat) : Int)), (5, vI (a : Int)), (3, vL le2), (2, vI f2), (0, .ref (kad G 133)), (1, vI T)] [] := by
            intro n2
            induction n2 with
            | zero =>
              intro b f2 le2 hxa2 hya2 wv2 hn_2 hb hst2 hq2 hm2 hn2 hLs2 hHt2 hfr2
              exact absurd hn_2 (by omega)
            | succ n2 ih2 =>
              intro b f2 le2 hxa2 hya2 wv2 hn_2 hb hst2 hq2 hm2 hn2 hLs2 hHt2 hfr2
              refine k_iload hC dX12_smallestHat_51 0 rfl ?_
              refine k_i2l hC dX12_smallestHat_53 (by omega) ?_
              refine k_aload_n hC dX12_smallestHat_54 rfl 4 rfl ?_
              refine k_get hC fd_X12_9 (kl hN (by decide)) hm2 rfl dX12_smallestHat_55 ?_
              refine k_iconst hC dX12_smallestHat_58 ?_
              refine k_lald hC (kl hN (by decide)) hn2 (by omega) (by decide) dX12_smallestHat_59 ?_
              refine k_topv (vL (g 2)) rfl ?_
              refine k_lcmp_ge hC 143 dX12_smallestHat_60 dX12_smallestHat_61 rfl (by omega) (by omega) (fun c_60 => ?_) (fun c_60 => ?_)
              · refine k_iinc hC (y := (a : Int) + 1) [(5, vI ((a : Int) + 1)), (6, vI ((a + 1 + b : Nat) : Int)), (3, vL le2), (2, vI f2), (0, .ref (kad G 133)), (1, vI T)] (j := 1) dX12_smallestHat_143 rfl (by omega) (by decide) rfl ?_
                refine k_goto hC 32 dX12_smallestHat_146 rfl ?_
                refine k_lvs (ls := [0, 2, 3, 4, 5]) [(5, vI ((a : Int) + 1)), (3, vL le2), (2, vI f2), (0, .ref (kad G 133)), (1, vI T)] rfl ?_
                refine k_lvs (ls := [0, 1, 2, 3, 4]) [(5, vI ((a + 1 : Nat) : Int)), (3, vL le2), (2, vI f2), (0, .ref (kad G 133)), (1, vI T)] (by simp only [lv_pick]; rfl) ?_
                exact ih1 (a + 1) f2 le2 hxa2 hya2 wv2 (by omega) (by omega) (by omega) (by show _ = lh2 g T (g 2).toNat a (a + 1) ((g 2).toNat - (a + 1)) _; rw [← hq, show (g 2).toNat - (a + 1) = b by omega]; exact hq2) hm2 hn2 hLs2 hHt2 (fun j hj => hfr2 j (by omega))
              · refine k_iload hC dX12_smallestHat_64 0 rfl ?_
                refine k_iconst hC dX12_smallestHat_66 ?_
                refine k_iadd hC dX12_smallestHat_67 ?_
                refine k_istore hC [(7, vI (((a + 1 + b : Nat) : Int) + 1)), (6, vI ((a + 1 + b : Nat) : Int)), (5, vI (a : Int)), (3, vL le2), (2, vI f2), (0, .ref (kad G 133)), (1, vI T)] dX12_smallestHat_68 (by decide) rfl ?_
                have loop3 : ∀ (n3 : Nat) (d : Nat) (f3 : Int) (le3 : Int) (hxa3 : Nat → Int) (hya3 : Nat → Int) (wv3 : Nat → va_E), ((g 2).toNat < n3 + (a + 1 + b + 1 + d)) → (a + 1 + b + 1 + d ≤ (g 2).toNat) → ((-1 ≤ f3 ∧ f3 ≤ 200000) ∧ (0 ≤ le3 ∧ le3 ≤ 400000000)) → ((f3, le3) = lh3 g T a (a + 1 + b) (a + 1 + b + 1) d (f2, le2)) → (wv3 133 = .inr (12, [.ref (kad G 134), .ref (kad G 135), .ref (kad G 136), .ref (kad G 137), vI (u 4), vI 0, vI (u 6), .ref (kad G 138), .ref (kad G 139), .ref (kad G 140), .ref (kad G 141), .ref (kad G 142), vL (u 12), vL (u 13), .ref (kad G 143), vI (u 15), .ref (kad G 144), vI (u 17), vI (u 18), vI (u 19), vI (u 20), vI (u 21), vI (u 22), vI (u 23), vI (u 24), vI (u 25), .ref (kad G 145), .ref (kad G 146), .ref (kad G 147), vI (u 29)])) → (wv3 134 = lA G 93 g) → (kLns G wv3 ls5 lc5 lo5) → (kHts G wv3 hxa3 hya3) → ((∀ j, (j < 141 ∨ 142 < j) → wv3 j = w5 j)) → KW p l e R s m args below meth c 8 G Q wv3 fl 0 0 70 [(7, vI ((a + 1 + b + 1 + d : Nat) : Int)), (6, vI ((a + 1 + b : Nat) : Int)), (5, vI (a : Int)), (3, vL le3), (2, vI f3), (0, .ref (kad G 133)), (1, vI T)] [] := by
                  intro n3
                  induction n3 with
                  | zero =>
                    intro d f3 le3 hxa3 hya3 wv3 hn_3 hd hst3 hq3 hm3 hn3 hLs3 hHt3 hfr3
                    exact absurd hn_3 (by omega)
                  | succ n3 ih3 =>
                    intro d f3 le3 hxa3 hya3 wv3 hn_3 hd hst3 hq3 hm3 hn3 hLs3 hHt3 hfr3
                    refine k_iload hC dX12_smallestHat_70 0 rfl ?_
                    refine k_i2l hC dX12_smallestHat_72 (by omega) ?_
                    refine k_aload_n hC dX12_smallestHat_73 rfl 5 rfl ?_
                    refine k_get hC fd_X12_9 (kl hN (by decide)) hm3 rfl dX12_smallestHat_74 ?_
                    refine k_iconst hC dX12_smallestHat_77 ?_
                    refine k_lald hC (kl hN (by decide)) hn3 (by omega) (by decide) dX12_smallestHat_78 ?_
                    refine k_topv (vL (g 2)) rfl ?_
                    refine k_lcmp_ge hC 137 dX12_smallestHat_79 dX12_smallestHat_80 rfl (by omega) (by omega) (fun c_79 => ?_) (fun c_79 => ?_)
                    · refine k_iinc hC (y := ((a + 1 + b : Nat) : Int) + 1) [(6, vI (((a + 1 + b : Nat) : Int) + 1)), (7, vI ((a + 1 + b + 1 + d : Nat) : Int)), (5, vI (a : Int)), (3, vL le3), (2, vI f3), (0, .ref (kad G 133)), (1, vI T)] (j := 1) dX12_smallestHat_137 rfl (by omega) (by decide) rfl ?_
                      refine k_goto hC 51 dX12_smallestHat_140 rfl ?_
                      refine k_lvs (ls := [0, 2, 3, 4, 5, 6]) [(6, vI (((a + 1 + b : Nat) : Int) + 1)), (5, vI (a : Int)), (3, vL le3), (2, vI f3), (0, .ref (kad G 133)), (1, vI T)] rfl ?_
                      refine k_lvs (ls := [0, 1, 2, 3, 4, 5]) [(6, vI ((a + 1 + (b + 1) : Nat) : Int)), (5, vI (a : Int)), (3, vL le3), (2, vI f3), (0, .ref (kad G 133)), (1, vI T)] (by simp only [lv_pick]; rfl) ?_
                      exact ih2 (b + 1) f3 le3 hxa3 hya3 wv3 (by omega) (by omega) (by omega) (by show _ = lh3 g T a (a + 1 + b) (a + 1 + b + 1) ((g 2).toNat - (a + 1 + b + 1)) _; rw [← hq2, show (g 2).toNat - (a + 1 + b + 1) = d by omega]; exact hq3) hm3 hn3 hLs3 hHt3 (fun j hj => hfr3 j (by omega))
                    · refine k_aload_n hC dX12_smallestHat_83 rfl 5 rfl ?_
                      refine k_iload hC dX12_smallestHat_84 2 rfl ?_
                      refine k_iload hC dX12_smallestHat_86 1 rfl ?_
                      refine k_iload hC dX12_smallestHat_88 0 rfl ?_
                      refine k_mutV hC (c_X12_layHat l hls G hN wv3 fl (kup u 5 0) g ls5 lc5 lo5 hxa3 hya3 a (a + 1 + b) (a + 1 + b + 1 + d) T (by omega) (by omega) (by omega) (hall a (by omega)) (hall (a + 1 + b) (by omega)) (hall (a + 1 + b + 1 + d) (by omega)) ht hI hm3 hn3 hLs3 hHt3) yy_X12_layHat wm_X12_269 (kl hN (by decide)) hm3 rfl rfl rfl rfl (Nat.le_of_ble_eq_true rfl) (by decide) (by decide) ⟨by decide, by decide⟩ dX12_smallestHat_90 (fun w6 hp6 => ?_)
                      obtain ⟨⟨hx6, hy6, hh6, hxy6⟩, hf6⟩ := hp6
                      obtain ⟨z6, ez6, hz6⟩ := selI_c (hatP g a (a + 1 + b) (a + 1 + b + 1 + d))
                      refine k_topv (vI z6) (by rw [ez6]) ?_
                      refine k_if_eq hC 131 dX12_smallestHat_93 rfl (by omega) (fun c_93 => ?_) (fun c_93 => ?_)
                      · have nok : ¬ hatP g a (a + 1 + b) (a + 1 + b + 1 + d) := (hz6.resolve_left (fun q1 => by omega)).2
                        refine k_iinc hC (y := ((a + 1 + b + 1 + d : Nat) : Int) + 1) [(7, vI (((a + 1 + b + 1 + d : Nat) : Int) + 1)), (6, vI ((a + 1 + b : Nat) : Int)), (5, vI (a : Int)), (3, vL le3), (2, vI f3), (0, .ref (kad G 133)), (1, vI T)] (j := 0) dX12_smallestHat_131 rfl (by omega) (by decide) rfl ?_
                        refine k_goto hC 70 dX12_smallestHat_134 rfl ?_
                        refine k_lvs (ls := [0, 1, 2, 3, 4, 5, 6]) [(7, vI ((a + 1 + b + 1 + (d + 1) : Nat) : Int)), (6, vI ((a + 1 + b : Nat) : Int)), (5, vI (a : Int)), (3, vL le3), (2, vI f3), (0, .ref (kad G 133)), (1, vI T)] (by simp only [lv_pick]; rfl) ?_
                        have h_7 : w6 133 = .inr (12, [.ref (kad G 134), .ref (kad G 135), .ref (kad G 136), .ref (kad G 137), vI (u 4), vI 0, vI (u 6), .ref (kad G 138), .ref (kad G 139), .ref (kad G 140), .ref (kad G 141), .ref (kad G 142), vL (u 12), vL (u 13), .ref (kad G 143), vI (u 15), .ref (kad G 144), vI (u 17), vI (u 18), vI (u 19), vI (u 20), vI (u 21), vI (u 22), vI (u 23), vI (u 24), vI (u 25), .ref (kad G 145), .ref (kad G 146), .ref (kad G 147), vI (u 29)]) := (hf6 133 (by omega)).trans hm3
                        have h_8 : w6 134 = lA G 93 g := (hf6 134 (by omega)).trans hn3
                        have hB_9 : kLns G w6 ls5 lc5 lo5 := hLs3.fr (fun j q1 q2 => (hf6 j (by omega)))
                        exact ih3 (d + 1) f3 le3 hx6 hy6 w6 (by omega) (by omega) (by omega) (by show _ = lhS g T a (a + 1 + b) (a + 1 + b + 1 + d) _; rw [← hq3]; unfold lhS; rw [if_neg (fun q => by first | exact nok q.1 | (have q2 := q.2; have q3 : (f3, le3).1 = f3 := rfl; have q4 : (f3, le3).2 = le3 := rfl; rw [q3, q4] at q2; omega))]) h_7 h_8 hB_9 hh6 (fun j hj => (hf6 j (by omega)).trans (hfr3 j (by omega)))
                      · have hok : hatP g a (a + 1 + b) (a + 1 + b + 1 + d) := (hz6.resolve_right (fun q1 => by omega)).2
                        have hhx_10 : kHts G w6 (htX g a (a + 1 + b) (a + 1 + b + 1 + d) T) (htY g a (a + 1 + b) (a + 1 + b + 1 + d) T) := by have q := hh6; rw [(hxy6 hok).1, (hxy6 hok).2] at q; exact q
                        have hcE_11 := cE_b g a (a + 1 + b) T
                        have hcN_12 := cN_b g a (a + 1 + b) T
                        have hcE_13 := cE_b g a (a + 1 + b + 1 + d) T
                        have hcN_14 := cN_b g a (a + 1 + b + 1 + d) T
                        have hcE_15 := cE_b g (a + 1 + b) (a + 1 + b + 1 + d) T
                        have hcN_16 := cN_b g (a + 1 + b) (a + 1 + b + 1 + d) T
                        have hha := hatA_b g a (a + 1 + b) (a + 1 + b + 1 + d) T
                        refine k_iload_n hC dX12_smallestHat_96 rfl 4 rfl ?_
                        refine k_iconst hC dX12_smallestHat_97 ?_
                        refine k_icmp_eq hC 110 dX12_smallestHat_98 rfl (by omega) (by omega) (fun c_98 => ?_) (fun c_98 => ?_)
                        · refine k_sipush hC dX12_smallestHat_110 (by decide) ?_
                          refine k_iload hC dX12_smallestHat_113 2 rfl ?_
                          refine k_imul hC dX12_smallestHat_115 ?_
                          refine k_bipush hC dX12_smallestHat_116 (by decide) ?_
                          refine k_iload hC dX12_smallestHat_118 1 rfl ?_
                          refine k_imul hC dX12_smallestHat_120 ?_
                          refine k_iadd hC dX12_smallestHat_121 ?_
                          refine k_iload hC dX12_smallestHat_122 0 rfl ?_
                          refine k_iadd hC dX12_smallestHat_124 ?_
                          refine k_istore_n hC [(2, vI (((10000 * (a : Int)) + (100 * ((a + 1 + b : Nat) : Int))) + ((a + 1 + b + 1 + d : Nat) : Int))), (7, vI ((a + 1 + b + 1 + d : Nat) : Int)), (6, vI ((a + 1 + b : Nat) : Int)), (5, vI (a : Int)), (3, vL le3), (0, .ref (kad G 133)), (1, vI T)] dX12_smallestHat_125 rfl (by decide) rfl ?_
                          refine k_aload_n hC dX12_smallestHat_126 rfl 5 rfl ?_
                          have h_17 : w6 133 = .inr (12, [.ref (kad G 134), .ref (kad G 135), .ref (kad G 136), .ref (kad G 137), vI (u 4), vI 0, vI (u 6), .ref (kad G 138), .ref (kad G 139), .ref (kad G 140), .ref (kad G 141), .ref (kad G 142), vL (u 12), vL (u 13), .ref (kad G 143), vI (u 15), .ref (kad G 144), vI (u 17), vI (u 18), vI (u 19), vI (u 20), vI (u 21), vI (u 22), vI (u 23), vI (u 24), vI (u 25), .ref (kad G 145), .ref (kad G 146), .ref (kad G 147), vI (u 29)]) := (hf6 133 (by omega)).trans hm3
                          refine k_pureV hC (c_X12_hatArea l hls G hN w6 fl (kup u 5 0) (cE g a (a + 1 + b) T) (cN g a (a + 1 + b) T) (cE g a (a + 1 + b + 1 + d) T) (cN g a (a + 1 + b + 1 + d) T) (cE g (a + 1 + b) (a + 1 + b + 1 + d) T) (cN g (a + 1 + b) (a + 1 + b + 1 + d) T) (by omega) (by omega) (by omega) (by omega) (by omega) (by omega) h_17 hhx_10) yy_X12_hatArea wm_X12_282 (kl hN (by decide)) h_17 rfl rfl rfl rfl (Nat.le_of_ble_eq_true rfl) (by decide) (by decide) ⟨by decide, by decide⟩ dX12_smallestHat_127 ?_
                          refine k_topv (vL (hatA g a (a + 1 + b) (a + 1 + b + 1 + d) T)) rfl ?_
                          refine k_lstore_n hC [(3, vL (hatA g a (a + 1 + b) (a + 1 + b + 1 + d) T)), (2, vI (((10000 * (a : Int)) + (100 * ((a + 1 + b : Nat) : Int))) + ((a + 1 + b + 1 + d : Nat) : Int))), (7, vI ((a + 1 + b + 1 + d : Nat) : Int)), (6, vI ((a + 1 + b : Nat) : Int)), (5, vI (a : Int)), (0, .ref (kad G 133)), (1, vI T)] dX12_smallestHat_130 rfl (by decide) rfl ?_
                          refine k_iinc hC (y := ((a + 1 + b + 1 + d : Nat) : Int) + 1) [(7, vI (((a + 1 + b + 1 + d : Nat) : Int) + 1)), (3, vL (hatA g a (a + 1 + b) (a + 1 + b + 1 + d) T)), (2, vI (((10000 * (a : Int)) + (100 * ((a + 1 + b : Nat) : Int))) + ((a + 1 + b + 1 + d : Nat) : Int))), (6, vI ((a + 1 + b : Nat) : Int)), (5, vI (a : Int)), (0, .ref (kad G 133)), (1, vI T)] (j := 2) dX12_smallestHat_131 rfl (by omega) (by decide) rfl ?_
                          refine k_goto hC 70 dX12_smallestHat_134 rfl ?_
                          refine k_lvs (ls := [0, 3, 4, 1, 2, 5, 6]) [(7, vI (((a + 1 + b + 1 + d : Nat) : Int) + 1)), (6, vI ((a + 1 + b : Nat) : Int)), (5, vI (a : Int)), (3, vL (hatA g a (a + 1 + b) (a + 1 + b + 1 + d) T)), (2, vI (((10000 * (a : Int)) + (100 * ((a + 1 + b : Nat) : Int))) + ((a + 1 + b + 1 + d : Nat) : Int))), (0, .ref (kad G 133)), (1, vI T)] rfl ?_
                          refine k_lvs (ls := [0, 1, 2, 3, 4, 5, 6]) [(7, vI ((a + 1 + b + 1 + (d + 1) : Nat) : Int)), (6, vI ((a + 1 + b : Nat) : Int)), (5, vI (a : Int)), (3, vL (hatA g a (a + 1 + b) (a + 1 + b + 1 + d) T)), (2, vI (((10000 * (a : Int)) + (100 * ((a + 1 + b : Nat) : Int))) + ((a + 1 + b + 1 + d : Nat) : Int))), (0, .ref (kad G 133)), (1, vI T)] (by simp only [lv_pick]; rfl) ?_
                          have h_18 : w6 134 = lA G 93 g := (hf6 134 (by omega)).trans hn3
                          have hB_19 : kLns G w6 ls5 lc5 lo5 := hLs3.fr (fun j q1 q2 => (hf6 j (by omega)))
                          exact ih3 (d + 1) (((10000 * (a : Int)) + (100 * ((a + 1 + b : Nat) : Int))) + ((a + 1 + b + 1 + d : Nat) : Int)) (hatA g a (a + 1 + b) (a + 1 + b + 1 + d) T) (htX g a (a + 1 + b) (a + 1 + b + 1 + d) T) (htY g a (a + 1 + b) (a + 1 + b + 1 + d) T) w6 (by omega) (by omega) (by omega) (by show _ = lhS g T a (a + 1 + b) (a + 1 + b + 1 + d) _; rw [← hq3]; unfold lhS; rw [if_pos ⟨hok, (by show f3 = -1 ∨ hatA g a (a + 1 + b) (a + 1 + b + 1 + d) T < le3; omega)⟩]; rfl) h_17 h_18 hB_19 hhx_10 (fun j hj => (hf6 j (by omega)).trans (hfr3 j (by omega)))
                        · refine k_aload_n hC dX12_smallestHat_101 rfl 5 rfl ?_
                          have h_20 : w6 133 = .inr (12, [.ref (kad G 134), .ref (kad G 135), .ref (kad G 136), .ref (kad G 137), vI (u 4), vI 0, vI (u 6), .ref (kad G 138), .ref (kad G 139), .ref (kad G 140), .ref (kad G 141), .ref (kad G 142), vL (u 12), vL (u 13), .ref (kad G 143), vI (u 15), .ref (kad G 144), vI (u 17), vI (u 18), vI (u 19), vI (u 20), vI (u 21), vI (u 22), vI (u 23), vI (u 24), vI (u 25), .ref (kad G 145), .ref (kad G 146), .ref (kad G 147), vI (u 29)]) := (hf6 133 (by omega)).trans hm3
                          refine k_pureV hC (c_X12_hatArea l hls G hN w6 fl (kup u 5 0) (cE g a (a + 1 + b) T) (cN g a (a + 1 + b) T) (cE g a (a + 1 + b + 1 + d) T) (cN g a (a + 1 + b + 1 + d) T) (cE g (a + 1 + b) (a + 1 + b + 1 + d) T) (cN g (a + 1 + b) (a + 1 + b + 1 + d) T) (by omega) (by omega) (by omega) (by omega) (by omega) (by omega) h_20 hhx_10) yy_X12_hatArea wm_X12_282 (kl hN (by decide)) h_20 rfl rfl rfl rfl (Nat.le_of_ble_eq_true rfl) (by decide) (by decide) ⟨by decide, by decide⟩ dX12_smallestHat_102 ?_
                          refine k_topv (vL (hatA g a (a + 1 + b) (a + 1 + b + 1 + d) T)) rfl ?_
                          refine k_lload_n hC dX12_smallestHat_105 rfl 3 rfl ?_
                          refine k_lcmp_ge hC 131 dX12_smallestHat_106 dX12_smallestHat_107 rfl (by omega) (by omega) (fun c_106 => ?_) (fun c_106 => ?_)
                          · refine k_iinc hC (y := ((a + 1 + b + 1 + d : Nat) : Int) + 1) [(7, vI (((a + 1 + b + 1 + d : Nat) : Int) + 1)), (6, vI ((a + 1 + b : Nat) : Int)), (5, vI (a : Int)), (3, vL le3), (2, vI f3), (0, .ref (kad G 133)), (1, vI T)] (j := 0) dX12_smallestHat_131 rfl (by omega) (by decide) rfl ?_
                            refine k_goto hC 70 dX12_smallestHat_134 rfl ?_
                            refine k_lvs (ls := [0, 1, 2, 3, 4, 5, 6]) [(7, vI ((a + 1 + b + 1 + (d + 1) : Nat) : Int)), (6, vI ((a + 1 + b : Nat) : Int)), (5, vI (a : Int)), (3, vL le3), (2, vI f3), (0, .ref (kad G 133)), (1, vI T)] (by simp only [lv_pick]; rfl) ?_
                            have h_21 : w6 134 = lA G 93 g := (hf6 134 (by omega)).trans hn3
                            have hB_22 : kLns G w6 ls5 lc5 lo5 := hLs3.fr (fun j q1 q2 => (hf6 j (by omega)))
                            exact ih3 (d + 1) f3 le3 (htX g a (a + 1 + b) (a + 1 + b + 1 + d) T) (htY g a (a + 1 + b) (a + 1 + b + 1 + d) T) w6 (by omega) (by omega) (by omega) (by show _ = lhS g T a (a + 1 + b) (a + 1 + b + 1 + d) _; rw [← hq3]; unfold lhS; rw [if_neg (fun q => by first | exact nok q.1 | (have q2 := q.2; have q3 : (f3, le3).1 = f3 := rfl; have q4 : (f3, le3).2 = le3 := rfl; rw [q3, q4] at q2; omega))]) h_20 h_21 hB_22 hhx_10 (fun j hj => (hf6 j (by omega)).trans (hfr3 j (by omega)))
                          · refine k_sipush hC dX12_smallestHat_110 (by decide) ?_
                            refine k_iload hC dX12_smallestHat_113 2 rfl ?_
                            refine k_imul hC dX12_smallestHat_115 ?_
                            refine k_bipush hC dX12_smallestHat_116 (by decide) ?_
                            refine k_iload hC dX12_smallestHat_118 1 rfl ?_
                            refine k_imul hC dX12_smallestHat_120 ?_
                            refine k_iadd hC dX12_smallestHat_121 ?_
                            refine k_iload hC dX12_smallestHat_122 0 rfl ?_
                            refine k_iadd hC dX12_smallestHat_124 ?_
                            refine k_istore_n hC [(2, vI (((10000 * (a : Int)) + (100 * ((a + 1 + b : Nat) : Int))) + ((a + 1 + b + 1 + d : Nat) : Int))), (7, vI ((a + 1 + b + 1 + d : Nat) : Int)), (6, vI ((a + 1 + b : Nat) : Int)), (5, vI (a : Int)), (3, vL le3), (0, .ref (kad G 133)), (1, vI T)] dX12_smallestHat_125 rfl (by decide) rfl ?_
                            refine k_aload_n hC dX12_smallestHat_126 rfl 5 rfl ?_
                            refine k_pureV hC (c_X12_hatArea l hls G hN w6 fl (kup u 5 0) (cE g a (a + 1 + b) T) (cN g a (a + 1 + b) T) (cE g a (a + 1 + b + 1 + d) T) (cN g a (a + 1 + b + 1 + d) T) (cE g (a + 1 + b) (a + 1 + b + 1 + d) T) (cN g (a + 1 + b) (a + 1 + b + 1 + d) T) (by omega) (by omega) (by omega) (by omega) (by omega) (by omega) h_20 hhx_10) yy_X12_hatArea wm_X12_282 (kl hN (by decide)) h_20 rfl rfl rfl rfl (Nat.le_of_ble_eq_true rfl) (by decide) (by decide) ⟨by decide, by decide⟩ dX12_smallestHat_127 ?_
                            refine k_topv (vL (hatA g a (a + 1 + b) (a + 1 + b + 1 + d) T)) rfl ?_
                            refine k_lstore_n hC [(3, vL (hatA g a (a + 1 + b) (a + 1 + b + 1 + d) T)), (2, vI (((10000 * (a : Int)) + (100 * ((a + 1 + b : Nat) : Int))) + ((a + 1 + b + 1 + d : Nat) : Int))), (7, vI ((a + 1 + b + 1 + d : Nat) : Int)), (6, vI ((a + 1 + b : Nat) : Int)), (5, vI (a : Int)), (0, .ref (kad G 133)), (1, vI T)] dX12_smallestHat_130 rfl (by decide) rfl ?_
                            refine k_iinc hC (y := ((a + 1 + b + 1 + d : Nat) : Int) + 1) [(7, vI (((a + 1 + b + 1 + d : Nat) : Int) + 1)), (3, vL (hatA g a (a + 1 + b) (a + 1 + b + 1 + d) T)), (2, vI (((10000 * (a : Int)) + (100 * ((a + 1 + b : Nat) : Int))) + ((a + 1 + b + 1 + d : Nat) : Int))), (6, vI ((a + 1 + b : Nat) : Int)), (5, vI (a : Int)), (0, .ref (kad G 133)), (1, vI T)] (j := 2) dX12_smallestHat_131 rfl (by omega) (by decide) rfl ?_
                            refine k_goto hC 70 dX12_smallestHat_134 rfl ?_
                            refine k_lvs (ls := [0, 3, 4, 1, 2, 5, 6]) [(7, vI (((a + 1 + b + 1 + d : Nat) : Int) + 1)), (6, vI ((a + 1 + b : Nat) : Int)), (5, vI (a : Int)), (3, vL (hatA g a (a + 1 + b) (a + 1 + b + 1 + d) T)), (2, vI (((10000 * (a : Int)) + (100 * ((a + 1 + b : Nat) : Int))) + ((a + 1 + b + 1 + d : Nat) : Int))), (0, .ref (kad G 133)), (1, vI T)] rfl ?_
                            refine k_lvs (ls := [0, 1, 2, 3, 4, 5, 6]) [(7, vI ((a + 1 + b + 1 + (d + 1) : Nat) : Int)), (6, vI ((a + 1 + b : Nat) : Int)), (5, vI (a : Int)), (3, vL (hatA g a (a + 1 + b) (a + 1 + b + 1 + d) T)), (2, vI (((10000 * (a : Int)) + (100 * ((a + 1 + b : Nat) : Int))) + ((a + 1 + b + 1 + d : Nat) : Int))), (0, .ref (kad G 133)), (1, vI T)] (by simp only [lv_pick]; rfl) ?_
                            have h_23 : w6 134 = lA G 93 g := (hf6 134 (by omega)).trans hn3
                            have hB_24 : kLns G w6 ls5 lc5 lo5 := hLs3.fr (fun j q1 q2 => (hf6 j (by omega)))
                            exact ih3 (d + 1) (((10000 * (a : Int)) + (100 * ((a + 1 + b : Nat) : Int))) + ((a + 1 + b + 1 + d : Nat) : Int)) (hatA g a (a + 1 + b) (a + 1 + b + 1 + d) T) (htX g a (a + 1 + b) (a + 1 + b + 1 + d) T) (htY g a (a + 1 + b) (a + 1 + b + 1 + d) T) w6 (by omega) (by omega) (by omega) (by show _ = lhS g T a (a + 1 + b) (a + 1 + b + 1 + d) _; rw [← hq3]; unfold lhS; rw [if_pos ⟨hok, (by show f3 = -1 ∨ hatA g a (a + 1 + b) (a + 1 + b + 1 + d) T < le3; omega)⟩]; rfl) h_20 h_23 hB_24 hhx_10 (fun j hj => (hf6 j (by omega)).trans (hfr3 j (by omega)))
                refine k_lvs (ls := [0, 1, 2, 3, 4, 5, 6]) [(7, vI ((a + 1 + b + 1 + 0 : Nat) : Int)), (6, vI ((a + 1 + b : Nat) : Int)), (5, vI (a : Int)), (3, vL le2), (2, vI f2), (0, .ref (kad G 133)), (1, vI T)] (by simp only [lv_pick]; rfl) ?_
                exact loop3 ((g 2).toNat + 1) 0 f2 le2 hxa2 hya2 wv2 (by omega) (by omega) hst2 rfl hm2 hn2 hLs2 hHt2 (fun j hj => hfr2 j (by omega))
          refine k_lvs (ls := [0, 1, 2, 3, 4, 5]) [(6, vI ((a + 1 + 0 : Nat) : Int)), (5, vI (a : Int)), (3, vL le), (2, vI f), (0, .ref (kad G 133)), (1, vI T)] (by simp only [lv_pick]; rfl) ?_
          exact loop2 ((g 2).toNat + 1) 0 f le hxa1 hya1 wv1 (by omega) (by omega) hst rfl hm1 hn1 hLs1 hHt1 (fun j hj => hfr1 j (by omega))
    refine k_lvs (ls := [0, 1, 2, 3, 4]) [(5, vI ((0 : Nat) : Int)), (3, vL 0), (2, vI (-1)), (0, .ref (kad G 133)), (1, vI T)] (by simp only [lv_pick]; rfl) ?_
    have h_25 : w5 133 = .inr (12, [.ref (kad G 134), .ref (kad G 135), .ref (kad G 136), .ref (kad G 137), vI (u 4), vI 0, vI (u 6), .ref (kad G 138), .ref (kad G 139), .ref (kad G 140), .ref (kad G 141), .ref (kad G 142), vL (u 12), vL (u 13), .ref (kad G 143), vI (u 15), .ref (kad G 144), vI (u 17), vI (u 18), vI (u 19), vI (u 20), vI (u 21), vI (u 22), vI (u 23), vI (u 24), vI (u 25), .ref (kad G 145), .ref (kad G 146), .ref (kad G 147), vI (u 29)]) := (hf5 133 (by omega)).trans hw1
    have h_26 : w5 134 = lA G 93 g := (hf5 134 (by omega)).trans h_2
    have hB_27 : kHts G w5 hx hy := hHt.fr (fun j q1 q2 => (hf5 j (by omega)).trans (hf1 j (by omega)))
    exact loop1 ((g 2).toNat + 1) 0 (-1) 0 hx hy w5 (by omega) (by omega) (by omega) rfl h_25 h_26 hl5 hB_27 (fun j hj => (hf5 j (by omega)).trans (hf1 j (by omega)))
  · refine k_aload_n hC dX12_smallestHat_13 rfl 0 rfl ?_
    refine k_iconst hC dX12_smallestHat_14 ?_
    refine k_mutV hC (c_X12_raise l hls G hN w1 fl (kup u 5 0) 1 hw1) yy_X12_raise wm_X12_247 (kl hN (by decide)) hw1 rfl rfl rfl rfl (Nat.le_of_ble_eq_true rfl) (by decide) (by decide) ⟨by decide, by decide⟩ dX12_smallestHat_15 (fun w28 hp28 => ?_)
    obtain ⟨hu28, hf28⟩ := hp28
    have hB_29 : kLns G w28 ls lc lo := hLs.fr (fun j q1 q2 => (hf28 j (by omega)).trans (hf1 j (by omega)))
    have hB_30 : kHts G w28 hx hy := hHt.fr (fun j q1 q2 => (hf28 j (by omega)).trans (hf1 j (by omega)))
    subst hQ
    exact k_iret hC hr ⟨by decide, by decide⟩ (⟨_, 1, rfl, rfl, Or.inr (Or.inr ⟨by omega, rfl⟩), ⟨⟨u 12, u 13, hu28⟩, ⟨⟨_, _, _, hB_29⟩, _, _, hB_30⟩, fun j hj => (hf28 j (by omega)).trans (hf1 j (by omega))⟩⟩) dX12_smallestHat_18

set_option maxRecDepth 100000 in
set_option maxHeartbeats 4000000 in
theorem c_X12_fix (l : Launch) (hls : l.stackTraces = false) (G : kG) (hN : kN G = 150) (w : Nat → va_E) (fl : va_W) (u g : Nat → Int) (T no : Int) (hT : -2147483648 ≤ T ∧ T ≤ 2147483647) (hno : no = 0 ∨ no = 1) (hI : Inv g) (hm : w 133 = mdO G u) (hn : w 134 = lA G 93 g) (hSc : kScr G w) : KM l G yX12_fix cX12_fix 3 (some (FieldType.int)) 15 0 0 [.ref (kad G 133), vI T, vI no] w fl (kRt (thR ((0 ≤ T ∧ T ≤ 5000)) (fixV g T no) (False) 1 (¬ (0 ≤ T ∧ T ≤ 5000)) 1) fl (fun th w1 => mSt G w w1 u th)) := by
  refine KM_of2 hls (by decide +kernel) rfl (lv0 := [(0, .ref (kad G 133)), (1, vI T), (2, vI no)]) rfl (Nat.le_of_ble_eq_true rfl) (fun p e R s m args below meth c Q hC hr hQ => ?_)
  obtain ⟨⟨ls, lc, lo, hLs⟩, hx, hy, hHt⟩ := hSc
  have h0 := hI.c
  refine k_aload_n hC dX12_fix_0 rfl 0 rfl ?_
  refine k_iconst hC dX12_fix_1 ?_
  refine k_put hC fd_X12_74 (kl hN (by decide)) hm [.ref (kad G 134), .ref (kad G 135), .ref (kad G 136), .ref (kad G 137), vI (u 4), vI 0, vI (u 6), .ref (kad G 138), .ref (kad G 139), .ref (kad G 140), .ref (kad G 141), .ref (kad G 142), vL (u 12), vL (u 13), .ref (kad G 143), vI (u 15), .ref (kad G 144), vI (u 17), vI (u 18), vI (u 19), vI (u 20), vI (u 21), vI (u 22), vI (u 23), vI (u 24), vI (u 25), .ref (kad G 145), .ref (kad G 146), .ref (kad G 147), vI (u 29)] rfl (Nat.le_of_ble_eq_true rfl) rfl rfl dX12_fix_2 (fun w1 hw1 hf1 => ?_)
  refine k_aload_n hC dX12_fix_5 rfl 0 rfl ?_
  refine k_iload_n hC dX12_fix_6 rfl 1 rfl ?_
  have h_2 : w1 134 = lA G 93 g := (hf1 134 (by decide)).trans hn
  refine k_pureV hC (c_X12_isTime l hls G hN w1 fl (kup u 5 0) g T (by omega) hI hw1 h_2) yy_X12_isTime wm_X12_262 (kl hN (by decide)) hw1 rfl rfl rfl rfl (Nat.le_of_ble_eq_true rfl) (by decide) (by decide) ⟨by decide, by decide⟩ dX12_fix_7 ?_
  obtain ⟨z_3, ez_3, hz_3⟩ := k_bI (0 ≤ T ∧ T ≤ 5000)
  refine k_topv (vI z_3) (by rw [ez_3]) ?_
  refine k_if_ne hC 19 dX12_fix_10 rfl (by omega) (fun c_10 => ?_) (fun c_10 => ?_)
  · have ht : 0 ≤ T ∧ T ≤ 5000 := by omega
    refine k_aload_n hC dX12_fix_19 rfl 0 rfl ?_
    refine k_iload_n hC dX12_fix_20 rfl 1 rfl ?_
    refine k_i2l hC dX12_fix_21 (by omega) ?_
    have hB_4 : kLns G w1 ls lc lo := hLs.fr (fun j q1 q2 => (hf1 j (by omega)))
    refine k_mutV hC (c_X12_layFix l hls G hN w1 fl (kup u 5 0) g ls lc lo T hI (by omega) hw1 h_2 hB_4) yy_X12_layFix wm_X12_289 (kl hN (by decide)) hw1 rfl rfl rfl rfl (Nat.le_of_ble_eq_true rfl) (by decide) (by decide) ⟨by decide, by decide⟩ dX12_fix_22 (fun w5 hp5 => ?_)
    obtain ⟨⟨ls5, lc5, lo5, hl5, hall5⟩, ⟨fe5, fn5, hu5, hfe5⟩, hf5⟩ := hp5
    have hall := hall5
    obtain ⟨zf, ezf, hzf⟩ := (⟨fixI g, rfl, fixI_c g⟩ : ∃ z : Int, fixI g = z ∧ ((z = 1 ∧ fixP g) ∨ (z = 0 ∧ ¬ fixP g)))
    refine k_topv (vI zf) (by rw [ezf]) ?_
    have hfeb := fixE_b g T
    have hfnb := fixN_b g T
    refine k_if_ne hC 34 dX12_fix_25 rfl (by omega) (fun c_25 => ?_) (fun c_25 => ?_)
    · have hfp : fixP g := (hzf.resolve_right (fun q1 => by omega)).2
      have hft := hfe5 hfp
      refine k_iload_n hC dX12_fix_34 rfl 2 rfl ?_
      refine k_if_eq hC 45 dX12_fix_35 rfl (by omega) (fun c_35 => ?_) (fun c_35 => ?_)
      · refine k_aload_n hC dX12_fix_45 rfl 0 rfl ?_
        refine k_get hC fd_X12_234 (kl hN (by decide)) hu5 rfl dX12_fix_46 ?_
        refine k_l2i hC dX12_fix_49 ?_
        have hB_6 : kHts G w5 hx hy := hHt.fr (fun j q1 q2 => (hf5 j (by omega)).trans (hf1 j (by omega)))
        subst hQ
        exact k_iret hC hr ⟨by decide, by decide⟩ (⟨_, 0, rfl, rfl, Or.inl ⟨by omega, rfl, (show ((fe5 : Int) = fixV g T no) from (by unfold fixV; rw [selI_1 hfp]; first | (rw [if_pos (by omega)]; exact hft.1) | (rw [if_neg (by omega)]; exact hft.2)))⟩, ⟨⟨fe5, fn5, hu5⟩, ⟨⟨_, _, _, hl5⟩, _, _, hB_6⟩, fun j hj => (hf5 j (by omega)).trans (hf1 j (by omega))⟩⟩) dX12_fix_50
      · refine k_aload_n hC dX12_fix_38 rfl 0 rfl ?_
        refine k_get hC fd_X12_238 (kl hN (by decide)) hu5 rfl dX12_fix_39 ?_
        refine k_goto hC 49 dX12_fix_42 rfl ?_
        refine k_l2i hC dX12_fix_49 ?_
        have hB_7 : kHts G w5 hx hy := hHt.fr (fun j q1 q2 => (hf5 j (by omega)).trans (hf1 j (by omega)))
        subst hQ
        exact k_iret hC hr ⟨by decide, by decide⟩ (⟨_, 0, rfl, rfl, Or.inl ⟨by omega, rfl, (show ((fn5 : Int) = fixV g T no) from (by unfold fixV; rw [selI_1 hfp]; first | (rw [if_pos (by omega)]; exact hft.1) | (rw [if_neg (by omega)]; exact hft.2)))⟩, ⟨⟨fe5, fn5, hu5⟩, ⟨⟨_, _, _, hl5⟩, _, _, hB_7⟩, fun j hj => (hf5 j (by omega)).trans (hf1 j (by omega))⟩⟩) dX12_fix_50
    · have nfp : ¬ fixP g := (hzf.resolve_left (fun q1 => by omega)).2
      refine k_ldcw hC (x := (-1000000000)) (v := (-1000000000)) dX12_fix_28 (by decide) wk_X12_268 ?_
      refine k_goto hC 50 dX12_fix_31 rfl ?_
      have hB_8 : kHts G w5 hx hy := hHt.fr (fun j q1 q2 => (hf5 j (by omega)).trans (hf1 j (by omega)))
      subst hQ
      exact k_iret hC hr ⟨by decide, by decide⟩ (⟨_, 0, rfl, rfl, Or.inl ⟨by omega, rfl, (show ((-1000000000 : Int) = fixV g T no) from (by unfold fixV; rw [selI_0 nfp]))⟩, ⟨⟨fe5, fn5, hu5⟩, ⟨⟨_, _, _, hl5⟩, _, _, hB_8⟩, fun j hj => (hf5 j (by omega)).trans (hf1 j (by omega))⟩⟩) dX12_fix_50
  · refine k_aload_n hC dX12_fix_13 rfl 0 rfl ?_
    refine k_iconst hC dX12_fix_14 ?_
    refine k_mutV hC (c_X12_raise l hls G hN w1 fl (kup u 5 0) 1 hw1) yy_X12_raise wm_X12_247 (kl hN (by decide)) hw1 rfl rfl rfl rfl (Nat.le_of_ble_eq_true rfl) (by decide) (by decide) ⟨by decide, by decide⟩ dX12_fix_15 (fun w9 hp9 => ?_)
    obtain ⟨hu9, hf9⟩ := hp9
    have hB_10 : kLns G w9 ls lc lo := hLs.fr (fun j q1 q2 => (hf9 j (by omega)).trans (hf1 j (by omega)))
    have hB_11 : kHts G w9 hx hy := hHt.fr (fun j q1 q2 => (hf9 j (by omega)).trans (hf1 j (by omega)))
    subst hQ
    exact k_iret hC hr ⟨by decide, by decide⟩ (⟨_, 1, rfl, rfl, Or.inr (Or.inr ⟨by omega, rfl⟩), ⟨⟨u 12, u 13, hu9⟩, ⟨⟨_, _, _, hB_10⟩, _, _, hB_11⟩, fun j hj => (hf9 j (by omega)).trans (hf1 j (by omega))⟩⟩) dX12_fix_18

set_option maxRecDepth 100000 in
set_option maxHeartbeats 4000000 in
theorem c_X12_residual (l : Launch) (hls : l.stackTraces = false) (G : kG) (hN : kN G = 150) (w : Nat → va_E) (fl : va_W) (u g : Nat → Int) (i T : Int) (hi : -2147483648 ≤ i ∧ i ≤ 2147483647) (hT : -2147483648 ≤ T ∧ T ≤ 2147483647) (hI : Inv g) (hm : w 133 = mdO G u) (hn : w 134 = lA G 93 g) (hSc : kScr G w) : KM l G yX12_residual cX12_residual 3 (some (FieldType.int)) 15 0 0 [.ref (kad G 133), vI i, vI T] w fl (kRt (thR ((0 ≤ i ∧ i < g 2) ∧ (0 ≤ T ∧ T ≤ 5000)) (resV g T i.toNat) (¬ (0 ≤ i ∧ i < g 2)) 1 ((0 ≤ i ∧ i < g 2) ∧ ¬ (0 ≤ T ∧ T ≤ 5000)) 2) fl (fun th w1 => mSt G w w1 u th)) := by
  refine KM_of2 hls (by decide +kernel) rfl (lv0 := [(0, .ref (kad G 133)), (1, vI i), (2, vI T)]) rfl (Nat.le_of_ble_eq_true rfl) (fun p e R s m args below meth c Q hC hr hQ => ?_)
  obtain ⟨⟨ls, lc, lo, hLs⟩, hx, hy, hHt⟩ := hSc
  have h0 := hI.c
  refine k_aload_n hC dX12_residual_0 rfl 0 rfl ?_
  refine k_aload_n hC dX12_residual_1 rfl 0 rfl ?_
  refine k_iload_n hC dX12_residual_2 rfl 1 rfl ?_
  refine k_pureV hC (c_X12_isSight l hls G hN w fl u g i (by omega) hI hm hn) yy_X12_isSight wm_X12_265 (kl hN (by decide)) hm rfl rfl rfl rfl (Nat.le_of_ble_eq_true rfl) (by decide) (by decide) ⟨by decide, by decide⟩ dX12_residual_3 ?_
  obtain ⟨z_1, ez_1, hz_1⟩ := k_bI (0 ≤ i ∧ i ≤ g 2 - 1)
  refine k_topv (vI z_1) (by rw [ez_1]) ?_
  refine k_if_ne hC 13 dX12_residual_6 rfl (by omega) (fun c_6 => ?_) (fun c_6 => ?_)
  · refine k_aload_n hC dX12_residual_13 rfl 0 rfl ?_
    refine k_iload_n hC dX12_residual_14 rfl 2 rfl ?_
    refine k_pureV hC (c_X12_isTime l hls G hN w fl u g T (by omega) hI hm hn) yy_X12_isTime wm_X12_262 (kl hN (by decide)) hm rfl rfl rfl rfl (Nat.le_of_ble_eq_true rfl) (by decide) (by decide) ⟨by decide, by decide⟩ dX12_residual_15 ?_
    obtain ⟨z_2, ez_2, hz_2⟩ := k_bI (0 ≤ T ∧ T ≤ 5000)
    refine k_topv (vI z_2) (by rw [ez_2]) ?_
    refine k_if_eq hC 25 dX12_residual_18 rfl (by omega) (fun c_18 => ?_) (fun c_18 => ?_)
    · refine k_iconst hC dX12_residual_25 ?_
      refine k_put hC fd_X12_74 (kl hN (by decide)) hm [.ref (kad G 134), .ref (kad G 135), .ref (kad G 136), .ref (kad G 137), vI (u 4), vI 2, vI (u 6), .ref (kad G 138), .ref (kad G 139), .ref (kad G 140), .ref (kad G 141), .ref (kad G 142), vL (u 12), vL (u 13), .ref (kad G 143), vI (u 15), .ref (kad G 144), vI (u 17), vI (u 18), vI (u 19), vI (u 20), vI (u 21), vI (u 22), vI (u 23), vI (u 24), vI (u 25), .ref (kad G 145), .ref (kad G 146), .ref (kad G 147), vI (u 29)] rfl (Nat.le_of_ble_eq_true rfl) rfl rfl dX12_residual_26 (fun w3 hw3 hf3 => ?_)
      refine k_aload_n hC dX12_residual_29 rfl 0 rfl ?_
      refine k_get hC fd_X12_74 (kl hN (by decide)) hw3 rfl dX12_residual_30 ?_
      refine k_if_eq hC 38 dX12_residual_33 rfl (by omega) (fun c_33 => absurd c_33 (by omega)) (fun c_33 => ?_)
      refine k_iconst hC dX12_residual_36 ?_
      have hB_4 : kLns G w3 ls lc lo := hLs.fr (fun j q1 q2 => (hf3 j (by omega)))
      have hB_5 : kHts G w3 hx hy := hHt.fr (fun j q1 q2 => (hf3 j (by omega)))
      subst hQ
      exact k_iret hC hr ⟨by decide, by decide⟩ (⟨_, 2, rfl, rfl, Or.inr (Or.inr ⟨by omega, rfl⟩), ⟨⟨u 12, u 13, hw3⟩, ⟨⟨_, _, _, hB_4⟩, _, _, hB_5⟩, fun j hj => hf3 j (by omega)⟩⟩) dX12_residual_37
    · refine k_iconst hC dX12_residual_21 ?_
      refine k_goto hC 26 dX12_residual_22 rfl ?_
      refine k_put hC fd_X12_74 (kl hN (by decide)) hm [.ref (kad G 134), .ref (kad G 135), .ref (kad G 136), .ref (kad G 137), vI (u 4), vI 0, vI (u 6), .ref (kad G 138), .ref (kad G 139), .ref (kad G 140), .ref (kad G 141), .ref (kad G 142), vL (u 12), vL (u 13), .ref (kad G 143), vI (u 15), .ref (kad G 144), vI (u 17), vI (u 18), vI (u 19), vI (u 20), vI (u 21), vI (u 22), vI (u 23), vI (u 24), vI (u 25), .ref (kad G 145), .ref (kad G 146), .ref (kad G 147), vI (u 29)] rfl (Nat.le_of_ble_eq_true rfl) rfl rfl dX12_residual_26 (fun w6 hw6 hf6 => ?_)
      obtain ⟨k, ek⟩ : ∃ zz : Nat, i = (zz : Int) := ⟨i.toNat, by omega⟩
      subst ek
      have ht : 0 ≤ T ∧ T ≤ 5000 := by omega
      refine k_aload_n hC dX12_residual_29 rfl 0 rfl ?_
      refine k_get hC fd_X12_74 (kl hN (by decide)) hw6 rfl dX12_residual_30 ?_
      refine k_if_eq hC 38 dX12_residual_33 rfl (by omega) (fun c_33 => ?_) (fun c_33 => absurd c_33 (by omega))
      refine k_aload_n hC dX12_residual_38 rfl 0 rfl ?_
      refine k_iload_n hC dX12_residual_39 rfl 2 rfl ?_
      refine k_i2l hC dX12_residual_40 (by omega) ?_
      have h_7 : w6 134 = lA G 93 g := (hf6 134 (by decide)).trans hn
      have hB_8 : kLns G w6 ls lc lo := hLs.fr (fun j q1 q2 => (hf6 j (by omega)))
      refine k_mutV hC (c_X12_layFix l hls G hN w6 fl (kup u 5 0) g ls lc lo T hI (by omega) hw6 h_7 hB_8) yy_X12_layFix wm_X12_289 (kl hN (by decide)) hw6 rfl rfl rfl rfl (Nat.le_of_ble_eq_true rfl) (by decide) (by decide) ⟨by decide, by decide⟩ dX12_residual_41 (fun w9 hp9 => ?_)
      obtain ⟨⟨ls9, lc9, lo9, hl9, hall9⟩, ⟨fe9, fn9, hu9, hfe9⟩, hf9⟩ := hp9
      have hall := hall9
      obtain ⟨zf, ezf, hzf⟩ := (⟨fixI g, rfl, fixI_c g⟩ : ∃ z : Int, fixI g = z ∧ ((z = 1 ∧ fixP g) ∨ (z = 0 ∧ ¬ fixP g)))
      refine k_topv (vI zf) (by rw [ezf]) ?_
      refine k_if_eq hC 56 dX12_residual_44 rfl (by omega) (fun c_44 => ?_) (fun c_44 => ?_)
      · have nfp : ¬ fixP g := (hzf.resolve_left (fun q1 => by omega)).2
        refine k_ldcw hC (x := (-1000000000)) (v := (-1000000000)) dX12_residual_56 (by decide) wk_X12_268 ?_
        have hB_10 : kHts G w9 hx hy := hHt.fr (fun j q1 q2 => (hf9 j (by omega)).trans (hf6 j (by omega)))
        subst hQ
        exact k_iret hC hr ⟨by decide, by decide⟩ (⟨_, 0, rfl, rfl, Or.inl ⟨by omega, rfl, (show ((-1000000000 : Int) = resV g T k) from (by unfold resV; rw [selI_0 nfp]))⟩, ⟨⟨fe9, fn9, hu9⟩, ⟨⟨_, _, _, hl9⟩, _, _, hB_10⟩, fun j hj => (hf9 j (by omega)).trans (hf6 j (by omega))⟩⟩) dX12_residual_59
      · have hfp : fixP g := (hzf.resolve_right (fun q1 => by omega)).2
        have hft := hfe9 hfp
        refine k_aload_n hC dX12_residual_47 rfl 0 rfl ?_
        refine k_iload_n hC dX12_residual_48 rfl 1 rfl ?_
        have h_11 : w9 134 = lA G 93 g := (hf9 134 (by omega)).trans h_7
        refine k_pureV hC (c_X12_residualOf l hls G hN w9 fl (kup (kup (kup u 5 0) 12 fe9) 13 fn9) g ls9 lc9 lo9 k T hI (by omega) ht (hall k (by omega)) hft hu9 h_11 hl9) yy_X12_residualOf wm_X12_293 (kl hN (by decide)) hu9 rfl rfl rfl rfl (Nat.le_of_ble_eq_true rfl) (by decide) (by decide) ⟨by decide, by decide⟩ dX12_residual_49 ?_
        have hrb_12 := resM_b hI ht k (by omega)
        refine k_l2i hC dX12_residual_52 ?_
        refine k_goto hC 59 dX12_residual_53 rfl ?_
        have hB_13 : kHts G w9 hx hy := hHt.fr (fun j q1 q2 => (hf9 j (by omega)).trans (hf6 j (by omega)))
        subst hQ
        exact k_iret hC hr ⟨by decide, by decide⟩ (⟨_, 0, rfl, rfl, Or.inl ⟨by omega, rfl, (show ((resM g T k : Int) = resV g T k) from (by unfold resV; rw [selI_1 hfp]))⟩, ⟨⟨fe9, fn9, hu9⟩, ⟨⟨_, _, _, hl9⟩, _, _, hB_13⟩, fun j hj => (hf9 j (by omega)).trans (hf6 j (by omega))⟩⟩) dX12_residual_59
  · refine k_iconst hC dX12_residual_9 ?_
    refine k_goto hC 26 dX12_residual_10 rfl ?_
    refine k_put hC fd_X12_74 (kl hN (by decide)) hm [.ref (kad G 134), .ref (kad G 135), .ref (kad G 136), .ref (kad G 137), vI (u 4), vI 1, vI (u 6), .ref (kad G 138), .ref (kad G 139), .ref (kad G 140), .ref (kad G 141), .ref (kad G 142), vL (u 12), vL (u 13), .ref (kad G 143), vI (u 15), .ref (kad G 144), vI (u 17), vI (u 18), vI (u 19), vI (u 20), vI (u 21), vI (u 22), vI (u 23), vI (u 24), vI (u 25), .ref (kad G 145), .ref (kad G 146), .ref (kad G 147), vI (u 29)] rfl (Nat.le_of_ble_eq_true rfl) rfl rfl dX12_residual_26 (fun w14 hw14 hf14 => ?_)
    refine k_aload_n hC dX12_residual_29 rfl 0 rfl ?_
    refine k_get hC fd_X12_74 (kl hN (by decide)) hw14 rfl dX12_residual_30 ?_
    refine k_if_eq hC 38 dX12_residual_33 rfl (by omega) (fun c_33 => absurd c_33 (by omega)) (fun c_33 => ?_)
    refine k_iconst hC dX12_residual_36 ?_
    have hB_15 : kLns G w14 ls lc lo := hLs.fr (fun j q1 q2 => (hf14 j (by omega)))
    have hB_16 : kHts G w14 hx hy := hHt.fr (fun j q1 q2 => (hf14 j (by omega)))
    subst hQ
    exact k_iret hC hr ⟨by decide, by decide⟩ (⟨_, 1, rfl, rfl, Or.inr (Or.inl ⟨by omega, rfl⟩), ⟨⟨u 12, u 13, hw14⟩, ⟨⟨_, _, _, hB_15⟩, _, _, hB_16⟩, fun j hj => hf14 j (by omega)⟩⟩) dX12_residual_37

theorem worS_step {g : Nat → Int} {T : Int} {k : Nat} {zf : Int} (wo : Int) {x : Int} (h : (worS g T k).1 = wo ∧ (k = 0 ∨ (worS g T k).2 = ((resM g T wo.toNat).natAbs : Int))) (hx : (x = wo ∧ 0 < k ∧ ((resM g T k).natAbs : Int) ≤ ((resM g T wo.toNat).natAbs : Int)) ∨ (x = (k : Int) ∧ (k = 0 ∨ ((resM g T wo.toNat).natAbs : Int) < ((resM g T k).natAbs : Int)))) :
    zf = 1 → (worS g T (k + 1)).1 = x ∧ (k + 1 = 0 ∨ (worS g T (k + 1)).2 = ((resM g T x.toNat).natAbs : Int)) := by
  intro _
  have e : worS g T (k + 1) = if (worS g T k).2 < ((resM g T k).natAbs : Int) then ((k : Int), ((resM g T k).natAbs : Int)) else worS g T k := rfl
  obtain ⟨h1, h2⟩ := h
  rcases hx with ⟨rfl, h3, h4⟩ | ⟨rfl, h3⟩
  · rw [e, if_neg (by omega)]
    exact ⟨h1, Or.inr (h2.resolve_left (by omega))⟩
  · have h5 : (worS g T k).2 < ((resM g T k).natAbs : Int) := by
      rcases h2 with h2 | h2
      · subst h2; show (-1 : Int) < _; omega
      · rcases h3 with h3 | h3
        · subst h3; show (-1 : Int) < _; omega
        · omega
    rw [e, if_pos h5]
    exact ⟨rfl, Or.inr rfl⟩
set_option maxRecDepth 100000 in
set_option maxHeartbeats 4000000 in
theorem c_X12_worst (l : Launch) (hls : l.stackTraces = false) (G : kG) (hN : kN G = 150) (w : Nat → va_E) (fl : va_W) (u g : Nat → Int) (T : Int) (hT : -2147483648 ≤ T ∧ T ≤ 2147483647) (hI : Inv g) (hm : w 133 = mdO G u) (hn : w 134 = lA G 93 g) (hSc : kScr G w) : KM l G yX12_worst cX12_worst 5 (some (FieldType.int)) 15 0 0 [.ref (kad G 133), vI T] w fl (kRt (thR ((0 ≤ T ∧ T ≤ 5000)) (worV g T) (False) 1 (¬ (0 ≤ T ∧ T ≤ 5000)) 1) fl (fun th w1 => mSt G w w1 u th)) := by
  refine KM_of2 hls (by decide +kernel) rfl (lv0 := [(0, .ref (kad G 133)), (1, vI T)]) rfl (Nat.le_of_ble_eq_true rfl) (fun p e R s m args below meth c Q hC hr hQ => ?_)
  obtain ⟨⟨ls, lc, lo, hLs⟩, hx, hy, hHt⟩ := hSc
  have h0 := hI.c
  refine k_aload_n hC dX12_worst_0 rfl 0 rfl ?_
  refine k_iconst hC dX12_worst_1 ?_
  refine k_put hC fd_X12_74 (kl hN (by decide)) hm [.ref (kad G 134), .ref (kad G 135), .ref (kad G 136), .ref (kad G 137), vI (u 4), vI 0, vI (u 6), .ref (kad G 138), .ref (kad G 139), .ref (kad G 140), .ref (kad G 141), .ref (kad G 142), vL (u 12), vL (u 13), .ref (kad G 143), vI (u 15), .ref (kad G 144), vI (u 17), vI (u 18), vI (u 19), vI (u 20), vI (u 21), vI (u 22), vI (u 23), vI (u 24), vI (u 25), .ref (kad G 145), .ref (kad G 146), .ref (kad G 147), vI (u 29)] rfl (Nat.le_of_ble_eq_true rfl) rfl rfl dX12_worst_2 (fun w1 hw1 hf1 => ?_)
  refine k_aload_n hC dX12_worst_5 rfl 0 rfl ?_
  refine k_iload_n hC dX12_worst_6 rfl 1 rfl ?_
  have h_2 : w1 134 = lA G 93 g := (hf1 134 (by decide)).trans hn
  refine k_pureV hC (c_X12_isTime l hls G hN w1 fl (kup u 5 0) g T (by omega) hI hw1 h_2) yy_X12_isTime wm_X12_262 (kl hN (by decide)) hw1 rfl rfl rfl rfl (Nat.le_of_ble_eq_true rfl) (by decide) (by decide) ⟨by decide, by decide⟩ dX12_worst_7 ?_
  obtain ⟨z_3, ez_3, hz_3⟩ := k_bI (0 ≤ T ∧ T ≤ 5000)
  refine k_topv (vI z_3) (by rw [ez_3]) ?_
  refine k_if_ne hC 19 dX12_worst_10 rfl (by omega) (fun c_10 => ?_) (fun c_10 => ?_)
  · have ht : 0 ≤ T ∧ T ≤ 5000 := by omega
    refine k_iconst hC dX12_worst_19 ?_
    refine k_istore_n hC [(2, vI (-1)), (0, .ref (kad G 133)), (1, vI T)] dX12_worst_20 rfl (by decide) rfl ?_
    refine k_aload_n hC dX12_worst_21 rfl 1 rfl ?_
    refine k_iload_n hC dX12_worst_22 rfl 2 rfl ?_
    refine k_i2l hC dX12_worst_23 (by omega) ?_
    have hB_4 : kLns G w1 ls lc lo := hLs.fr (fun j q1 q2 => (hf1 j (by omega)))
    refine k_mutV hC (c_X12_layFix l hls G hN w1 fl (kup u 5 0) g ls lc lo T hI (by omega) hw1 h_2 hB_4) yy_X12_layFix wm_X12_289 (kl hN (by decide)) hw1 rfl rfl rfl rfl (Nat.le_of_ble_eq_true rfl) (by decide) (by decide) ⟨by decide, by decide⟩ dX12_worst_24 (fun w5 hp5 => ?_)
    obtain ⟨⟨ls5, lc5, lo5, hl5, hall5⟩, ⟨fe5, fn5, hu5, hfe5⟩, hf5⟩ := hp5
    have hall := hall5
    obtain ⟨zf, ezf, hzf⟩ := (⟨fixI g, rfl, fixI_c g⟩ : ∃ z : Int, fixI g = z ∧ ((z = 1 ∧ fixP g) ∨ (z = 0 ∧ ¬ fixP g)))
    refine k_topv (vI zf) (by rw [ezf]) ?_
    refine k_istore_n hC [(3, vI zf), (2, vI (-1)), (0, .ref (kad G 133)), (1, vI T)] dX12_worst_27 rfl (by decide) rfl ?_
    refine k_iconst hC dX12_worst_28 ?_
    refine k_istore hC [(4, vI 0), (3, vI zf), (2, vI (-1)), (0, .ref (kad G 133)), (1, vI T)] dX12_worst_29 (by decide) rfl ?_
    have loop : ∀ (n : Nat) (k : Nat) (wo : Int), ((g 2).toNat < n + k) → ((k : Int) ≤ g 2) → ((k = 0 ∧ wo = -1) ∨ (zf = 1 ∧ 0 < k ∧ 0 ≤ wo ∧ wo < (k : Int))) → (zf = 1 → (worS g T k).1 = wo ∧ (k = 0 ∨ (worS g T k).2 = ((resM g T wo.toNat).natAbs : Int))) → KW p l e R s m args below meth c 5 G Q w5 fl 0 0 31 [(4, vI (k : Int)), (3, vI zf), (2, vI wo), (0, .ref (kad G 133)), (1, vI T)] [] := by
      intro n
      induction n with
      | zero =>
        intro k wo hn_ hk hwo hwq
        exact absurd hn_ (by omega)
      | succ n ih =>
        intro k wo hn_ hk hwo hwq
        refine k_iload hC dX12_worst_31 0 rfl ?_
        refine k_i2l hC dX12_worst_33 (by omega) ?_
        refine k_aload_n hC dX12_worst_34 rfl 3 rfl ?_
        refine k_get hC fd_X12_9 (kl hN (by decide)) hu5 rfl dX12_worst_35 ?_
        refine k_iconst hC dX12_worst_38 ?_
        have h_6 : w5 134 = lA G 93 g := (hf5 134 (by omega)).trans h_2
        refine k_lald hC (kl hN (by decide)) h_6 (by omega) (by decide) dX12_worst_39 ?_
        refine k_topv (vL (g 2)) rfl ?_
        refine k_lcmp_ge hC 87 dX12_worst_40 dX12_worst_41 rfl (by omega) (by omega) (fun c_40 => ?_) (fun c_40 => ?_)
        · refine k_iload_n hC dX12_worst_87 rfl 2 rfl ?_
          have hB_7 : kHts G w5 hx hy := hHt.fr (fun j q1 q2 => (hf5 j (by omega)).trans (hf1 j (by omega)))
          subst hQ
          exact k_iret hC hr ⟨by decide, by decide⟩ (⟨_, 0, rfl, rfl, Or.inl ⟨by omega, rfl, (show ((wo : Int) = worV g T) from (by unfold worV; rcases hzf with ⟨q1, q2⟩ | ⟨q1, q2⟩; rw [selI_1 q2, show (g 2).toNat = k by omega]; exact (hwq q1).1.symm; rw [selI_0 q2]; omega))⟩, ⟨⟨fe5, fn5, hu5⟩, ⟨⟨_, _, _, hl5⟩, _, _, hB_7⟩, fun j hj => (hf5 j (by omega)).trans (hf1 j (by omega))⟩⟩) dX12_worst_88
        · refine k_iload_n hC dX12_worst_44 rfl 1 rfl ?_
          refine k_if_eq hC 87 dX12_worst_45 rfl (by omega) (fun c_45 => ?_) (fun c_45 => ?_)
          · have nfp : ¬ fixP g := (hzf.resolve_left (fun q1 => by omega)).2
            refine k_iload_n hC dX12_worst_87 rfl 2 rfl ?_
            have hB_8 : kHts G w5 hx hy := hHt.fr (fun j q1 q2 => (hf5 j (by omega)).trans (hf1 j (by omega)))
            subst hQ
            exact k_iret hC hr ⟨by decide, by decide⟩ (⟨_, 0, rfl, rfl, Or.inl ⟨by omega, rfl, (show ((wo : Int) = worV g T) from (by unfold worV; rcases hzf with ⟨q1, q2⟩ | ⟨q1, q2⟩; rw [selI_1 q2, show (g 2).toNat = k by omega]; exact (hwq q1).1.symm; rw [selI_0 q2]; omega))⟩, ⟨⟨fe5, fn5, hu5⟩, ⟨⟨_, _, _, hl5⟩, _, _, hB_8⟩, fun j hj => (hf5 j (by omega)).trans (hf1 j (by omega))⟩⟩) dX12_worst_88
          · have hfp : fixP g := (hzf.resolve_right (fun q1 => by omega)).2
            have hft := hfe5 hfp
            refine k_iload_n hC dX12_worst_48 rfl 2 rfl ?_
            refine k_iconst hC dX12_worst_49 ?_
            refine k_icmp_eq hC 74 dX12_worst_50 rfl (by omega) (by omega) (fun c_50 => ?_) (fun c_50 => ?_)
            · refine k_iload hC dX12_worst_74 0 rfl ?_
              refine k_goto hC 80 dX12_worst_76 rfl ?_
              refine k_istore_n hC [(2, vI (k : Int)), (4, vI (k : Int)), (3, vI zf), (0, .ref (kad G 133)), (1, vI T)] dX12_worst_80 rfl (by decide) rfl ?_
              refine k_iinc hC (y := (k : Int) + 1) [(4, vI ((k : Int) + 1)), (2, vI (k : Int)), (3, vI zf), (0, .ref (kad G 133)), (1, vI T)] (j := 1) dX12_worst_81 rfl (by omega) (by decide) rfl ?_
              refine k_goto hC 31 dX12_worst_84 rfl ?_
              refine k_lvs (ls := [0, 2, 1, 3, 4]) [(4, vI ((k : Int) + 1)), (3, vI zf), (2, vI (k : Int)), (0, .ref (kad G 133)), (1, vI T)] rfl ?_
              refine k_lvs (ls := [0, 1, 2, 3, 4]) [(4, vI ((k + 1 : Nat) : Int)), (3, vI zf), (2, vI (k : Int)), (0, .ref (kad G 133)), (1, vI T)] (by simp only [lv_pick]; rfl) ?_
              exact ih (k + 1) (k : Int)  (by omega) (by omega) (Or.inr ⟨by omega, by omega, by omega, by omega⟩) (worS_step wo (hwq (by omega)) (Or.inr ⟨rfl, Or.inl (by omega)⟩))
            · refine k_aload_n hC dX12_worst_53 rfl 3 rfl ?_
              refine k_iload hC dX12_worst_54 0 rfl ?_
              refine k_pureV hC (c_X12_residualOf l hls G hN w5 fl (kup (kup (kup u 5 0) 12 fe5) 13 fn5) g ls5 lc5 lo5 k T hI (by omega) ht (hall k (by omega)) hft hu5 h_6 hl5) yy_X12_residualOf wm_X12_293 (kl hN (by decide)) hu5 rfl rfl rfl rfl (Nat.le_of_ble_eq_true rfl) (by decide) (by decide) ⟨by decide, by decide⟩ dX12_worst_56 ?_
              have hrb_9 := resM_b hI ht k (by omega)
              refine k_mabsL hC wm_X12_204 wmath_mabsL (by omega) (by decide) (Nat.le_of_ble_eq_true rfl) ⟨by decide, by decide⟩ dX12_worst_59 ?_
              refine k_aload_n hC dX12_worst_62 rfl 3 rfl ?_
              refine k_iload_n hC dX12_worst_63 rfl 2 rfl ?_
              obtain ⟨wn, ewn⟩ : ∃ z : Nat, wo = (z : Int) := ⟨wo.toNat, by omega⟩
              subst ewn
              refine k_pureV hC (c_X12_residualOf l hls G hN w5 fl (kup (kup (kup u 5 0) 12 fe5) 13 fn5) g ls5 lc5 lo5 wn T hI (by omega) ht (hall wn (by omega)) hft hu5 h_6 hl5) yy_X12_residualOf wm_X12_293 (kl hN (by decide)) hu5 rfl rfl rfl rfl (Nat.le_of_ble_eq_true rfl) (by decide) (by decide) ⟨by decide, by decide⟩ dX12_worst_64 ?_
              have hrb_10 := resM_b hI ht wn (by omega)
              refine k_mabsL hC wm_X12_204 wmath_mabsL (by omega) (by decide) (Nat.le_of_ble_eq_true rfl) ⟨by decide, by decide⟩ dX12_worst_67 ?_
              refine k_lcmp_le hC 79 dX12_worst_70 dX12_worst_71 rfl (by omega) (by omega) (fun c_70 => ?_) (fun c_70 => ?_)
              · refine k_iload_n hC dX12_worst_79 rfl 2 rfl ?_
                refine k_istore_n hC [(2, vI (wn : Int)), (4, vI (k : Int)), (3, vI zf), (0, .ref (kad G 133)), (1, vI T)] dX12_worst_80 rfl (by decide) rfl ?_
                refine k_iinc hC (y := (k : Int) + 1) [(4, vI ((k : Int) + 1)), (2, vI (wn : Int)), (3, vI zf), (0, .ref (kad G 133)), (1, vI T)] (j := 1) dX12_worst_81 rfl (by omega) (by decide) rfl ?_
                refine k_goto hC 31 dX12_worst_84 rfl ?_
                refine k_lvs (ls := [0, 2, 1, 3, 4]) [(4, vI ((k : Int) + 1)), (3, vI zf), (2, vI (wn : Int)), (0, .ref (kad G 133)), (1, vI T)] rfl ?_
                refine k_lvs (ls := [0, 1, 2, 3, 4]) [(4, vI ((k + 1 : Nat) : Int)), (3, vI zf), (2, vI (wn : Int)), (0, .ref (kad G 133)), (1, vI T)] (by simp only [lv_pick]; rfl) ?_
                exact ih (k + 1) (wn : Int)  (by omega) (by omega) (Or.inr ⟨by omega, by omega, by omega, by omega⟩) (worS_step (wn : Int) (hwq (by omega)) (Or.inl ⟨rfl, by omega, by rw [show ((wn : Nat) : Int).toNat = wn from rfl]; omega⟩))
              · refine k_iload hC dX12_worst_74 0 rfl ?_
                refine k_goto hC 80 dX12_worst_76 rfl ?_
                refine k_istore_n hC [(2, vI (k : Int)), (4, vI (k : Int)), (3, vI zf), (0, .ref (kad G 133)), (1, vI T)] dX12_worst_80 rfl (by decide) rfl ?_
                refine k_iinc hC (y := (k : Int) + 1) [(4, vI ((k : Int) + 1)), (2, vI (k : Int)), (3, vI zf), (0, .ref (kad G 133)), (1, vI T)] (j := 1) dX12_worst_81 rfl (by omega) (by decide) rfl ?_
                refine k_goto hC 31 dX12_worst_84 rfl ?_
                refine k_lvs (ls := [0, 2, 1, 3, 4]) [(4, vI ((k : Int) + 1)), (3, vI zf), (2, vI (k : Int)), (0, .ref (kad G 133)), (1, vI T)] rfl ?_
                refine k_lvs (ls := [0, 1, 2, 3, 4]) [(4, vI ((k + 1 : Nat) : Int)), (3, vI zf), (2, vI (k : Int)), (0, .ref (kad G 133)), (1, vI T)] (by simp only [lv_pick]; rfl) ?_
                exact ih (k + 1) (k : Int)  (by omega) (by omega) (Or.inr ⟨by omega, by omega, by omega, by omega⟩) (worS_step (wn : Int) (hwq (by omega)) (Or.inr ⟨rfl, Or.inr (by rw [show ((wn : Nat) : Int).toNat = wn from rfl]; omega)⟩))
    refine k_lvs (ls := [0, 1, 2, 3, 4]) [(4, vI ((0 : Nat) : Int)), (3, vI zf), (2, vI (-1)), (0, .ref (kad G 133)), (1, vI T)] (by simp only [lv_pick]; rfl) ?_
    exact loop 13 0 (-1)  (by omega) (by omega) (Or.inl ⟨rfl, rfl⟩) (fun _ => ⟨rfl, Or.inl rfl⟩)
  · refine k_aload_n hC dX12_worst_13 rfl 0 rfl ?_
    refine k_iconst hC dX12_worst_14 ?_
    refine k_mutV hC (c_X12_raise l hls G hN w1 fl (kup u 5 0) 1 hw1) yy_X12_raise wm_X12_247 (kl hN (by decide)) hw1 rfl rfl rfl rfl (Nat.le_of_ble_eq_true rfl) (by decide) (by decide) ⟨by decide, by decide⟩ dX12_worst_15 (fun w11 hp11 => ?_)
    obtain ⟨hu11, hf11⟩ := hp11
    have hB_12 : kLns G w11 ls lc lo := hLs.fr (fun j q1 q2 => (hf11 j (by omega)).trans (hf1 j (by omega)))
    have hB_13 : kHts G w11 hx hy := hHt.fr (fun j q1 q2 => (hf11 j (by omega)).trans (hf1 j (by omega)))
    subst hQ
    exact k_iret hC hr ⟨by decide, by decide⟩ (⟨_, 1, rfl, rfl, Or.inr (Or.inr ⟨by omega, rfl⟩), ⟨⟨u 12, u 13, hu11⟩, ⟨⟨_, _, _, hB_12⟩, _, _, hB_13⟩, fun j hj => (hf11 j (by omega)).trans (hf1 j (by omega))⟩⟩) dX12_worst_18

set_option maxRecDepth 100000 in
set_option maxHeartbeats 4000000 in
theorem c_X12_offCourse (l : Launch) (hls : l.stackTraces = false) (G : kG) (hN : kN G = 150) (w : Nat → va_E) (fl : va_W) (u g : Nat → Int) (T : Int) (hT : -2147483648 ≤ T ∧ T ≤ 2147483647) (hI : Inv g) (hm : w 133 = mdO G u) (hn : w 134 = lA G 93 g) (hSc : kScr G w) : KM l G yX12_offCourse cX12_offCourse 2 (some (FieldType.int)) 15 0 0 [.ref (kad G 133), vI T] w fl (kRt (thR ((0 ≤ T ∧ T ≤ 5000)) (offV g T) (False) 1 (¬ (0 ≤ T ∧ T ≤ 5000)) 1) fl (fun th w1 => mSt G w w1 u th)) := by
  refine KM_of2 hls (by decide +kernel) rfl (lv0 := [(0, .ref (kad G 133)), (1, vI T)]) rfl (Nat.le_of_ble_eq_true rfl) (fun p e R s m args below meth c Q hC hr hQ => ?_)
  obtain ⟨⟨ls, lc, lo, hLs⟩, hx, hy, hHt⟩ := hSc
  have h0 := hI.c
  refine k_aload_n hC dX12_offCourse_0 rfl 0 rfl ?_
  refine k_iconst hC dX12_offCourse_1 ?_
  refine k_put hC fd_X12_74 (kl hN (by decide)) hm [.ref (kad G 134), .ref (kad G 135), .ref (kad G 136), .ref (kad G 137), vI (u 4), vI 0, vI (u 6), .ref (kad G 138), .ref (kad G 139), .ref (kad G 140), .ref (kad G 141), .ref (kad G 142), vL (u 12), vL (u 13), .ref (kad G 143), vI (u 15), .ref (kad G 144), vI (u 17), vI (u 18), vI (u 19), vI (u 20), vI (u 21), vI (u 22), vI (u 23), vI (u 24), vI (u 25), .ref (kad G 145), .ref (kad G 146), .ref (kad G 147), vI (u 29)] rfl (Nat.le_of_ble_eq_true rfl) rfl rfl dX12_offCourse_2 (fun w1 hw1 hf1 => ?_)
  refine k_aload_n hC dX12_offCourse_5 rfl 0 rfl ?_
  refine k_iload_n hC dX12_offCourse_6 rfl 1 rfl ?_
  have h_2 : w1 134 = lA G 93 g := (hf1 134 (by decide)).trans hn
  refine k_pureV hC (c_X12_isTime l hls G hN w1 fl (kup u 5 0) g T (by omega) hI hw1 h_2) yy_X12_isTime wm_X12_262 (kl hN (by decide)) hw1 rfl rfl rfl rfl (Nat.le_of_ble_eq_true rfl) (by decide) (by decide) ⟨by decide, by decide⟩ dX12_offCourse_7 ?_
  obtain ⟨z_3, ez_3, hz_3⟩ := k_bI (0 ≤ T ∧ T ≤ 5000)
  refine k_topv (vI z_3) (by rw [ez_3]) ?_
  refine k_if_ne hC 19 dX12_offCourse_10 rfl (by omega) (fun c_10 => ?_) (fun c_10 => ?_)
  · have ht : 0 ≤ T ∧ T ≤ 5000 := by omega
    refine k_aload_n hC dX12_offCourse_19 rfl 0 rfl ?_
    refine k_iload_n hC dX12_offCourse_20 rfl 1 rfl ?_
    refine k_i2l hC dX12_offCourse_21 (by omega) ?_
    have hB_4 : kLns G w1 ls lc lo := hLs.fr (fun j q1 q2 => (hf1 j (by omega)))
    refine k_mutV hC (c_X12_layFix l hls G hN w1 fl (kup u 5 0) g ls lc lo T hI (by omega) hw1 h_2 hB_4) yy_X12_layFix wm_X12_289 (kl hN (by decide)) hw1 rfl rfl rfl rfl (Nat.le_of_ble_eq_true rfl) (by decide) (by decide) ⟨by decide, by decide⟩ dX12_offCourse_22 (fun w5 hp5 => ?_)
    obtain ⟨⟨ls5, lc5, lo5, hl5, hall5⟩, ⟨fe5, fn5, hu5, hfe5⟩, hf5⟩ := hp5
    have hall := hall5
    obtain ⟨zf, ezf, hzf⟩ := (⟨fixI g, rfl, fixI_c g⟩ : ∃ z : Int, fixI g = z ∧ ((z = 1 ∧ fixP g) ∨ (z = 0 ∧ ¬ fixP g)))
    refine k_topv (vI zf) (by rw [ezf]) ?_
    refine k_if_eq hC 38 dX12_offCourse_25 rfl (by omega) (fun c_25 => ?_) (fun c_25 => ?_)
    · have nfp : ¬ fixP g := (hzf.resolve_left (fun q1 => by omega)).2
      refine k_ldcw hC (x := (-1000000000)) (v := (-1000000000)) dX12_offCourse_38 (by decide) wk_X12_268 ?_
      have hB_6 : kHts G w5 hx hy := hHt.fr (fun j q1 q2 => (hf5 j (by omega)).trans (hf1 j (by omega)))
      subst hQ
      exact k_iret hC hr ⟨by decide, by decide⟩ (⟨_, 0, rfl, rfl, Or.inl ⟨by omega, rfl, (show ((-1000000000 : Int) = offV g T) from (by unfold offV; rw [selI_0 nfp]))⟩, ⟨⟨fe5, fn5, hu5⟩, ⟨⟨_, _, _, hl5⟩, _, _, hB_6⟩, fun j hj => (hf5 j (by omega)).trans (hf1 j (by omega))⟩⟩) dX12_offCourse_41
    · have hfp : fixP g := (hzf.resolve_right (fun q1 => by omega)).2
      have hft := hfe5 hfp
      refine k_aload_n hC dX12_offCourse_28 rfl 0 rfl ?_
      refine k_iload_n hC dX12_offCourse_29 rfl 1 rfl ?_
      refine k_i2l hC dX12_offCourse_30 (by omega) ?_
      have h_7 : w5 134 = lA G 93 g := (hf5 134 (by omega)).trans h_2
      refine k_pureV hC (c_X12_distance l hls G hN w5 fl (kup (kup (kup u 5 0) 12 fe5) 13 fn5) g T hI (by omega) hft hu5 h_7) yy_X12_distance wm_X12_296 (kl hN (by decide)) hu5 rfl rfl rfl rfl (Nat.le_of_ble_eq_true rfl) (by decide) (by decide) ⟨by decide, by decide⟩ dX12_offCourse_31 ?_
      refine k_topv (vL (dstM g T)) rfl ?_
      have hdb_8 := dstM_b hI ht
      refine k_l2i hC dX12_offCourse_34 ?_
      refine k_goto hC 41 dX12_offCourse_35 rfl ?_
      have hB_9 : kHts G w5 hx hy := hHt.fr (fun j q1 q2 => (hf5 j (by omega)).trans (hf1 j (by omega)))
      subst hQ
      exact k_iret hC hr ⟨by decide, by decide⟩ (⟨_, 0, rfl, rfl, Or.inl ⟨by omega, rfl, (show ((dstM g T : Int) = offV g T) from (by unfold offV; rw [selI_1 hfp]))⟩, ⟨⟨fe5, fn5, hu5⟩, ⟨⟨_, _, _, hl5⟩, _, _, hB_9⟩, fun j hj => (hf5 j (by omega)).trans (hf1 j (by omega))⟩⟩) dX12_offCourse_41
  · refine k_aload_n hC dX12_offCourse_13 rfl 0 rfl ?_
    refine k_iconst hC dX12_offCourse_14 ?_
    refine k_mutV hC (c_X12_raise l hls G hN w1 fl (kup u 5 0) 1 hw1) yy_X12_raise wm_X12_247 (kl hN (by decide)) hw1 rfl rfl rfl rfl (Nat.le_of_ble_eq_true rfl) (by decide) (by decide) ⟨by decide, by decide⟩ dX12_offCourse_15 (fun w10 hp10 => ?_)
    obtain ⟨hu10, hf10⟩ := hp10
    have hB_11 : kLns G w10 ls lc lo := hLs.fr (fun j q1 q2 => (hf10 j (by omega)).trans (hf1 j (by omega)))
    have hB_12 : kHts G w10 hx hy := hHt.fr (fun j q1 q2 => (hf10 j (by omega)).trans (hf1 j (by omega)))
    subst hQ
    exact k_iret hC hr ⟨by decide, by decide⟩ (⟨_, 1, rfl, rfl, Or.inr (Or.inr ⟨by omega, rfl⟩), ⟨⟨u 12, u 13, hu10⟩, ⟨⟨_, _, _, hB_11⟩, _, _, hB_12⟩, fun j hj => (hf10 j (by omega)).trans (hf1 j (by omega))⟩⟩) dX12_offCourse_18

set_option maxRecDepth 100000 in
set_option maxHeartbeats 4000000 in
theorem c_X12_setOf (l : Launch) (hls : l.stackTraces = false) (G : kG) (hN : kN G = 150) (w : Nat → va_E) (fl : va_W) (u : Nat → Int) (x y r : Int) (hx : (x.natAbs : Int) ≤ r) (hr9 : 0 ≤ r ∧ r ≤ 2147483647) (hy : -2147483648 ≤ y ∧ y ≤ 2147483647) (hm : w 133 = mdO G u) : KM l G yX12_setOf cX12_setOf 9 (some (FieldType.long)) 6 0 0 [.ref (kad G 133), vL x, vL y, vL r] w fl (kPure (vL (dirM x y r)) w fl) := by
  refine KM_of2 hls (by decide +kernel) rfl (lv0 := [(0, .ref (kad G 133)), (1, vL x), (3, vL y), (5, vL r)]) rfl (Nat.le_of_ble_eq_true rfl) (fun p e R s m args below meth c Q hC hr hQ => ?_)
  refine k_lload hC dX12_setOf_0 3 rfl ?_
  refine k_lconst (x := 0) hC dX12_setOf_2 (by decide) ?_
  refine k_lcmp_ne hC 9 dX12_setOf_3 dX12_setOf_4 rfl (by omega) (by omega) (fun c_3 => ?_) (fun c_3 => ?_)
  · refine k_lload_n hC dX12_setOf_9 rfl 1 rfl ?_
    refine k_mabsL hC wm_X12_204 wmath_mabsL (by omega) (by decide) (Nat.le_of_ble_eq_true rfl) ⟨by decide, by decide⟩ dX12_setOf_10 ?_
    refine k_ldc2 hC (x := 1000000) (v := 1000000) dX12_setOf_13 (by decide) wk_X12_113 ?_
    refine k_lmul hC dX12_setOf_16 ?_
    refine k_lload hC dX12_setOf_17 3 rfl ?_
    refine k_pureS hC (c_X12_floor l hls G hN w fl (((x).natAbs : Int) * 1000000) r (by omega) (by omega)) yy_X12_floor wm_X12_92 rfl rfl (Nat.le_of_ble_eq_true rfl) (by decide) (by decide) ⟨by decide, by decide⟩ dX12_setOf_19 ?_
    have hfd := k_fdivb (a := (x.natAbs : Int) * 1000000) (b := r) (by omega)
    have hfe : ((x.natAbs : Int) * 1000000).fdiv r ≤ 1000000 := by
      rw [Int.fdiv_eq_ediv_of_nonneg _ (by omega)]
      exact Int.ediv_le_of_le_mul (by omega) (by omega)
    have hlm : limM (((x.natAbs : Int) * 1000000).fdiv r) = ((x.natAbs : Int) * 1000000).fdiv r := by unfold limM; omega
    refine k_pureS hC (c_X12_arcOf l hls G hN w fl ((((x).natAbs : Int) * 1000000).fdiv r) (by omega)) yy_X12_arcOf wm_X12_110 rfl rfl (Nat.le_of_ble_eq_true rfl) (by decide) (by decide) ⟨by decide, by decide⟩ dX12_setOf_22 ?_
    have hb_1 := arcM_b ((((x).natAbs : Int) * 1000000).fdiv r)
    refine k_topL (fun an ean => ?_)
    refine k_lstore hC [(7, vL an), (0, .ref (kad G 133)), (1, vL x), (3, vL y), (5, vL r)] dX12_setOf_25 (by decide) rfl ?_
    have han := arcM_b (((x.natAbs : Int) * 1000000).fdiv r)
    rw [← ean] at han
    refine k_lload_n hC dX12_setOf_27 rfl 2 rfl ?_
    refine k_lconst (x := 0) hC dX12_setOf_28 (by decide) ?_
    refine k_lcmp_lt hC 51 dX12_setOf_29 dX12_setOf_30 rfl (by omega) (by omega) (fun c_29 => ?_) (fun c_29 => ?_)
    · refine k_lload_n hC dX12_setOf_51 rfl 3 rfl ?_
      refine k_lconst (x := 0) hC dX12_setOf_52 (by decide) ?_
      refine k_lcmp_ge hC 66 dX12_setOf_53 dX12_setOf_54 rfl (by omega) (by omega) (fun c_53 => ?_) (fun c_53 => ?_)
      · refine k_ldc2 hC (x := 21600) (v := 21600) dX12_setOf_66 (by decide) wk_X12_90 ?_
        refine k_lload hC dX12_setOf_69 0 rfl ?_
        refine k_lsub hC dX12_setOf_71 ?_
        refine k_pureS hC (c_X12_turned l hls G hN w fl (21600 - an) (by omega)) yy_X12_turned wm_X12_95 rfl rfl (Nat.le_of_ble_eq_true rfl) (by decide) (by decide) ⟨by decide, by decide⟩ dX12_setOf_72 ?_
        subst hQ
        exact k_lret hC hr ⟨by decide, by decide⟩ (⟨congrArg (fun z => some (vL z)) (show (dirM x y r : Int) = (21600 - an) % 21600 from by unfold dirM; rw [hlm, ← ean, if_neg (by omega)]; first | (rw [if_pos (by omega), if_pos (by omega)]; done) | (rw [if_pos (by omega), if_neg (by omega)]; done) | (rw [if_neg (by omega), if_pos (by omega)]; done) | (rw [if_neg (by omega), if_neg (by omega)]; by_cases hz0 : an = 0; (rw [if_pos hz0]; omega); (rw [if_neg hz0]; omega))), rfl, rfl⟩) dX12_setOf_75
      · refine k_ldc2 hC (x := 10800) (v := 10800) dX12_setOf_57 (by decide) wk_X12_99 ?_
        refine k_lload hC dX12_setOf_60 0 rfl ?_
        refine k_ladd hC dX12_setOf_62 ?_
        refine k_goto hC 75 dX12_setOf_63 rfl ?_
        subst hQ
        exact k_lret hC hr ⟨by decide, by decide⟩ (⟨congrArg (fun z => some (vL z)) (show (dirM x y r : Int) = 10800 + an from by unfold dirM; rw [hlm, ← ean, if_neg (by omega)]; first | (rw [if_pos (by omega), if_pos (by omega)]; done) | (rw [if_pos (by omega), if_neg (by omega)]; done) | (rw [if_neg (by omega), if_pos (by omega)]; done) | (rw [if_neg (by omega), if_neg (by omega)]; by_cases hz0 : an = 0; (rw [if_pos hz0]; omega); (rw [if_neg hz0]; omega))), rfl, rfl⟩) dX12_setOf_75
    · refine k_lload_n hC dX12_setOf_33 rfl 3 rfl ?_
      refine k_lconst (x := 0) hC dX12_setOf_34 (by decide) ?_
      refine k_lcmp_lt hC 44 dX12_setOf_35 dX12_setOf_36 rfl (by omega) (by omega) (fun c_35 => ?_) (fun c_35 => ?_)
      · refine k_ldc2 hC (x := 10800) (v := 10800) dX12_setOf_44 (by decide) wk_X12_99 ?_
        refine k_lload hC dX12_setOf_47 0 rfl ?_
        refine k_lsub hC dX12_setOf_49 ?_
        subst hQ
        exact k_lret hC hr ⟨by decide, by decide⟩ (⟨congrArg (fun z => some (vL z)) (show (dirM x y r : Int) = 10800 - an from by unfold dirM; rw [hlm, ← ean, if_neg (by omega)]; first | (rw [if_pos (by omega), if_pos (by omega)]; done) | (rw [if_pos (by omega), if_neg (by omega)]; done) | (rw [if_neg (by omega), if_pos (by omega)]; done) | (rw [if_neg (by omega), if_neg (by omega)]; by_cases hz0 : an = 0; (rw [if_pos hz0]; omega); (rw [if_neg hz0]; omega))), rfl, rfl⟩) dX12_setOf_50
      · refine k_lload hC dX12_setOf_39 0 rfl ?_
        refine k_goto hC 50 dX12_setOf_41 rfl ?_
        subst hQ
        exact k_lret hC hr ⟨by decide, by decide⟩ (⟨congrArg (fun z => some (vL z)) (show (dirM x y r : Int) = an from by unfold dirM; rw [hlm, ← ean, if_neg (by omega)]; first | (rw [if_pos (by omega), if_pos (by omega)]; done) | (rw [if_pos (by omega), if_neg (by omega)]; done) | (rw [if_neg (by omega), if_pos (by omega)]; done) | (rw [if_neg (by omega), if_neg (by omega)]; by_cases hz0 : an = 0; (rw [if_pos hz0]; omega); (rw [if_neg hz0]; omega))), rfl, rfl⟩) dX12_setOf_50
  · refine k_lconst (x := 0) hC dX12_setOf_7 (by decide) ?_
    subst hQ
    exact k_lret hC hr ⟨by decide, by decide⟩ (⟨congrArg (fun z => some (vL z)) (show (dirM x y r : Int) = 0 from by unfold dirM; rw [if_pos (by omega)]), rfl, rfl⟩) dX12_setOf_8

set_option maxRecDepth 100000 in
set_option maxHeartbeats 4000000 in
theorem c_X12_unknownCurrent (l : Launch) (hls : l.stackTraces = false) (G : kG) (hN : kN G = 150) (w : Nat → va_E) (fl : va_W) (u g : Nat → Int) (T dr : Int) (hT : -2147483648 ≤ T ∧ T ≤ 2147483647) (hdr : dr = 0 ∨ dr = 1) (hI : Inv g) (hm : w 133 = mdO G u) (hn : w 134 = lA G 93 g) (hSc : kScr G w) : KM l G yX12_unknownCurrent cX12_unknownCurrent 5 (some (FieldType.int)) 15 0 0 [.ref (kad G 133), vI T, vI dr] w fl (kRt (thR (1 ≤ T ∧ T ≤ 5000) (unkV g T dr) (False) 1 (¬ (1 ≤ T ∧ T ≤ 5000)) 1) fl (fun th w1 => mSt G w w1 u th)) := by
  refine KM_of2 hls (by decide +kernel) rfl (lv0 := [(0, .ref (kad G 133)), (1, vI T), (2, vI dr)]) rfl (Nat.le_of_ble_eq_true rfl) (fun p e R s m args below meth c Q hC hr hQ => ?_)
  obtain ⟨⟨ls, lc, lo, hLs⟩, hx, hy, hHt⟩ := hSc
  have h0 := hI.c
  refine k_aload_n hC dX12_unknownCurrent_0 rfl 0 rfl ?_
  refine k_iconst hC dX12_unknownCurrent_1 ?_
  refine k_put hC fd_X12_74 (kl hN (by decide)) hm [.ref (kad G 134), .ref (kad G 135), .ref (kad G 136), .ref (kad G 137), vI (u 4), vI 0, vI (u 6), .ref (kad G 138), .ref (kad G 139), .ref (kad G 140), .ref (kad G 141), .ref (kad G 142), vL (u 12), vL (u 13), .ref (kad G 143), vI (u 15), .ref (kad G 144), vI (u 17), vI (u 18), vI (u 19), vI (u 20), vI (u 21), vI (u 22), vI (u 23), vI (u 24), vI (u 25), .ref (kad G 145), .ref (kad G 146), .ref (kad G 147), vI (u 29)] rfl (Nat.le_of_ble_eq_true rfl) rfl rfl dX12_unknownCurrent_2 (fun w1 hw1 hf1 => ?_)
  refine k_iload_n hC dX12_unknownCurrent_5 rfl 1 rfl ?_
  refine k_i2l hC dX12_unknownCurrent_6 (by omega) ?_
  refine k_lconst (x := 1) hC dX12_unknownCurrent_7 (by decide) ?_
  refine k_ldc2 hC (x := 5000) (v := 5000) dX12_unknownCurrent_8 (by decide) wk_X12_260 ?_
  refine k_pureS hC (c_X12_inRange l hls G hN w1 fl T 1 5000 (by omega) (by omega) (by omega)) yy_X12_inRange wm_X12_243 rfl rfl (Nat.le_of_ble_eq_true rfl) (by decide) (by decide) ⟨by decide, by decide⟩ dX12_unknownCurrent_11 ?_
  refine k_topv (vI (if 1 ≤ T ∧ T ≤ 5000 then 1 else 0)) rfl ?_
  obtain ⟨z_2, ez_2, hz_2⟩ := k_bI (1 ≤ T ∧ T ≤ 5000)
  refine k_topv (vI z_2) (by rw [ez_2]) ?_
  refine k_if_ne hC 23 dX12_unknownCurrent_14 rfl (by omega) (fun c_14 => ?_) (fun c_14 => ?_)
  · have ht : 0 ≤ T ∧ T ≤ 5000 := by omega
    refine k_aload_n hC dX12_unknownCurrent_23 rfl 0 rfl ?_
    refine k_iload_n hC dX12_unknownCurrent_24 rfl 1 rfl ?_
    refine k_i2l hC dX12_unknownCurrent_25 (by omega) ?_
    have h_3 : w1 134 = lA G 93 g := (hf1 134 (by decide)).trans hn
    have hB_4 : kLns G w1 ls lc lo := hLs.fr (fun j q1 q2 => (hf1 j (by omega)))
    refine k_mutV hC (c_X12_layFix l hls G hN w1 fl (kup u 5 0) g ls lc lo T hI (by omega) hw1 h_3 hB_4) yy_X12_layFix wm_X12_289 (kl hN (by decide)) hw1 rfl rfl rfl rfl (Nat.le_of_ble_eq_true rfl) (by decide) (by decide) ⟨by decide, by decide⟩ dX12_unknownCurrent_26 (fun w5 hp5 => ?_)
    obtain ⟨⟨ls5, lc5, lo5, hl5, hall5⟩, ⟨fe5, fn5, hu5, hfe5⟩, hf5⟩ := hp5
    have hall := hall5
    obtain ⟨zf, ezf, hzf⟩ := (⟨fixI g, rfl, fixI_c g⟩ : ∃ z : Int, fixI g = z ∧ ((z = 1 ∧ fixP g) ∨ (z = 0 ∧ ¬ fixP g)))
    refine k_topv (vI zf) (by rw [ezf]) ?_
    refine k_if_ne hC 36 dX12_unknownCurrent_29 rfl (by omega) (fun c_29 => ?_) (fun c_29 => ?_)
    · have hfp : fixP g := (hzf.resolve_right (fun q1 => by omega)).2
      have hft := hfe5 hfp
      have hfeb := fixE_b g T
      have hfnb := fixN_b g T
      have hd1 := dispM_b hI ht false
      have hd2 := dispM_b hI ht true
      have hdg := dstM_ge g T
      refine k_aload_n hC dX12_unknownCurrent_36 rfl 0 rfl ?_
      refine k_iload_n hC dX12_unknownCurrent_37 rfl 1 rfl ?_
      refine k_i2l hC dX12_unknownCurrent_38 (by omega) ?_
      have h_6 : w5 134 = lA G 93 g := (hf5 134 (by omega)).trans h_3
      refine k_pureV hC (c_X12_distance l hls G hN w5 fl (kup (kup (kup u 5 0) 12 fe5) 13 fn5) g T hI (by omega) hft hu5 h_6) yy_X12_distance wm_X12_296 (kl hN (by decide)) hu5 rfl rfl rfl rfl (Nat.le_of_ble_eq_true rfl) (by decide) (by decide) ⟨by decide, by decide⟩ dX12_unknownCurrent_39 ?_
      refine k_topv (vL (dstM g T)) rfl ?_
      have hdb_7 := dstM_b hI ht
      refine k_lstore_n hC [(3, vL (dstM g T)), (0, .ref (kad G 133)), (1, vI T), (2, vI dr)] dX12_unknownCurrent_42 rfl (by decide) rfl ?_
      refine k_iload_n hC dX12_unknownCurrent_43 rfl 3 rfl ?_
      refine k_if_eq hC 58 dX12_unknownCurrent_44 rfl (by omega) (fun c_44 => ?_) (fun c_44 => ?_)
      · refine k_aload_n hC dX12_unknownCurrent_58 rfl 1 rfl ?_
        refine k_aload_n hC dX12_unknownCurrent_59 rfl 1 rfl ?_
        refine k_get hC fd_X12_234 (kl hN (by decide)) hu5 rfl dX12_unknownCurrent_60 ?_
        refine k_aload_n hC dX12_unknownCurrent_63 rfl 1 rfl ?_
        refine k_iload_n hC dX12_unknownCurrent_64 rfl 2 rfl ?_
        refine k_i2l hC dX12_unknownCurrent_65 (by omega) ?_
        refine k_iconst hC dX12_unknownCurrent_66 ?_
        refine k_pureV hC (c_X12_displaced l hls G hN w5 fl (kup (kup (kup u 5 0) 12 fe5) 13 fn5) g T 0 hI (by omega) (by omega) hu5 h_6) yy_X12_displaced wm_X12_131 (kl hN (by decide)) hu5 rfl rfl rfl rfl (Nat.le_of_ble_eq_true rfl) (by decide) (by decide) ⟨by decide, by decide⟩ dX12_unknownCurrent_67 ?_
        refine k_topv (vL (dispM g T false)) rfl ?_
        have hb_8 := dispM_b hI (t := T) (by omega) false
        refine k_lsub hC dX12_unknownCurrent_70 ?_
        refine k_aload_n hC dX12_unknownCurrent_71 rfl 1 rfl ?_
        refine k_get hC fd_X12_238 (kl hN (by decide)) hu5 rfl dX12_unknownCurrent_72 ?_
        refine k_aload_n hC dX12_unknownCurrent_75 rfl 1 rfl ?_
        refine k_iload_n hC dX12_unknownCurrent_76 rfl 2 rfl ?_
        refine k_i2l hC dX12_unknownCurrent_77 (by omega) ?_
        refine k_iconst hC dX12_unknownCurrent_78 ?_
        refine k_pureV hC (c_X12_displaced l hls G hN w5 fl (kup (kup (kup u 5 0) 12 fe5) 13 fn5) g T 1 hI (by omega) (by omega) hu5 h_6) yy_X12_displaced wm_X12_131 (kl hN (by decide)) hu5 rfl rfl rfl rfl (Nat.le_of_ble_eq_true rfl) (by decide) (by decide) ⟨by decide, by decide⟩ dX12_unknownCurrent_79 ?_
        refine k_topv (vL (dispM g T true)) rfl ?_
        have hb_9 := dispM_b hI (t := T) (by omega) true
        refine k_lsub hC dX12_unknownCurrent_82 ?_
        refine k_lload_n hC dX12_unknownCurrent_83 rfl 0 rfl ?_
        refine k_pureV hC (c_X12_setOf l hls G hN w5 fl (kup (kup (kup u 5 0) 12 fe5) 13 fn5) (fe5 - (dispM g T false)) (fn5 - (dispM g T true)) (dstM g T) (by rw [hft.1]; exact hdg) (by omega) (by omega) hu5) yy_X12_setOf wm_X12_299 (kl hN (by decide)) hu5 rfl rfl rfl rfl (Nat.le_of_ble_eq_true rfl) (by decide) (by decide) ⟨by decide, by decide⟩ dX12_unknownCurrent_84 ?_
        refine k_l2i hC dX12_unknownCurrent_87 ?_
        have hB_10 : kHts G w5 hx hy := hHt.fr (fun j q1 q2 => (hf5 j (by omega)).trans (hf1 j (by omega)))
        subst hQ
        exact k_iret hC hr ⟨by decide, by decide⟩ (⟨_, 0, rfl, rfl, Or.inl ⟨by omega, rfl, (show ((dirM (fe5 - (dispM g T false)) (fn5 - (dispM g T true)) (dstM g T) : Int) = unkV g T dr) from (by unfold unkV; rw [selI_1 hfp, if_pos (by omega), hft.1, hft.2]))⟩, ⟨⟨fe5, fn5, hu5⟩, ⟨⟨_, _, _, hl5⟩, _, _, hB_10⟩, fun j hj => (hf5 j (by omega)).trans (hf1 j (by omega))⟩⟩) dX12_unknownCurrent_88
      · refine k_ldc2 hC (x := 6) (v := 6) dX12_unknownCurrent_47 (by decide) wk_X12_115 ?_
        refine k_lload_n hC dX12_unknownCurrent_50 rfl 0 rfl ?_
        refine k_lmul hC dX12_unknownCurrent_51 ?_
        refine k_iload_n hC dX12_unknownCurrent_52 rfl 2 rfl ?_
        refine k_i2l hC dX12_unknownCurrent_53 (by omega) ?_
        refine k_ldiv hC dX12_unknownCurrent_54 (by omega) (by omega) ?_
        refine k_topL (fun q_11 eq_11 => ?_)
        have eq_11 : q_11 = (6 * (dstM g T)).fdiv T := by rw [eq_11]; exact (fdiv_4 (by omega) (by omega)).symm
        refine k_goto hC 87 dX12_unknownCurrent_55 rfl ?_
        refine k_l2i hC dX12_unknownCurrent_87 ?_
        have hB_12 : kHts G w5 hx hy := hHt.fr (fun j q1 q2 => (hf5 j (by omega)).trans (hf1 j (by omega)))
        subst hQ
        exact k_iret hC hr ⟨by decide, by decide⟩ (⟨_, 0, rfl, rfl, Or.inl ⟨by omega, rfl, (show ((q_11 : Int) = unkV g T dr) from (by unfold unkV; rw [selI_1 hfp, if_neg (by omega)]; exact eq_11))⟩, ⟨⟨fe5, fn5, hu5⟩, ⟨⟨_, _, _, hl5⟩, _, _, hB_12⟩, fun j hj => (hf5 j (by omega)).trans (hf1 j (by omega))⟩⟩) dX12_unknownCurrent_88
    · have nfp : ¬ fixP g := (hzf.resolve_left (fun q1 => by omega)).2
      refine k_ldcw hC (x := (-1000000000)) (v := (-1000000000)) dX12_unknownCurrent_32 (by decide) wk_X12_268 ?_
      have hB_13 : kHts G w5 hx hy := hHt.fr (fun j q1 q2 => (hf5 j (by omega)).trans (hf1 j (by omega)))
      subst hQ
      exact k_iret hC hr ⟨by decide, by decide⟩ (⟨_, 0, rfl, rfl, Or.inl ⟨by omega, rfl, (show ((-1000000000 : Int) = unkV g T dr) from (by unfold unkV; rw [selI_0 nfp]))⟩, ⟨⟨fe5, fn5, hu5⟩, ⟨⟨_, _, _, hl5⟩, _, _, hB_13⟩, fun j hj => (hf5 j (by omega)).trans (hf1 j (by omega))⟩⟩) dX12_unknownCurrent_35
  · refine k_aload_n hC dX12_unknownCurrent_17 rfl 0 rfl ?_
    refine k_iconst hC dX12_unknownCurrent_18 ?_
    refine k_mutV hC (c_X12_raise l hls G hN w1 fl (kup u 5 0) 1 hw1) yy_X12_raise wm_X12_247 (kl hN (by decide)) hw1 rfl rfl rfl rfl (Nat.le_of_ble_eq_true rfl) (by decide) (by decide) ⟨by decide, by decide⟩ dX12_unknownCurrent_19 (fun w14 hp14 => ?_)
    obtain ⟨hu14, hf14⟩ := hp14
    have hB_15 : kLns G w14 ls lc lo := hLs.fr (fun j q1 q2 => (hf14 j (by omega)).trans (hf1 j (by omega)))
    have hB_16 : kHts G w14 hx hy := hHt.fr (fun j q1 q2 => (hf14 j (by omega)).trans (hf1 j (by omega)))
    subst hQ
    exact k_iret hC hr ⟨by decide, by decide⟩ (⟨_, 1, rfl, rfl, Or.inr (Or.inr ⟨by omega, rfl⟩), ⟨⟨u 12, u 13, hu14⟩, ⟨⟨_, _, _, hB_15⟩, _, _, hB_16⟩, fun j hj => (hf14 j (by omega)).trans (hf1 j (by omega))⟩⟩) dX12_unknownCurrent_22

def kRd (R : UInt64 → Int → Prop) (fl : va_W) (P : Int → (Nat → va_E) → Prop) : Option Value → (Nat → va_E) → va_W → Prop := fun v w1 fl1 => ∃ (b : UInt64) (th : Int), v = some (.double b) ∧ fl = fl1 ∧ R b th ∧ P th w1
def kRf (R : UInt32 → Int → Prop) (fl : va_W) (P : Int → (Nat → va_E) → Prop) : Option Value → (Nat → va_E) → va_W → Prop := fun v w1 fl1 => ∃ (b : UInt32) (th : Int), v = some (.float b) ∧ fl = fl1 ∧ R b th ∧ P th w1
theorem fix_n0 {g : Nat → Int} (h : g 2 = 0) : ¬ fixP g := by
  unfold fixP fixD fxA fxB fxC
  rw [h]
  show ¬ (100000000000 ≤ (0 : Int) * 0 - 0 * 0)
  decide
set_option maxRecDepth 100000 in
set_option maxHeartbeats 4000000 in
theorem c_X12_meanResidual (l : Launch) (hls : l.stackTraces = false) (G : kG) (hN : kN G = 150) (w : Nat → va_E) (fl : va_W) (u g : Nat → Int) (T : Int) (hT : -2147483648 ≤ T ∧ T ≤ 2147483647) (hI : Inv g) (hm : w 133 = mdO G u) (hn : w 134 = lA G 93 g) (hSc : kScr G w) : KM l G yX12_meanResidual cX12_meanResidual 5 (some (FieldType.double)) 15 0 0 [.ref (kad G 133), vI T] w fl (kRd (fun b th => ((0 ≤ T ∧ T ≤ 5000) ∧ th = 0 ∧ b = mrV g T) ∨ (¬ (0 ≤ T ∧ T ≤ 5000) ∧ th = 1)) fl (fun th w1 => mSt G w w1 u th)) := by
  refine KM_of2 hls (by decide +kernel) rfl (lv0 := [(0, .ref (kad G 133)), (1, vI T)]) rfl (Nat.le_of_ble_eq_true rfl) (fun p e R s m args below meth c Q hC hr hQ => ?_)
  obtain ⟨⟨ls, lc, lo, hLs⟩, hx, hy, hHt⟩ := hSc
  have h0 := hI.c
  refine k_aload_n hC dX12_meanResidual_0 rfl 0 rfl ?_
  refine k_aload_n hC dX12_meanResidual_1 rfl 0 rfl ?_
  refine k_iload_n hC dX12_meanResidual_2 rfl 1 rfl ?_
  refine k_pureV hC (c_X12_isTime l hls G hN w fl u g T (by omega) hI hm hn) yy_X12_isTime wm_X12_262 (kl hN (by decide)) hm rfl rfl rfl rfl (Nat.le_of_ble_eq_true rfl) (by decide) (by decide) ⟨by decide, by decide⟩ dX12_meanResidual_3 ?_
  obtain ⟨z_1, ez_1, hz_1⟩ := k_bI (0 ≤ T ∧ T ≤ 5000)
  refine k_topv (vI z_1) (by rw [ez_1]) ?_
  refine k_if_eq hC 13 dX12_meanResidual_6 rfl (by omega) (fun c_6 => ?_) (fun c_6 => ?_)
  · refine k_iconst hC dX12_meanResidual_13 ?_
    refine k_put hC fd_X12_74 (kl hN (by decide)) hm [.ref (kad G 134), .ref (kad G 135), .ref (kad G 136), .ref (kad G 137), vI (u 4), vI 1, vI (u 6), .ref (kad G 138), .ref (kad G 139), .ref (kad G 140), .ref (kad G 141), .ref (kad G 142), vL (u 12), vL (u 13), .ref (kad G 143), vI (u 15), .ref (kad G 144), vI (u 17), vI (u 18), vI (u 19), vI (u 20), vI (u 21), vI (u 22), vI (u 23), vI (u 24), vI (u 25), .ref (kad G 145), .ref (kad G 146), .ref (kad G 147), vI (u 29)] rfl (Nat.le_of_ble_eq_true rfl) rfl rfl dX12_meanResidual_14 (fun w2 hw2 hf2 => ?_)
    refine k_aload_n hC dX12_meanResidual_17 rfl 0 rfl ?_
    refine k_get hC fd_X12_74 (kl hN (by decide)) hw2 rfl dX12_meanResidual_18 ?_
    refine k_if_ne hC 33 dX12_meanResidual_21 rfl (by omega) (fun c_21 => ?_) (fun c_21 => absurd c_21 (by omega))
    refine k_dconst0 hC dX12_meanResidual_33 ?_
    have hB_3 : kLns G w2 ls lc lo := hLs.fr (fun j q1 q2 => (hf2 j (by omega)))
    have hB_4 : kHts G w2 hx hy := hHt.fr (fun j q1 q2 => (hf2 j (by omega)))
    subst hQ
    exact k_dret hC hr ⟨by decide, by decide⟩ (⟨_, 1, rfl, rfl, Or.inr ⟨by omega, rfl⟩, ⟨⟨u 12, u 13, hw2⟩, ⟨⟨_, _, _, hB_3⟩, _, _, hB_4⟩, fun j hj => hf2 j (by omega)⟩⟩) dX12_meanResidual_34
  · refine k_iconst hC dX12_meanResidual_9 ?_
    refine k_goto hC 14 dX12_meanResidual_10 rfl ?_
    refine k_put hC fd_X12_74 (kl hN (by decide)) hm [.ref (kad G 134), .ref (kad G 135), .ref (kad G 136), .ref (kad G 137), vI (u 4), vI 0, vI (u 6), .ref (kad G 138), .ref (kad G 139), .ref (kad G 140), .ref (kad G 141), .ref (kad G 142), vL (u 12), vL (u 13), .ref (kad G 143), vI (u 15), .ref (kad G 144), vI (u 17), vI (u 18), vI (u 19), vI (u 20), vI (u 21), vI (u 22), vI (u 23), vI (u 24), vI (u 25), .ref (kad G 145), .ref (kad G 146), .ref (kad G 147), vI (u 29)] rfl (Nat.le_of_ble_eq_true rfl) rfl rfl dX12_meanResidual_14 (fun w5 hw5 hf5 => ?_)
    have ht : 0 ≤ T ∧ T ≤ 5000 := by omega
    refine k_aload_n hC dX12_meanResidual_17 rfl 0 rfl ?_
    refine k_get hC fd_X12_74 (kl hN (by decide)) hw5 rfl dX12_meanResidual_18 ?_
    refine k_if_ne hC 33 dX12_meanResidual_21 rfl (by omega) (fun c_21 => absurd c_21 (by omega)) (fun c_21 => ?_)
    refine k_aload_n hC dX12_meanResidual_24 rfl 0 rfl ?_
    refine k_iload_n hC dX12_meanResidual_25 rfl 1 rfl ?_
    refine k_i2l hC dX12_meanResidual_26 (by omega) ?_
    have h_6 : w5 134 = lA G 93 g := (hf5 134 (by decide)).trans hn
    have hB_7 : kLns G w5 ls lc lo := hLs.fr (fun j q1 q2 => (hf5 j (by omega)))
    refine k_mutV hC (c_X12_layFix l hls G hN w5 fl (kup u 5 0) g ls lc lo T hI (by omega) hw5 h_6 hB_7) yy_X12_layFix wm_X12_289 (kl hN (by decide)) hw5 rfl rfl rfl rfl (Nat.le_of_ble_eq_true rfl) (by decide) (by decide) ⟨by decide, by decide⟩ dX12_meanResidual_27 (fun w8 hp8 => ?_)
    obtain ⟨⟨ls8, lc8, lo8, hl8, hall8⟩, ⟨fe8, fn8, hu8, hfe8⟩, hf8⟩ := hp8
    have hall := hall8
    obtain ⟨zf, ezf, hzf⟩ := (⟨fixI g, rfl, fixI_c g⟩ : ∃ z : Int, fixI g = z ∧ ((z = 1 ∧ fixP g) ∨ (z = 0 ∧ ¬ fixP g)))
    refine k_topv (vI zf) (by rw [ezf]) ?_
    refine k_if_ne hC 35 dX12_meanResidual_30 rfl (by omega) (fun c_30 => ?_) (fun c_30 => ?_)
    · have hfp : fixP g := (hzf.resolve_right (fun q1 => by omega)).2
      have hft := hfe8 hfp
      have hn0 : g 2 ≠ 0 := fun q => fix_n0 q hfp
      refine k_lconst (x := 0) hC dX12_meanResidual_35 (by decide) ?_
      refine k_lstore_n hC [(2, vL 0), (0, .ref (kad G 133)), (1, vI T)] dX12_meanResidual_36 rfl (by decide) rfl ?_
      refine k_iconst hC dX12_meanResidual_37 ?_
      refine k_istore hC [(4, vI 0), (2, vL 0), (0, .ref (kad G 133)), (1, vI T)] dX12_meanResidual_38 (by decide) rfl ?_
      have loop : ∀ (n : Nat) (k : Nat) (sm : Int), ((g 2).toNat < n + k) → ((k : Int) ≤ g 2) → (0 ≤ sm ∧ sm ≤ 6300000 * (k : Int)) → (sm = sumR g T k) → KW p l e R s m args below meth c 5 G Q w8 fl 0 0 40 [(4, vI (k : Int)), (2, vL sm), (0, .ref (kad G 133)), (1, vI T)] [] := by
        intro n
        induction n with
        | zero =>
          intro k sm hn_ hk hsm hsq
          exact absurd hn_ (by omega)
        | succ n ih =>
          intro k sm hn_ hk hsm hsq
          refine k_iload hC dX12_meanResidual_40 0 rfl ?_
          refine k_i2l hC dX12_meanResidual_42 (by omega) ?_
          refine k_aload_n hC dX12_meanResidual_43 rfl 2 rfl ?_
          refine k_get hC fd_X12_9 (kl hN (by decide)) hu8 rfl dX12_meanResidual_44 ?_
          refine k_iconst hC dX12_meanResidual_47 ?_
          have h_9 : w8 134 = lA G 93 g := (hf8 134 (by omega)).trans h_6
          refine k_lald hC (kl hN (by decide)) h_9 (by omega) (by decide) dX12_meanResidual_48 ?_
          refine k_topv (vL (g 2)) rfl ?_
          refine k_lcmp_ge hC 71 dX12_meanResidual_49 dX12_meanResidual_50 rfl (by omega) (by omega) (fun c_49 => ?_) (fun c_49 => ?_)
          · refine k_lload_n hC dX12_meanResidual_71 rfl 1 rfl ?_
            refine k_l2d hC dX12_meanResidual_72 (by omega) ?_
            refine k_aload_n hC dX12_meanResidual_73 rfl 2 rfl ?_
            refine k_get hC fd_X12_9 (kl hN (by decide)) hu8 rfl dX12_meanResidual_74 ?_
            refine k_iconst hC dX12_meanResidual_77 ?_
            refine k_lald hC (kl hN (by decide)) h_9 (by omega) (by decide) dX12_meanResidual_78 ?_
            refine k_topv (vL (g 2)) rfl ?_
            refine k_l2d hC dX12_meanResidual_79 (by omega) ?_
            refine k_ddiv hC dX12_meanResidual_80 (ddiv_n _ (by omega)) ?_
            have hB_10 : kHts G w8 hx hy := hHt.fr (fun j q1 q2 => (hf8 j (by omega)).trans (hf5 j (by omega)))
            subst hQ
            exact k_dret hC hr ⟨by decide, by decide⟩ (⟨_, 0, rfl, rfl, Or.inl ⟨by omega, rfl, (show ((FP.ddiv (dI sm) (dI (g 2)) : UInt64) = mrV g T) from (by unfold mrV; rw [if_neg (fun q => q.elim hn0 (fun q2 => q2 hfp)), hsq, show (g 2).toNat = k by omega]))⟩, ⟨⟨fe8, fn8, hu8⟩, ⟨⟨_, _, _, hl8⟩, _, _, hB_10⟩, fun j hj => (hf8 j (by omega)).trans (hf5 j (by omega))⟩⟩) dX12_meanResidual_81
          · refine k_lload_n hC dX12_meanResidual_53 rfl 1 rfl ?_
            refine k_aload_n hC dX12_meanResidual_54 rfl 2 rfl ?_
            refine k_iload hC dX12_meanResidual_55 0 rfl ?_
            refine k_pureV hC (c_X12_residualOf l hls G hN w8 fl (kup (kup (kup u 5 0) 12 fe8) 13 fn8) g ls8 lc8 lo8 k T hI (by omega) ht (hall k (by omega)) hft hu8 h_9 hl8) yy_X12_residualOf wm_X12_293 (kl hN (by decide)) hu8 rfl rfl rfl rfl (Nat.le_of_ble_eq_true rfl) (by decide) (by decide) ⟨by decide, by decide⟩ dX12_meanResidual_57 ?_
            have hrb_11 := resM_b hI ht k (by omega)
            refine k_mabsL hC wm_X12_204 wmath_mabsL (by omega) (by decide) (Nat.le_of_ble_eq_true rfl) ⟨by decide, by decide⟩ dX12_meanResidual_60 ?_
            refine k_ladd hC dX12_meanResidual_63 ?_
            refine k_lstore_n hC [(2, vL (sm + ((resM g T k).natAbs : Int))), (4, vI (k : Int)), (0, .ref (kad G 133)), (1, vI T)] dX12_meanResidual_64 rfl (by decide) rfl ?_
            refine k_iinc hC (y := (k : Int) + 1) [(4, vI ((k : Int) + 1)), (2, vL (sm + ((resM g T k).natAbs : Int))), (0, .ref (kad G 133)), (1, vI T)] (j := 1) dX12_meanResidual_65 rfl (by omega) (by decide) rfl ?_
            refine k_goto hC 40 dX12_meanResidual_68 rfl ?_
            refine k_lvs (ls := [0, 1, 2, 3]) [(4, vI ((k + 1 : Nat) : Int)), (2, vL (sm + ((resM g T k).natAbs : Int))), (0, .ref (kad G 133)), (1, vI T)] (by simp only [lv_pick]; rfl) ?_
            exact ih (k + 1) (sm + ((resM g T k).natAbs : Int))  (by omega) (by omega) (by omega) (by rw [hsq]; rfl)
      refine k_lvs (ls := [0, 1, 2, 3]) [(4, vI ((0 : Nat) : Int)), (2, vL 0), (0, .ref (kad G 133)), (1, vI T)] (by simp only [lv_pick]; rfl) ?_
      exact loop 13 0 0  (by omega) (by omega) (by omega) rfl
    · have nfp : ¬ fixP g := (hzf.resolve_left (fun q1 => by omega)).2
      refine k_dconst0 hC dX12_meanResidual_33 ?_
      have hB_12 : kHts G w8 hx hy := hHt.fr (fun j q1 q2 => (hf8 j (by omega)).trans (hf5 j (by omega)))
      subst hQ
      exact k_dret hC hr ⟨by decide, by decide⟩ (⟨_, 0, rfl, rfl, Or.inl ⟨by omega, rfl, (show ((0 : UInt64) = mrV g T) from (by unfold mrV; exact (if_pos (Or.inr nfp)).symm))⟩, ⟨⟨fe8, fn8, hu8⟩, ⟨⟨_, _, _, hl8⟩, _, _, hB_12⟩, fun j hj => (hf8 j (by omega)).trans (hf5 j (by omega))⟩⟩) dX12_meanResidual_34

set_option maxRecDepth 100000 in
set_option maxHeartbeats 4000000 in
theorem c_X12_meanIntercept (l : Launch) (hls : l.stackTraces = false) (G : kG) (hN : kN G = 150) (w : Nat → va_E) (fl : va_W) (u g : Nat → Int) (hI : Inv g) (hm : w 133 = mdO G u) (hn : w 134 = lA G 93 g) (hSc : kScr G w) : KM l G yX12_meanIntercept cX12_meanIntercept 4 (some (FieldType.float)) 11 0 0 [.ref (kad G 133)] w fl (kRf (fun b th => (True ∧ th = 0 ∧ b = miV g) ∨ (False ∧ th = 1)) fl (fun th w1 => mSt G w w1 u th)) := by
  refine KM_of2 hls (by decide +kernel) rfl (lv0 := [(0, .ref (kad G 133))]) rfl (Nat.le_of_ble_eq_true rfl) (fun p e R s m args below meth c Q hC hr hQ => ?_)
  obtain ⟨⟨ls, lc, lo, hLs⟩, hx, hy, hHt⟩ := hSc
  have h0 := hI.c
  refine k_aload_n hC dX12_meanIntercept_0 rfl 0 rfl ?_
  refine k_iconst hC dX12_meanIntercept_1 ?_
  refine k_put hC fd_X12_74 (kl hN (by decide)) hm [.ref (kad G 134), .ref (kad G 135), .ref (kad G 136), .ref (kad G 137), vI (u 4), vI 0, vI (u 6), .ref (kad G 138), .ref (kad G 139), .ref (kad G 140), .ref (kad G 141), .ref (kad G 142), vL (u 12), vL (u 13), .ref (kad G 143), vI (u 15), .ref (kad G 144), vI (u 17), vI (u 18), vI (u 19), vI (u 20), vI (u 21), vI (u 22), vI (u 23), vI (u 24), vI (u 25), .ref (kad G 145), .ref (kad G 146), .ref (kad G 147), vI (u 29)] rfl (Nat.le_of_ble_eq_true rfl) rfl rfl dX12_meanIntercept_2 (fun w1 hw1 hf1 => ?_)
  refine k_lconst (x := 0) hC dX12_meanIntercept_5 (by decide) ?_
  refine k_lstore_n hC [(1, vL 0), (0, .ref (kad G 133))] dX12_meanIntercept_6 rfl (by decide) rfl ?_
  refine k_iconst hC dX12_meanIntercept_7 ?_
  refine k_istore_n hC [(3, vI 0), (1, vL 0), (0, .ref (kad G 133))] dX12_meanIntercept_8 rfl (by decide) rfl ?_
  have loop : ∀ (n : Nat) (k : Nat) (sm : Int), ((g 2).toNat < n + k) → ((k : Int) ≤ g 2) → (-(10560 * (k : Int)) ≤ sm ∧ sm ≤ 10560 * (k : Int)) → (sm = sumI g k) → KW p l e R s m args below meth c 4 G Q w1 fl 0 0 9 [(3, vI (k : Int)), (1, vL sm), (0, .ref (kad G 133))] [] := by
    intro n
    induction n with
    | zero =>
      intro k sm hn_ hk hsm hsq
      exact absurd hn_ (by omega)
    | succ n ih =>
      intro k sm hn_ hk hsm hsq
      refine k_iload_n hC dX12_meanIntercept_9 rfl 0 rfl ?_
      refine k_i2l hC dX12_meanIntercept_10 (by omega) ?_
      refine k_aload_n hC dX12_meanIntercept_11 rfl 2 rfl ?_
      refine k_get hC fd_X12_9 (kl hN (by decide)) hw1 rfl dX12_meanIntercept_12 ?_
      refine k_iconst hC dX12_meanIntercept_15 ?_
      have h_2 : w1 134 = lA G 93 g := (hf1 134 (by decide)).trans hn
      refine k_lald hC (kl hN (by decide)) h_2 (by omega) (by decide) dX12_meanIntercept_16 ?_
      refine k_topv (vL (g 2)) rfl ?_
      refine k_lcmp_ge hC 35 dX12_meanIntercept_17 dX12_meanIntercept_18 rfl (by omega) (by omega) (fun c_17 => ?_) (fun c_17 => ?_)
      · refine k_aload_n hC dX12_meanIntercept_35 rfl 2 rfl ?_
        refine k_get hC fd_X12_9 (kl hN (by decide)) hw1 rfl dX12_meanIntercept_36 ?_
        refine k_iconst hC dX12_meanIntercept_39 ?_
        refine k_lald hC (kl hN (by decide)) h_2 (by omega) (by decide) dX12_meanIntercept_40 ?_
        refine k_topv (vL (g 2)) rfl ?_
        refine k_lconst (x := 0) hC dX12_meanIntercept_41 (by decide) ?_
        refine k_lcmp_ne hC 50 dX12_meanIntercept_42 dX12_meanIntercept_43 rfl (by omega) (by omega) (fun c_42 => ?_) (fun c_42 => ?_)
        · refine k_lload_n hC dX12_meanIntercept_50 rfl 1 rfl ?_
          refine k_l2f hC dX12_meanIntercept_51 (by omega) ?_
          refine k_aload_n hC dX12_meanIntercept_52 rfl 2 rfl ?_
          refine k_get hC fd_X12_9 (kl hN (by decide)) hw1 rfl dX12_meanIntercept_53 ?_
          refine k_iconst hC dX12_meanIntercept_56 ?_
          refine k_lald hC (kl hN (by decide)) h_2 (by omega) (by decide) dX12_meanIntercept_57 ?_
          refine k_topv (vL (g 2)) rfl ?_
          refine k_l2f hC dX12_meanIntercept_58 (by omega) ?_
          refine k_fdiv hC dX12_meanIntercept_59 (fdiv_n _ (by omega)) ?_
          have hB_3 : kLns G w1 ls lc lo := hLs.fr (fun j q1 q2 => (hf1 j (by omega)))
          have hB_4 : kHts G w1 hx hy := hHt.fr (fun j q1 q2 => (hf1 j (by omega)))
          subst hQ
          exact k_fret hC hr ⟨by decide, by decide⟩ (⟨_, 0, rfl, rfl, Or.inl ⟨trivial, rfl, (show ((FP.fdiv (fI sm) (fI (g 2)) : UInt32) = miV g) from (by unfold miV; rw [if_neg (by omega), hsq, show (g 2).toNat = k by omega]))⟩, ⟨⟨u 12, u 13, hw1⟩, ⟨⟨_, _, _, hB_3⟩, _, _, hB_4⟩, fun j hj => hf1 j (by omega)⟩⟩) dX12_meanIntercept_60
        · refine k_fconst0 hC dX12_meanIntercept_46 ?_
          refine k_goto hC 60 dX12_meanIntercept_47 rfl ?_
          have hB_5 : kLns G w1 ls lc lo := hLs.fr (fun j q1 q2 => (hf1 j (by omega)))
          have hB_6 : kHts G w1 hx hy := hHt.fr (fun j q1 q2 => (hf1 j (by omega)))
          subst hQ
          exact k_fret hC hr ⟨by decide, by decide⟩ (⟨_, 0, rfl, rfl, Or.inl ⟨trivial, rfl, (show ((0 : UInt32) = miV g) from (by unfold miV; exact (if_pos (by omega)).symm))⟩, ⟨⟨u 12, u 13, hw1⟩, ⟨⟨_, _, _, hB_5⟩, _, _, hB_6⟩, fun j hj => hf1 j (by omega)⟩⟩) dX12_meanIntercept_60
      · refine k_lload_n hC dX12_meanIntercept_21 rfl 1 rfl ?_
        refine k_aload_n hC dX12_meanIntercept_22 rfl 2 rfl ?_
        refine k_iload_n hC dX12_meanIntercept_23 rfl 0 rfl ?_
        refine k_pureV hC (c_X12_intercept l hls G hN w1 fl (kup u 5 0) g k hI (by omega) hw1 h_2) yy_X12_intercept wm_X12_190 (kl hN (by decide)) hw1 rfl rfl rfl rfl (Nat.le_of_ble_eq_true rfl) (by decide) (by decide) ⟨by decide, by decide⟩ dX12_meanIntercept_24 ?_
        refine k_topv (vL (intM g k)) rfl ?_
        have hb_7 := intM_b hI k (by omega)
        refine k_ladd hC dX12_meanIntercept_27 ?_
        refine k_lstore_n hC [(1, vL (sm + (intM g k))), (3, vI (k : Int)), (0, .ref (kad G 133))] dX12_meanIntercept_28 rfl (by decide) rfl ?_
        refine k_iinc hC (y := (k : Int) + 1) [(3, vI ((k : Int) + 1)), (1, vL (sm + (intM g k))), (0, .ref (kad G 133))] (j := 1) dX12_meanIntercept_29 rfl (by omega) (by decide) rfl ?_
        refine k_goto hC 9 dX12_meanIntercept_32 rfl ?_
        refine k_lvs (ls := [0, 1, 2]) [(3, vI ((k + 1 : Nat) : Int)), (1, vL (sm + (intM g k))), (0, .ref (kad G 133))] (by simp only [lv_pick]; rfl) ?_
        exact ih (k + 1) (sm + (intM g k))  (by omega) (by omega) (by omega) (by rw [hsq]; rfl)
  refine k_lvs (ls := [0, 1, 2]) [(3, vI ((0 : Nat) : Int)), (1, vL 0), (0, .ref (kad G 133))] (by simp only [lv_pick]; rfl) ?_
  exact loop 13 0 0  (by omega) (by omega) (by omega) rfl

