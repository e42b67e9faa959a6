def kPl15 (w : Nat → va_E) : Prop := ∃ z x y : Int, w 15 = .inr (5, [vI z, vI x, vI y])
theorem kPl15.fr {w w1 : Nat → va_E} (h : kPl15 w) (hf : ∀ j, 15 ≤ j → j ≤ 15 → w1 j = w j) : kPl15 w1 := by
  unfold kPl15; rw [hf 15 (by omega) (by omega)]; exact h
noncomputable def fixI (g : Nat → Int) : Int := @ite Int (fixP g) (Classical.propDecidable _) 1 0
theorem fixI_1 {g : Nat → Int} (h : fixP g) : fixI g = 1 := by unfold fixI; exact if_pos h
theorem fixI_0 {g : Nat → Int} (h : ¬ fixP g) : fixI g = 0 := by unfold fixI; exact if_neg h
theorem fixI_c (g : Nat → Int) : (fixI g = 1 ∧ fixP g) ∨ (fixI g = 0 ∧ ¬ fixP g) := by
  by_cases h : fixP g
  · exact Or.inl ⟨fixI_1 h, h⟩
  · exact Or.inr ⟨fixI_0 h, h⟩
set_option maxRecDepth 100000 in
set_option maxHeartbeats 4000000 in
theorem c_X0_findFix (l : Launch) (hls : l.stackTraces = false) (G : kG) (hN : 133 ≤ kN G) (w : Nat → va_E) (fl : va_W) (g nl : Nat → Int) (T : Int) (hI : Inv g) (ht : 0 ≤ T ∧ T ≤ 5000) (hL : kLog G w 3 g) (hP : kPlan G w 32 g nl) (h10 : w 10 = chO G) (h11 : w 11 = liA G) (hLn : kLines w) (hSh : kShip w) (h15 : kPl15 w) : KM l G yX0_findFix cX0_findFix 18 (some (FieldType.boolean)) 6 0 0 [.ref (kad G 10), .ref (kad G 32), .ref (kad G 3), vI T] w fl (kMut (vI (fixI g)) fl (fun w1 => (∃ z x y : Int, w1 15 = .inr (5, [vI z, vI x, vI y]) ∧ (fixP g → x = fixE g T ∧ y = fixN g T)) ∧ kDrawn w1 g T (g 2).toNat ∧ kLines w1 ∧ kSh w1 g T ∧ ∀ j, (j ≠ 13 ∧ j ≠ 15 ∧ (j < 20 ∨ 31 < j)) → w1 j = w j)) := by
  refine KM_of2 hls (by decide +kernel) rfl (lv0 := [(0, .ref (kad G 10)), (1, .ref (kad G 32)), (2, .ref (kad G 3)), (3, vI T)]) rfl (Nat.le_of_ble_eq_true rfl) (fun p e R s m args below meth c Q hC hr hQ => ?_)
  have h0 := hI.c
  refine k_lconst (x := 0) hC dX0_findFix_0 (by decide) ?_
  refine k_lstore hC [(4, vL 0), (0, .ref (kad G 10)), (1, .ref (kad G 32)), (2, .ref (kad G 3)), (3, vI T)] dX0_findFix_1 (by decide) rfl ?_
  refine k_lconst (x := 0) hC dX0_findFix_3 (by decide) ?_
  refine k_lstore hC [(6, vL 0), (4, vL 0), (0, .ref (kad G 10)), (1, .ref (kad G 32)), (2, .ref (kad G 3)), (3, vI T)] dX0_findFix_4 (by decide) rfl ?_
  refine k_lconst (x := 0) hC dX0_findFix_6 (by decide) ?_
  refine k_lstore hC [(8, vL 0), (6, vL 0), (4, vL 0), (0, .ref (kad G 10)), (1, .ref (kad G 32)), (2, .ref (kad G 3)), (3, vI T)] dX0_findFix_7 (by decide) rfl ?_
  refine k_lconst (x := 0) hC dX0_findFix_9 (by decide) ?_
  refine k_lstore hC [(10, vL 0), (8, vL 0), (6, vL 0), (4, vL 0), (0, .ref (kad G 10)), (1, .ref (kad G 32)), (2, .ref (kad G 3)), (3, vI T)] dX0_findFix_10 (by decide) rfl ?_
  refine k_lconst (x := 0) hC dX0_findFix_12 (by decide) ?_
  refine k_lstore hC [(12, vL 0), (10, vL 0), (8, vL 0), (6, vL 0), (4, vL 0), (0, .ref (kad G 10)), (1, .ref (kad G 32)), (2, .ref (kad G 3)), (3, vI T)] dX0_findFix_13 (by decide) rfl ?_
  refine k_iconst hC dX0_findFix_15 ?_
  refine k_istore hC [(14, vI 0), (12, vL 0), (10, vL 0), (8, vL 0), (6, vL 0), (4, vL 0), (0, .ref (kad G 10)), (1, .ref (kad G 32)), (2, .ref (kad G 3)), (3, vI T)] dX0_findFix_16 (by decide) rfl ?_
  have loop : ∀ (n : Nat) (k : Nat) (va : Int) (vb : Int) (vc : Int) (vp : Int) (vq : Int) (u : Nat → va_E), ((g 2).toNat < n + k) → ((k : Int) ≤ g 2) → (va = fxA g k) → (vb = fxB g k) → (vc = fxC g k) → (vp = fxP g T k) → (vq = fxQ g T k) → (u 10 = .inr (0, [.ref (kad G 11), .ref (kad G 12), .ref (kad G 13), .ref (kad G 14), .ref (kad G 15), .ref (kad G 16)])) → (u 11 = rA G 4 12 (fun j => some (kad G (20 + j)))) → (kLog G u 3 g) → (kPlan G u 32 g nl) → (kLines u) → (kShip u) → (kDrawn u g T k) → (kPl15 u) → ((∀ j, (j ≠ 13 ∧ j ≠ 15 ∧ (j < 20 ∨ 31 < j)) → u j = w j)) → KW p l e R s m args below meth c 18 G Q u fl 0 0 18 [(14, vI (k : Int)), (12, vL vq), (10, vL vp), (8, vL vc), (6, vL vb), (4, vL va), (0, .ref (kad G 10)), (1, .ref (kad G 32)), (2, .ref (kad G 3)), (3, vI T)] [] := by
    intro n
    induction n with
    | zero =>
      intro k va vb vc vp vq u hn_ hk eva evb evc evp evq h10 h11 hL hP hLn hSh hD h15 hfr
      exact absurd hn_ (by omega)
    | succ n ih =>
      intro k va vb vc vp vq u hn_ hk eva evb evc evp evq h10 h11 hL hP hLn hSh hD h15 hfr
      refine k_iload hC dX0_findFix_18 0 rfl ?_
      refine k_aload_n hC dX0_findFix_20 rfl 8 rfl ?_
      refine k_get hC fd_X0_83 (kl hN (by decide)) hL.1 rfl dX0_findFix_21 ?_
      refine k_icmp_ge hC 150 dX0_findFix_24 rfl (by omega) (by omega) (fun c_24 => ?_) (fun c_24 => ?_)
      · refine k_lload hC dX0_findFix_150 5 rfl ?_
        refine k_lload hC dX0_findFix_152 3 rfl ?_
        refine k_lmul hC dX0_findFix_154 ?_
        refine k_lload hC dX0_findFix_155 4 rfl ?_
        refine k_lload hC dX0_findFix_157 4 rfl ?_
        refine k_lmul hC dX0_findFix_159 ?_
        refine k_lsub hC dX0_findFix_160 ?_
        refine k_topL (fun de ede => ?_)
        refine k_lstore hC [(14, vL de), (12, vL vq), (10, vL vp), (8, vL vc), (6, vL vb), (4, vL va), (0, .ref (kad G 10)), (1, .ref (kad G 32)), (2, .ref (kad G 3)), (3, vI T)] dX0_findFix_161 (by decide) rfl ?_
        have ek : (g 2).toNat = k := by omega
        have hx1 := fx_b g k (by omega)
        have hx2 := fxPQ_b hI ht k (by omega) (by omega)
        rw [← eva, ← evb, ← evc] at hx1
        rw [← evp, ← evq] at hx2
        have ede2 : de = fixD g := by unfold fixD; rw [ek, ← eva, ← evb, ← evc]; exact ede
        have hy1 := mul_le_abs (a := va) (b := vc) (A := 12000000) (B := 12000000) (by omega) (by omega)
        have hy2 := mul_le_abs (a := vb) (b := vb) (A := 12000000) (B := 12000000) (by omega) (by omega)
        have hy3 := mul_le_abs (a := vp) (b := vc) (A := 52000000) (B := 12000000) (by omega) (by omega)
        have hy4 := mul_le_abs (a := vq) (b := vb) (A := 52000000) (B := 12000000) (by omega) (by omega)
        have hy5 := mul_le_abs (a := vq) (b := va) (A := 52000000) (B := 12000000) (by omega) (by omega)
        have hy6 := mul_le_abs (a := vp) (b := vb) (A := 52000000) (B := 12000000) (by omega) (by omega)
        obtain ⟨z9, x9, y9, h159⟩ := h15
        skip
        refine k_aload_n hC dX0_findFix_163 rfl 6 rfl ?_
        refine k_get hC fd_X0_36 (kl hN (by decide)) h10 rfl dX0_findFix_164 ?_
        refine k_iconst hC dX0_findFix_167 ?_
        refine k_put hC fd_X0_115 (kl hN (by decide)) h159 [vI 0, vI x9, vI y9] rfl (Nat.le_of_ble_eq_true rfl) rfl rfl dX0_findFix_168 (fun w1 hw1 hf1 => ?_)
        refine k_lload hC dX0_findFix_171 0 rfl ?_
        refine k_ldc2 hC (x := 100000000000) (v := 100000000000) dX0_findFix_173 (by decide) wk_X0_116 ?_
        refine k_lcmp_lt hC 237 dX0_findFix_176 dX0_findFix_177 rfl (by omega) (by omega) (fun c_176 => ?_) (fun c_176 => ?_)
        · refine k_aload_n hC dX0_findFix_237 rfl 6 rfl ?_
          have h_2 : w1 10 = .inr (0, [.ref (kad G 11), .ref (kad G 12), .ref (kad G 13), .ref (kad G 14), .ref (kad G 15), .ref (kad G 16)]) := (hf1 10 (by decide)).trans h10
          refine k_get hC fd_X0_25 (kl hN (by decide)) h_2 rfl dX0_findFix_238 ?_
          refine k_aload_n hC dX0_findFix_241 rfl 8 rfl ?_
          refine k_iload_n hC dX0_findFix_242 rfl 9 rfl ?_
          have hB_4 : kShip w1 := hSh.fr (fun j q1 q2 => (hf1 j (by omega)))
          obtain ⟨xq_3, yq_3, laq_3, loq_3, hSq_3⟩ := hB_4
          have hB_5 : kLog G w1 3 g := hL.fr (fun j q1 q2 => (hf1 j (by omega)))
          refine k_muvV hC (c_X8_sailTo l hls G hN w1 fl g xq_3 yq_3 laq_3 loq_3 T hI (by omega) hB_5 hSq_3) yy_X8_sailTo wm_X0_56 (kl hN (by decide)) hSq_3 rfl rfl rfl rfl (Nat.le_of_ble_eq_true rfl) (by decide) (by decide) ⟨by decide, by decide⟩ dX0_findFix_243 (fun w6 hp6 => ?_)
          obtain ⟨hs6, hf6⟩ := hp6
          refine k_aload_n hC dX0_findFix_246 rfl 6 rfl ?_
          have h_7 : w6 10 = .inr (0, [.ref (kad G 11), .ref (kad G 12), .ref (kad G 13), .ref (kad G 14), .ref (kad G 15), .ref (kad G 16)]) := (hf6 10 (by decide)).trans h_2
          refine k_get hC fd_X0_36 (kl hN (by decide)) h_7 rfl dX0_findFix_247 ?_
          have h_8 : w6 15 = .inr (5, [vI 0, vI x9, vI y9]) := (hf6 15 (by decide)).trans hw1
          refine k_get hC fd_X0_115 (kl hN (by decide)) h_8 rfl dX0_findFix_250 ?_
          have hB_9 : kDrawn w6 g T k := hD.fr (fun j q1 q2 => (hf6 j (by omega)).trans (hf1 j (by omega)))
          have hB_10 : kLines w6 := hLn.fr (fun j q1 q2 => (hf6 j (by omega)).trans (hf1 j (by omega)))
          subst hQ
          exact k_zret hC (by omega) hr ⟨by decide, by decide⟩ (⟨congrArg (fun z => some (vI z)) (fixI_0 (show ¬ fixP g from by unfold fixP; omega)), rfl, ⟨_, _, _, h_8, fun hfp => absurd hfp (by unfold fixP; omega)⟩, by rw [ek]; exact hB_9, hB_10, ⟨_, _, hs6⟩, fun j hj => (hf6 j (by omega)).trans ((hf1 j (by omega)).trans (hfr j (by omega)))⟩) dX0_findFix_253
        · refine k_lload hC dX0_findFix_180 0 rfl ?_
          refine k_ldc2 hC (x := 1000) (v := 1000) dX0_findFix_182 (by decide) wk_X0_118 ?_
          refine k_pureSN hC (c_X11_down l hls G hN w1 fl de 1000 (by omega) (by omega)) yy_X11_down wm_X0_120 rfl rfl (Nat.le_of_ble_eq_true rfl) (by decide) (by decide) ⟨by decide, by decide⟩ dX0_findFix_185 ?_
          refine k_topL (fun by0 eby0 => ?_)
          refine k_lstore hC [(16, vL by0), (14, vL de), (12, vL vq), (10, vL vp), (8, vL vc), (6, vL vb), (4, vL va), (0, .ref (kad G 10)), (1, .ref (kad G 32)), (2, .ref (kad G 3)), (3, vI T)] dX0_findFix_188 (by decide) rfl ?_
          have eby2 : by0 = fixD g / 1000 := by rw [eby0, ede2, Int.fdiv_eq_ediv_of_nonneg _ (by decide)]
          have hfd1 := fdiv_abs (a := (vp * vc - vq * vb) * 1000) (b := by0) 2000000000000000000 (by omega) (by decide) (by omega)
          have hfd2 := fdiv_abs (a := (vq * va - vp * vb) * 1000) (b := by0) 2000000000000000000 (by omega) (by decide) (by omega)
          refine k_aload_n hC dX0_findFix_190 rfl 7 rfl ?_
          have h_11 : w1 10 = .inr (0, [.ref (kad G 11), .ref (kad G 12), .ref (kad G 13), .ref (kad G 14), .ref (kad G 15), .ref (kad G 16)]) := (hf1 10 (by decide)).trans h10
          refine k_get hC fd_X0_36 (kl hN (by decide)) h_11 rfl dX0_findFix_191 ?_
          refine k_lload hC dX0_findFix_194 3 rfl ?_
          refine k_lload hC dX0_findFix_196 4 rfl ?_
          refine k_lmul hC dX0_findFix_198 ?_
          refine k_lload hC dX0_findFix_199 2 rfl ?_
          refine k_lload hC dX0_findFix_201 5 rfl ?_
          refine k_lmul hC dX0_findFix_203 ?_
          refine k_lsub hC dX0_findFix_204 ?_
          refine k_ldc2 hC (x := 1000) (v := 1000) dX0_findFix_205 (by decide) wk_X0_118 ?_
          refine k_lmul hC dX0_findFix_208 ?_
          refine k_lload hC dX0_findFix_209 0 rfl ?_
          refine k_pureSN hC (c_X11_down l hls G hN w1 fl (((vp * vc) - (vq * vb)) * 1000) by0 (by omega) (by omega)) yy_X11_down wm_X0_120 rfl rfl (Nat.le_of_ble_eq_true rfl) (by decide) (by decide) ⟨by decide, by decide⟩ dX0_findFix_211 ?_
          refine k_lload hC dX0_findFix_214 2 rfl ?_
          refine k_lload hC dX0_findFix_216 6 rfl ?_
          refine k_lmul hC dX0_findFix_218 ?_
          refine k_lload hC dX0_findFix_219 3 rfl ?_
          refine k_lload hC dX0_findFix_221 5 rfl ?_
          refine k_lmul hC dX0_findFix_223 ?_
          refine k_lsub hC dX0_findFix_224 ?_
          refine k_ldc2 hC (x := 1000) (v := 1000) dX0_findFix_225 (by decide) wk_X0_118 ?_
          refine k_lmul hC dX0_findFix_228 ?_
          refine k_lload hC dX0_findFix_229 0 rfl ?_
          refine k_pureSN hC (c_X11_down l hls G hN w1 fl (((vq * va) - (vp * vb)) * 1000) by0 (by omega) (by omega)) yy_X11_down wm_X0_120 rfl rfl (Nat.le_of_ble_eq_true rfl) (by decide) (by decide) ⟨by decide, by decide⟩ dX0_findFix_231 ?_
          refine k_muvV hC (c_X5_putAt l hls G hN w1 fl 15 0 x9 y9 ((((vp * vc) - (vq * vb)) * 1000).fdiv by0) ((((vq * va) - (vp * vb)) * 1000).fdiv by0) (by decide) (by omega) (by omega) hw1) yy_X5_putAt wm_X0_123 (kl hN (by decide)) hw1 rfl rfl rfl rfl (Nat.le_of_ble_eq_true rfl) (by decide) (by decide) ⟨by decide, by decide⟩ dX0_findFix_234 (fun w12 hp12 => ?_)
          obtain ⟨hs12, hf12⟩ := hp12
          refine k_aload_n hC dX0_findFix_237 rfl 7 rfl ?_
          have h_13 : w12 10 = .inr (0, [.ref (kad G 11), .ref (kad G 12), .ref (kad G 13), .ref (kad G 14), .ref (kad G 15), .ref (kad G 16)]) := (hf12 10 (by decide)).trans h_11
          refine k_get hC fd_X0_25 (kl hN (by decide)) h_13 rfl dX0_findFix_238 ?_
          refine k_aload_n hC dX0_findFix_241 rfl 9 rfl ?_
          refine k_iload_n hC dX0_findFix_242 rfl 10 rfl ?_
          have hB_15 : kShip w12 := hSh.fr (fun j q1 q2 => (hf12 j (by omega)).trans (hf1 j (by omega)))
          obtain ⟨xq_14, yq_14, laq_14, loq_14, hSq_14⟩ := hB_15
          have hB_16 : kLog G w12 3 g := hL.fr (fun j q1 q2 => (hf12 j (by omega)).trans (hf1 j (by omega)))
          refine k_muvV hC (c_X8_sailTo l hls G hN w12 fl g xq_14 yq_14 laq_14 loq_14 T hI (by omega) hB_16 hSq_14) yy_X8_sailTo wm_X0_56 (kl hN (by decide)) hSq_14 rfl rfl rfl rfl (Nat.le_of_ble_eq_true rfl) (by decide) (by decide) ⟨by decide, by decide⟩ dX0_findFix_243 (fun w17 hp17 => ?_)
          obtain ⟨hs17, hf17⟩ := hp17
          refine k_aload_n hC dX0_findFix_246 rfl 7 rfl ?_
          have h_18 : w17 10 = .inr (0, [.ref (kad G 11), .ref (kad G 12), .ref (kad G 13), .ref (kad G 14), .ref (kad G 15), .ref (kad G 16)]) := (hf17 10 (by decide)).trans h_13
          refine k_get hC fd_X0_36 (kl hN (by decide)) h_18 rfl dX0_findFix_247 ?_
          have h_19 : w17 15 = .inr (5, [vI 1, vI (limM ((((vp * vc) - (vq * vb)) * 1000).fdiv by0)), vI (limM ((((vq * va) - (vp * vb)) * 1000).fdiv by0))]) := (hf17 15 (by decide)).trans hs12
          refine k_get hC fd_X0_115 (kl hN (by decide)) h_19 rfl dX0_findFix_250 ?_
          have hB_20 : kDrawn w17 g T k := hD.fr (fun j q1 q2 => (hf17 j (by omega)).trans ((hf12 j (by omega)).trans (hf1 j (by omega))))
          have hB_21 : kLines w17 := hLn.fr (fun j q1 q2 => (hf17 j (by omega)).trans ((hf12 j (by omega)).trans (hf1 j (by omega))))
          subst hQ
          exact k_zret hC (by omega) hr ⟨by decide, by decide⟩ (⟨congrArg (fun z => some (vI z)) (fixI_1 (show fixP g from by unfold fixP; omega)), rfl, ⟨_, _, _, h_19, fun hfp => ⟨by unfold fixE; rw [ek, ← evp, ← evq, ← evc, ← evb, ← eby2], by unfold fixN; rw [ek, ← evp, ← evq, ← eva, ← evb, ← eby2]⟩⟩, by rw [ek]; exact hB_20, hB_21, ⟨_, _, hs17⟩, fun j hj => (hf17 j (by omega)).trans ((hf12 j (by omega)).trans ((hf1 j (by omega)).trans (hfr j (by omega))))⟩) dX0_findFix_253
      · refine k_aload_n hC dX0_findFix_27 rfl 6 rfl ?_
        refine k_aload_n hC dX0_findFix_28 rfl 7 rfl ?_
        refine k_aload_n hC dX0_findFix_29 rfl 8 rfl ?_
        refine k_iload hC dX0_findFix_30 0 rfl ?_
        refine k_iload_n hC dX0_findFix_32 rfl 9 rfl ?_
        refine k_muvV hC (c_X0_drawLine l hls G hN u fl g nl k T (by omega) hI (by omega) hL hP h10 h11 hLn hSh) yy_X0_drawLine wm_X0_86 (kl hN (by decide)) h10 rfl rfl rfl rfl (Nat.le_of_ble_eq_true rfl) (by decide) (by decide) ⟨by decide, by decide⟩ dX0_findFix_33 (fun w22 hp22 => ?_)
        obtain ⟨hs22, ⟨la22, lo22, hq22⟩, hf22⟩ := hp22
        have hLn22 : kLines w22 := hLn.put (fun j q1 q2 q3 => hf22 j (by omega)) hs22
        have hD22 : kDrawn w22 g T (k + 1) := hD.put (fun j q1 q2 q3 => hf22 j (by omega)) hs22
        have hsz := sinM_b (aziM g k)
        have hcz := cosM_b (aziM g k)
        have hcr := carM_b hI k (by omega) ht
        have hm1 := mul_le_abs (a := sinM (aziM g k)) (b := sinM (aziM g k)) (A := 1000000) (B := 1000000) (by omega) (by omega)
        have hm2 := mul_le_abs (a := sinM (aziM g k)) (b := cosM (aziM g k)) (A := 1000000) (B := 1000000) (by omega) (by omega)
        have hm3 := mul_le_abs (a := cosM (aziM g k)) (b := cosM (aziM g k)) (A := 1000000) (B := 1000000) (by omega) (by omega)
        have hm4 := mul_le_abs (a := carM g k T) (b := sinM (aziM g k)) (A := 4300000) (B := 1000000) (by omega) (by omega)
        have hm5 := mul_le_abs (a := carM g k T) (b := cosM (aziM g k)) (A := 4300000) (B := 1000000) (by omega) (by omega)
        refine k_aload_n hC dX0_findFix_36 rfl 6 rfl ?_
        refine k_iload hC dX0_findFix_37 0 rfl ?_
        have h_23 : w22 10 = .inr (0, [.ref (kad G 11), .ref (kad G 12), .ref (kad G 13), .ref (kad G 14), .ref (kad G 15), .ref (kad G 16)]) := (hf22 10 (by omega)).trans h10
        have h_24 : w22 11 = rA G 4 12 (fun j => some (kad G (20 + j))) := (hf22 11 (by omega)).trans h11
        refine k_pureV hC (c_X0_lineOf l hls G hN w22 fl k (by omega) h_23 h_24) yy_X0_lineOf wm_X0_64 (kl hN (by decide)) h_23 rfl rfl rfl rfl (Nat.le_of_ble_eq_true rfl) (by decide) (by decide) ⟨by decide, by decide⟩ dX0_findFix_39 ?_
        refine k_astore hC [(15, .ref (kad G (20 + k))), (14, vI (k : Int)), (12, vL vq), (10, vL vp), (8, vL vc), (6, vL vb), (4, vL va), (0, .ref (kad G 10)), (1, .ref (kad G 32)), (2, .ref (kad G 3)), (3, vI T)] dX0_findFix_42 (by decide) rfl ?_
        refine k_lload hC dX0_findFix_44 6 rfl ?_
        refine k_aload hC dX0_findFix_46 0 rfl ?_
        refine k_getN hC fd_X0_102 (kl hN (by omega)) hs22 rfl dX0_findFix_48 ?_
        refine k_i2l hC dX0_findFix_51 (by omega) ?_
        refine k_aload hC dX0_findFix_52 0 rfl ?_
        refine k_getN hC fd_X0_102 (kl hN (by omega)) hs22 rfl dX0_findFix_54 ?_
        refine k_i2l hC dX0_findFix_57 (by omega) ?_
        refine k_pureSN hC (c_X11_product l hls G hN w22 fl (sinM (aziM g k)) (sinM (aziM g k)) (by omega)) yy_X11_product wm_X0_105 rfl rfl (Nat.le_of_ble_eq_true rfl) (by decide) (by decide) ⟨by decide, by decide⟩ dX0_findFix_58 ?_
        refine k_ladd hC dX0_findFix_61 ?_
        refine k_lstore hC [(4, vL (va + (prodM (sinM (aziM g k)) (sinM (aziM g k))))), (15, .ref (kad G (20 + k))), (14, vI (k : Int)), (12, vL vq), (10, vL vp), (8, vL vc), (6, vL vb), (0, .ref (kad G 10)), (1, .ref (kad G 32)), (2, .ref (kad G 3)), (3, vI T)] dX0_findFix_62 (by decide) rfl ?_
        refine k_lload hC dX0_findFix_64 6 rfl ?_
        refine k_aload hC dX0_findFix_66 1 rfl ?_
        refine k_getN hC fd_X0_102 (kl hN (by omega)) hs22 rfl dX0_findFix_68 ?_
        refine k_i2l hC dX0_findFix_71 (by omega) ?_
        refine k_aload hC dX0_findFix_72 1 rfl ?_
        refine k_getN hC fd_X0_109 (kl hN (by omega)) hs22 rfl dX0_findFix_74 ?_
        refine k_i2l hC dX0_findFix_77 (by omega) ?_
        refine k_pureSN hC (c_X11_product l hls G hN w22 fl (sinM (aziM g k)) (cosM (aziM g k)) (by omega)) yy_X11_product wm_X0_105 rfl rfl (Nat.le_of_ble_eq_true rfl) (by decide) (by decide) ⟨by decide, by decide⟩ dX0_findFix_78 ?_
        refine k_ladd hC dX0_findFix_81 ?_
        refine k_lstore hC [(6, vL (vb + (prodM (sinM (aziM g k)) (cosM (aziM g k))))), (4, vL (va + (prodM (sinM (aziM g k)) (sinM (aziM g k))))), (15, .ref (kad G (20 + k))), (14, vI (k : Int)), (12, vL vq), (10, vL vp), (8, vL vc), (0, .ref (kad G 10)), (1, .ref (kad G 32)), (2, .ref (kad G 3)), (3, vI T)] dX0_findFix_82 (by decide) rfl ?_
        refine k_lload hC dX0_findFix_84 6 rfl ?_
        refine k_aload hC dX0_findFix_86 2 rfl ?_
        refine k_getN hC fd_X0_109 (kl hN (by omega)) hs22 rfl dX0_findFix_88 ?_
        refine k_i2l hC dX0_findFix_91 (by omega) ?_
        refine k_aload hC dX0_findFix_92 2 rfl ?_
        refine k_getN hC fd_X0_109 (kl hN (by omega)) hs22 rfl dX0_findFix_94 ?_
        refine k_i2l hC dX0_findFix_97 (by omega) ?_
        refine k_pureSN hC (c_X11_product l hls G hN w22 fl (cosM (aziM g k)) (cosM (aziM g k)) (by omega)) yy_X11_product wm_X0_105 rfl rfl (Nat.le_of_ble_eq_true rfl) (by decide) (by decide) ⟨by decide, by decide⟩ dX0_findFix_98 ?_
        refine k_ladd hC dX0_findFix_101 ?_
        refine k_lstore hC [(8, vL (vc + (prodM (cosM (aziM g k)) (cosM (aziM g k))))), (6, vL (vb + (prodM (sinM (aziM g k)) (cosM (aziM g k))))), (4, vL (va + (prodM (sinM (aziM g k)) (sinM (aziM g k))))), (15, .ref (kad G (20 + k))), (14, vI (k : Int)), (12, vL vq), (10, vL vp), (0, .ref (kad G 10)), (1, .ref (kad G 32)), (2, .ref (kad G 3)), (3, vI T)] dX0_findFix_102 (by decide) rfl ?_
        refine k_lload hC dX0_findFix_104 6 rfl ?_
        refine k_aload hC dX0_findFix_106 3 rfl ?_
        refine k_get hC fd_X0_112 (kl hN (by omega)) hs22 rfl dX0_findFix_108 ?_
        refine k_i2l hC dX0_findFix_111 (by omega) ?_
        refine k_aload hC dX0_findFix_112 3 rfl ?_
        refine k_getN hC fd_X0_102 (kl hN (by omega)) hs22 rfl dX0_findFix_114 ?_
        refine k_i2l hC dX0_findFix_117 (by omega) ?_
        refine k_pureSN hC (c_X11_product l hls G hN w22 fl (carM g k T) (sinM (aziM g k)) (by omega)) yy_X11_product wm_X0_105 rfl rfl (Nat.le_of_ble_eq_true rfl) (by decide) (by decide) ⟨by decide, by decide⟩ dX0_findFix_118 ?_
        refine k_ladd hC dX0_findFix_121 ?_
        refine k_lstore hC [(10, vL (vp + (prodM (carM g k T) (sinM (aziM g k))))), (8, vL (vc + (prodM (cosM (aziM g k)) (cosM (aziM g k))))), (6, vL (vb + (prodM (sinM (aziM g k)) (cosM (aziM g k))))), (4, vL (va + (prodM (sinM (aziM g k)) (sinM (aziM g k))))), (15, .ref (kad G (20 + k))), (14, vI (k : Int)), (12, vL vq), (0, .ref (kad G 10)), (1, .ref (kad G 32)), (2, .ref (kad G 3)), (3, vI T)] dX0_findFix_122 (by decide) rfl ?_
        refine k_lload hC dX0_findFix_124 6 rfl ?_
        refine k_aload hC dX0_findFix_126 4 rfl ?_
        refine k_get hC fd_X0_112 (kl hN (by omega)) hs22 rfl dX0_findFix_128 ?_
        refine k_i2l hC dX0_findFix_131 (by omega) ?_
        refine k_aload hC dX0_findFix_132 4 rfl ?_
        refine k_getN hC fd_X0_109 (kl hN (by omega)) hs22 rfl dX0_findFix_134 ?_
        refine k_i2l hC dX0_findFix_137 (by omega) ?_
        refine k_pureSN hC (c_X11_product l hls G hN w22 fl (carM g k T) (cosM (aziM g k)) (by omega)) yy_X11_product wm_X0_105 rfl rfl (Nat.le_of_ble_eq_true rfl) (by decide) (by decide) ⟨by decide, by decide⟩ dX0_findFix_138 ?_
        refine k_ladd hC dX0_findFix_141 ?_
        refine k_lstore hC [(12, vL (vq + (prodM (carM g k T) (cosM (aziM g k))))), (10, vL (vp + (prodM (carM g k T) (sinM (aziM g k))))), (8, vL (vc + (prodM (cosM (aziM g k)) (cosM (aziM g k))))), (6, vL (vb + (prodM (sinM (aziM g k)) (cosM (aziM g k))))), (4, vL (va + (prodM (sinM (aziM g k)) (sinM (aziM g k))))), (15, .ref (kad G (20 + k))), (14, vI (k : Int)), (0, .ref (kad G 10)), (1, .ref (kad G 32)), (2, .ref (kad G 3)), (3, vI T)] dX0_findFix_142 (by decide) rfl ?_
        refine k_iinc hC (y := (k : Int) + 1) [(14, vI ((k : Int) + 1)), (12, vL (vq + (prodM (carM g k T) (cosM (aziM g k))))), (10, vL (vp + (prodM (carM g k T) (sinM (aziM g k))))), (8, vL (vc + (prodM (cosM (aziM g k)) (cosM (aziM g k))))), (6, vL (vb + (prodM (sinM (aziM g k)) (cosM (aziM g k))))), (4, vL (va + (prodM (sinM (aziM g k)) (sinM (aziM g k))))), (15, .ref (kad G (20 + k))), (0, .ref (kad G 10)), (1, .ref (kad G 32)), (2, .ref (kad G 3)), (3, vI T)] (j := 6) dX0_findFix_144 rfl (by omega) (by decide) rfl ?_
        refine k_goto hC 18 dX0_findFix_147 rfl ?_
        refine k_lvs (ls := [0, 1, 2, 3, 4, 5, 7, 8, 9, 10]) [(14, vI ((k : Int) + 1)), (12, vL (vq + (prodM (carM g k T) (cosM (aziM g k))))), (10, vL (vp + (prodM (carM g k T) (sinM (aziM g k))))), (8, vL (vc + (prodM (cosM (aziM g k)) (cosM (aziM g k))))), (6, vL (vb + (prodM (sinM (aziM g k)) (cosM (aziM g k))))), (4, vL (va + (prodM (sinM (aziM g k)) (sinM (aziM g k))))), (0, .ref (kad G 10)), (1, .ref (kad G 32)), (2, .ref (kad G 3)), (3, vI T)] rfl ?_
        refine k_lvs (ls := [0, 1, 2, 3, 4, 5, 6, 7, 8, 9]) [(14, vI ((k + 1 : Nat) : Int)), (12, vL (vq + (prodM (carM g k T) (cosM (aziM g k))))), (10, vL (vp + (prodM (carM g k T) (sinM (aziM g k))))), (8, vL (vc + (prodM (cosM (aziM g k)) (cosM (aziM g k))))), (6, vL (vb + (prodM (sinM (aziM g k)) (cosM (aziM g k))))), (4, vL (va + (prodM (sinM (aziM g k)) (sinM (aziM g k))))), (0, .ref (kad G 10)), (1, .ref (kad G 32)), (2, .ref (kad G 3)), (3, vI T)] (by simp only [lv_pick]; rfl) ?_
        have hB_25 : kLog G w22 3 g := hL.fr (fun j q1 q2 => (hf22 j (by omega)))
        have hB_26 : kPlan G w22 32 g nl := hP.fr (fun j q1 q2 => (hf22 j (by omega)))
        have hB_27 : kPl15 w22 := h15.fr (fun j q1 q2 => (hf22 j (by omega)))
        exact ih (k + 1) (va + (prodM (sinM (aziM g k)) (sinM (aziM g k)))) (vb + (prodM (sinM (aziM g k)) (cosM (aziM g k)))) (vc + (prodM (cosM (aziM g k)) (cosM (aziM g k)))) (vp + (prodM (carM g k T) (sinM (aziM g k)))) (vq + (prodM (carM g k T) (cosM (aziM g k)))) w22 (by omega) (by omega) (by rw [eva]; rfl) (by rw [evb]; rfl) (by rw [evc]; rfl) (by rw [evp]; rfl) (by rw [evq]; rfl) h_23 h_24 hB_25 hB_26 hLn22 (⟨_, _, _, _, hq22⟩) hD22 hB_27 (fun j hj => (hf22 j (by omega)).trans (hfr j (by omega)))
  refine k_lvs (ls := [0, 1, 2, 3, 4, 5, 6, 7, 8, 9]) [(14, vI ((0 : Nat) : Int)), (12, vL 0), (10, vL 0), (8, vL 0), (6, vL 0), (4, vL 0), (0, .ref (kad G 10)), (1, .ref (kad G 32)), (2, .ref (kad G 3)), (3, vI T)] (by simp only [lv_pick]; rfl) ?_
  exact loop 13 0 0 0 0 0 0 w (by omega) (by omega) rfl rfl rfl rfl rfl h10 h11 hL hP hLn hSh (kDrawn.zero (w := w) (g := g) (T := T)) h15 (fun j hj => rfl)

set_option maxRecDepth 100000 in
set_option maxHeartbeats 4000000 in
theorem c_X0_distanceOff (l : Launch) (hls : l.stackTraces = false) (G : kG) (hN : 133 ≤ kN G) (w : Nat → va_E) (fl : va_W) (z0 fe fn se sn la lo : Int) (h10 : w 10 = chO G) (h11 : w 11 = liA G) (hfe : -1000000 ≤ fe ∧ fe ≤ 1000000) (hfn : -1000000 ≤ fn ∧ fn ≤ 1000000) (hse : -420000 ≤ se ∧ se ≤ 420000) (hsn : -420000 ≤ sn ∧ sn ≤ 420000) (hp : w 15 = .inr (5, [vI z0, vI fe, vI fn])) (hs : w 13 = .inr (8, [vI se, vI sn, vI la, vI lo])) : KM l G yX0_distanceOff cX0_distanceOff 5 (some (FieldType.int)) 1 0 0 [.ref (kad G 10)] w fl (kPure (vI (rootM ((fe - se) * (fe - se) + (fn - sn) * (fn - sn)))) w fl) := by
  refine KM_of2 hls (by decide +kernel) rfl (lv0 := [(0, .ref (kad G 10))]) rfl (Nat.le_of_ble_eq_true rfl) (fun p e R s m args below meth c Q hC hr hQ => ?_)
  refine k_aload_n hC dX0_distanceOff_0 rfl 0 rfl ?_
  refine k_get hC fd_X0_36 (kl hN (by decide)) h10 rfl dX0_distanceOff_1 ?_
  refine k_get hC fd_X0_127 (kl hN (by decide)) hp rfl dX0_distanceOff_4 ?_
  refine k_aload_n hC dX0_distanceOff_7 rfl 0 rfl ?_
  refine k_get hC fd_X0_25 (kl hN (by decide)) h10 rfl dX0_distanceOff_8 ?_
  refine k_get hC fd_X0_72 (kl hN (by decide)) hs rfl dX0_distanceOff_11 ?_
  refine k_isub hC dX0_distanceOff_14 ?_
  refine k_i2l hC dX0_distanceOff_15 (by omega) ?_
  refine k_topL (fun dx edx => ?_)
  refine k_lstore_n hC [(1, vL dx), (0, .ref (kad G 10))] dX0_distanceOff_16 rfl (by decide) rfl ?_
  refine k_aload_n hC dX0_distanceOff_17 rfl 1 rfl ?_
  refine k_get hC fd_X0_36 (kl hN (by decide)) h10 rfl dX0_distanceOff_18 ?_
  refine k_get hC fd_X0_128 (kl hN (by decide)) hp rfl dX0_distanceOff_21 ?_
  refine k_aload_n hC dX0_distanceOff_24 rfl 1 rfl ?_
  refine k_get hC fd_X0_25 (kl hN (by decide)) h10 rfl dX0_distanceOff_25 ?_
  refine k_get hC fd_X0_76 (kl hN (by decide)) hs rfl dX0_distanceOff_28 ?_
  refine k_isub hC dX0_distanceOff_31 ?_
  refine k_i2l hC dX0_distanceOff_32 (by omega) ?_
  refine k_topL (fun dy edy => ?_)
  refine k_lstore_n hC [(3, vL dy), (1, vL dx), (0, .ref (kad G 10))] dX0_distanceOff_33 rfl (by decide) rfl ?_
  have hm1 := mul_le_abs (a := dx) (b := dx) (A := 1420000) (B := 1420000) (by omega) (by omega)
  have hm2 := mul_le_abs (a := dy) (b := dy) (A := 1420000) (B := 1420000) (by omega) (by omega)
  have hn1 := sq_nn dx
  have hn2 := sq_nn dy
  refine k_lload_n hC dX0_distanceOff_34 rfl 1 rfl ?_
  refine k_lload_n hC dX0_distanceOff_35 rfl 1 rfl ?_
  refine k_lmul hC dX0_distanceOff_36 ?_
  refine k_lload_n hC dX0_distanceOff_37 rfl 0 rfl ?_
  refine k_lload_n hC dX0_distanceOff_38 rfl 0 rfl ?_
  refine k_lmul hC dX0_distanceOff_39 ?_
  refine k_ladd hC dX0_distanceOff_40 ?_
  refine k_pureSN hC (c_X11_rootOf l hls G hN w fl ((dx * dx) + (dy * dy)) (by omega)) yy_X11_rootOf wm_X0_129 rfl rfl (Nat.le_of_ble_eq_true rfl) (by decide) (by decide) ⟨by decide, by decide⟩ dX0_distanceOff_41 ?_
  subst hQ
  exact k_iret hC hr ⟨by decide, by decide⟩ (⟨congrArg (fun z => some (vI z)) (show (rootM ((fe - se) * (fe - se) + (fn - sn) * (fn - sn)) : Int) = rootM ((dx * dx) + (dy * dy)) from by rw [edx, edy]), rfl, rfl⟩) dX0_distanceOff_44

noncomputable def dirM (x y r : Int) : Int :=
  if r = 0 then 0 else if 0 ≤ x then (if 0 ≤ y then arcM (limM ((x.natAbs * 1000000 : Int).fdiv r)) else 10800 - arcM (limM ((x.natAbs * 1000000 : Int).fdiv r)))
  else if y < 0 then 10800 + arcM (limM ((x.natAbs * 1000000 : Int).fdiv r)) else if arcM (limM ((x.natAbs * 1000000 : Int).fdiv r)) = 0 then 0 else 21600 - arcM (limM ((x.natAbs * 1000000 : Int).fdiv r))
set_option maxRecDepth 100000 in
set_option maxHeartbeats 4000000 in
theorem c_X0_directionOff (l : Launch) (hls : l.stackTraces = false) (G : kG) (hN : 133 ≤ kN G) (w : Nat → va_E) (fl : va_W) (z0 fe fn se sn la lo r : Int) (h10 : w 10 = chO G) (h11 : w 11 = liA G) (hfe : -1000000 ≤ fe ∧ fe ≤ 1000000) (hfn : -1000000 ≤ fn ∧ fn ≤ 1000000) (hse : -420000 ≤ se ∧ se ≤ 420000) (hsn : -420000 ≤ sn ∧ sn ≤ 420000) (hr9 : 0 ≤ r ∧ r ≤ 2147483647) (hp : w 15 = .inr (5, [vI z0, vI fe, vI fn])) (hs : w 13 = .inr (8, [vI se, vI sn, vI la, vI lo])) : KM l G yX0_directionOff cX0_directionOff 6 (some (FieldType.int)) 3 0 0 [.ref (kad G 10), vI r] w fl (kPure (vI (dirM (fe - se) (fn - sn) r)) w fl) := by
  refine KM_of2 hls (by decide +kernel) rfl (lv0 := [(0, .ref (kad G 10)), (1, vI r)]) rfl (Nat.le_of_ble_eq_true rfl) (fun p e R s m args below meth c Q hC hr hQ => ?_)
  refine k_iload_n hC dX0_directionOff_0 rfl 1 rfl ?_
  refine k_if_ne hC 6 dX0_directionOff_1 rfl (by omega) (fun c_1 => ?_) (fun c_1 => ?_)
  · refine k_aload_n hC dX0_directionOff_6 rfl 0 rfl ?_
    refine k_get hC fd_X0_36 (kl hN (by decide)) h10 rfl dX0_directionOff_7 ?_
    refine k_get hC fd_X0_127 (kl hN (by decide)) hp rfl dX0_directionOff_10 ?_
    refine k_aload_n hC dX0_directionOff_13 rfl 0 rfl ?_
    refine k_get hC fd_X0_25 (kl hN (by decide)) h10 rfl dX0_directionOff_14 ?_
    refine k_get hC fd_X0_72 (kl hN (by decide)) hs rfl dX0_directionOff_17 ?_
    refine k_isub hC dX0_directionOff_20 ?_
    refine k_i2l hC dX0_directionOff_21 (by omega) ?_
    refine k_topL (fun dx edx => ?_)
    refine k_lstore_n hC [(2, vL dx), (0, .ref (kad G 10)), (1, vI r)] dX0_directionOff_22 rfl (by decide) rfl ?_
    refine k_aload_n hC dX0_directionOff_23 rfl 1 rfl ?_
    refine k_get hC fd_X0_36 (kl hN (by decide)) h10 rfl dX0_directionOff_24 ?_
    refine k_get hC fd_X0_128 (kl hN (by decide)) hp rfl dX0_directionOff_27 ?_
    refine k_aload_n hC dX0_directionOff_30 rfl 1 rfl ?_
    refine k_get hC fd_X0_25 (kl hN (by decide)) h10 rfl dX0_directionOff_31 ?_
    refine k_get hC fd_X0_76 (kl hN (by decide)) hs rfl dX0_directionOff_34 ?_
    refine k_icmp_lt hC 44 dX0_directionOff_37 rfl (by omega) (by omega) (fun c_37 => ?_) (fun c_37 => ?_)
    · refine k_iconst hC dX0_directionOff_44 ?_
      refine k_istore hC [(4, vI 0), (2, vL dx), (0, .ref (kad G 10)), (1, vI r)] dX0_directionOff_45 (by decide) rfl ?_
      refine k_lload_n hC dX0_directionOff_47 rfl 1 rfl ?_
      refine k_mabsL hC wm_X0_133 wmath_mabsL (by omega) (by decide) (Nat.le_of_ble_eq_true rfl) ⟨by decide, by decide⟩ dX0_directionOff_48 ?_
      refine k_ldc2 hC (x := 1000000) (v := 1000000) dX0_directionOff_51 (by decide) wk_X0_139 ?_
      refine k_lmul hC dX0_directionOff_54 ?_
      have hfd := k_fdivb (a := (dx.natAbs : Int) * 1000000) (b := r) (by omega)
      refine k_iload_n hC dX0_directionOff_55 rfl 3 rfl ?_
      refine k_i2l hC dX0_directionOff_56 (by omega) ?_
      refine k_pureSN hC (c_X11_down l hls G hN w fl (((dx).natAbs : Int) * 1000000) r (by omega) (by omega)) yy_X11_down wm_X0_120 rfl rfl (Nat.le_of_ble_eq_true rfl) (by decide) (by decide) ⟨by decide, by decide⟩ dX0_directionOff_57 ?_
      refine k_pureSN hC (c_X11_limited l hls G hN w fl ((((dx).natAbs : Int) * 1000000).fdiv r) (by omega)) yy_X11_limited wm_X0_141 rfl rfl (Nat.le_of_ble_eq_true rfl) (by decide) (by decide) ⟨by decide, by decide⟩ dX0_directionOff_60 ?_
      have hb_1 := limM_b ((((dx).natAbs : Int) * 1000000).fdiv r)
      refine k_pureSN hC (c_X11_arcOf l hls G hN w fl (limM ((((dx).natAbs : Int) * 1000000).fdiv r)) (by omega)) yy_X11_arcOf wm_X0_144 rfl rfl (Nat.le_of_ble_eq_true rfl) (by decide) (by decide) ⟨by decide, by decide⟩ dX0_directionOff_63 ?_
      refine k_topI (fun an ean => ?_)
      refine k_istore hC [(5, vI an), (4, vI 0), (2, vL dx), (0, .ref (kad G 10)), (1, vI r)] dX0_directionOff_66 (by decide) rfl ?_
      have han := arcM_b (limM (((dx.natAbs : Int) * 1000000).fdiv r))
      rw [← ean] at han
      refine k_lload_n hC dX0_directionOff_68 rfl 2 rfl ?_
      refine k_lconst (x := 0) hC dX0_directionOff_69 (by decide) ?_
      refine k_lcmp_lt hC 91 dX0_directionOff_70 dX0_directionOff_71 rfl (by omega) (by omega) (fun c_70 => ?_) (fun c_70 => ?_)
      · refine k_iload hC dX0_directionOff_91 1 rfl ?_
        refine k_if_ne hC 103 dX0_directionOff_93 rfl (by omega) (fun c_93 => absurd c_93 (by omega)) (fun c_93 => ?_)
        refine k_sipush hC dX0_directionOff_96 (by decide) ?_
        refine k_iload hC dX0_directionOff_99 0 rfl ?_
        refine k_iadd hC dX0_directionOff_101 ?_
        subst hQ
        exact k_iret hC hr ⟨by decide, by decide⟩ (⟨congrArg (fun z => some (vI z)) (show (dirM (fe - se) (fn - sn) r : Int) = 10800 + an from by unfold dirM; first | rw [if_pos (by omega)] | (rw [← edx, ← ean, if_neg (by omega)]; repeat (first | rw [if_pos (by omega)] | rw [if_neg (by omega)]))), rfl, rfl⟩) dX0_directionOff_102
      · refine k_iload hC dX0_directionOff_74 1 rfl ?_
        refine k_if_eq hC 84 dX0_directionOff_76 rfl (by omega) (fun c_76 => ?_) (fun c_76 => absurd c_76 (by omega))
        refine k_sipush hC dX0_directionOff_84 (by decide) ?_
        refine k_iload hC dX0_directionOff_87 0 rfl ?_
        refine k_isub hC dX0_directionOff_89 ?_
        subst hQ
        exact k_iret hC hr ⟨by decide, by decide⟩ (⟨congrArg (fun z => some (vI z)) (show (dirM (fe - se) (fn - sn) r : Int) = 10800 - an from by unfold dirM; first | rw [if_pos (by omega)] | (rw [← edx, ← ean, if_neg (by omega)]; repeat (first | rw [if_pos (by omega)] | rw [if_neg (by omega)]))), rfl, rfl⟩) dX0_directionOff_90
    · refine k_iconst hC dX0_directionOff_40 ?_
      refine k_goto hC 45 dX0_directionOff_41 rfl ?_
      refine k_istore hC [(4, vI 1), (2, vL dx), (0, .ref (kad G 10)), (1, vI r)] dX0_directionOff_45 (by decide) rfl ?_
      refine k_lload_n hC dX0_directionOff_47 rfl 1 rfl ?_
      refine k_mabsL hC wm_X0_133 wmath_mabsL (by omega) (by decide) (Nat.le_of_ble_eq_true rfl) ⟨by decide, by decide⟩ dX0_directionOff_48 ?_
      refine k_ldc2 hC (x := 1000000) (v := 1000000) dX0_directionOff_51 (by decide) wk_X0_139 ?_
      refine k_lmul hC dX0_directionOff_54 ?_
      have hfd := k_fdivb (a := (dx.natAbs : Int) * 1000000) (b := r) (by omega)
      refine k_iload_n hC dX0_directionOff_55 rfl 3 rfl ?_
      refine k_i2l hC dX0_directionOff_56 (by omega) ?_
      refine k_pureSN hC (c_X11_down l hls G hN w fl (((dx).natAbs : Int) * 1000000) r (by omega) (by omega)) yy_X11_down wm_X0_120 rfl rfl (Nat.le_of_ble_eq_true rfl) (by decide) (by decide) ⟨by decide, by decide⟩ dX0_directionOff_57 ?_
      refine k_pureSN hC (c_X11_limited l hls G hN w fl ((((dx).natAbs : Int) * 1000000).fdiv r) (by omega)) yy_X11_limited wm_X0_141 rfl rfl (Nat.le_of_ble_eq_true rfl) (by decide) (by decide) ⟨by decide, by decide⟩ dX0_directionOff_60 ?_
      have hb_2 := limM_b ((((dx).natAbs : Int) * 1000000).fdiv r)
      refine k_pureSN hC (c_X11_arcOf l hls G hN w fl (limM ((((dx).natAbs : Int) * 1000000).fdiv r)) (by omega)) yy_X11_arcOf wm_X0_144 rfl rfl (Nat.le_of_ble_eq_true rfl) (by decide) (by decide) ⟨by decide, by decide⟩ dX0_directionOff_63 ?_
      refine k_topI (fun an ean => ?_)
      refine k_istore hC [(5, vI an), (4, vI 1), (2, vL dx), (0, .ref (kad G 10)), (1, vI r)] dX0_directionOff_66 (by decide) rfl ?_
      have han := arcM_b (limM (((dx.natAbs : Int) * 1000000).fdiv r))
      rw [← ean] at han
      refine k_lload_n hC dX0_directionOff_68 rfl 2 rfl ?_
      refine k_lconst (x := 0) hC dX0_directionOff_69 (by decide) ?_
      refine k_lcmp_lt hC 91 dX0_directionOff_70 dX0_directionOff_71 rfl (by omega) (by omega) (fun c_70 => ?_) (fun c_70 => ?_)
      · refine k_iload hC dX0_directionOff_91 1 rfl ?_
        refine k_if_ne hC 103 dX0_directionOff_93 rfl (by omega) (fun c_93 => ?_) (fun c_93 => absurd c_93 (by omega))
        refine k_iload hC dX0_directionOff_103 0 rfl ?_
        refine k_if_ne hC 112 dX0_directionOff_105 rfl (by omega) (fun c_105 => ?_) (fun c_105 => ?_)
        · refine k_sipush hC dX0_directionOff_112 (by decide) ?_
          refine k_iload hC dX0_directionOff_115 0 rfl ?_
          refine k_isub hC dX0_directionOff_117 ?_
          subst hQ
          exact k_iret hC hr ⟨by decide, by decide⟩ (⟨congrArg (fun z => some (vI z)) (show (dirM (fe - se) (fn - sn) r : Int) = 21600 - an from by unfold dirM; first | rw [if_pos (by omega)] | (rw [← edx, ← ean, if_neg (by omega)]; repeat (first | rw [if_pos (by omega)] | rw [if_neg (by omega)]))), rfl, rfl⟩) dX0_directionOff_118
        · refine k_iconst hC dX0_directionOff_108 ?_
          refine k_goto hC 118 dX0_directionOff_109 rfl ?_
          subst hQ
          exact k_iret hC hr ⟨by decide, by decide⟩ (⟨congrArg (fun z => some (vI z)) (show (dirM (fe - se) (fn - sn) r : Int) = 0 from by unfold dirM; first | rw [if_pos (by omega)] | (rw [← edx, ← ean, if_neg (by omega)]; repeat (first | rw [if_pos (by omega)] | rw [if_neg (by omega)]))), rfl, rfl⟩) dX0_directionOff_118
      · refine k_iload hC dX0_directionOff_74 1 rfl ?_
        refine k_if_eq hC 84 dX0_directionOff_76 rfl (by omega) (fun c_76 => absurd c_76 (by omega)) (fun c_76 => ?_)
        refine k_iload hC dX0_directionOff_79 0 rfl ?_
        refine k_goto hC 90 dX0_directionOff_81 rfl ?_
        subst hQ
        exact k_iret hC hr ⟨by decide, by decide⟩ (⟨congrArg (fun z => some (vI z)) (show (dirM (fe - se) (fn - sn) r : Int) = an from by unfold dirM; first | rw [if_pos (by omega)] | (rw [← edx, ← ean, if_neg (by omega)]; repeat (first | rw [if_pos (by omega)] | rw [if_neg (by omega)]))), rfl, rfl⟩) dX0_directionOff_90
  · refine k_iconst hC dX0_directionOff_4 ?_
    subst hQ
    exact k_iret hC hr ⟨by decide, by decide⟩ (⟨congrArg (fun z => some (vI z)) (show (dirM (fe - se) (fn - sn) r : Int) = 0 from by unfold dirM; first | rw [if_pos (by omega)] | (rw [← edx, ← ean, if_neg (by omega)]; repeat (first | rw [if_pos (by omega)] | rw [if_neg (by omega)]))), rfl, rfl⟩) dX0_directionOff_5

noncomputable def lhS (g : Nat → Int) (T : Int) (i j k : Nat) (q : Int × Int) : Int × Int := @ite (Int × Int) (hatP g i j k ∧ (q.1 = -1 ∨ hatA g i j k T < q.2)) (Classical.propDecidable _) (10000 * (i : Int) + 100 * (j : Int) + (k : Int), hatA g i j k T) q
noncomputable def lh3 (g : Nat → Int) (T : Int) (i j k0 : Nat) : Nat → Int × Int → Int × Int
  | 0, q => q
  | n + 1, q => lhS g T i j (k0 + n) (lh3 g T i j k0 n q)
noncomputable def lh2 (g : Nat → Int) (T : Int) (cnt i j0 : Nat) : Nat → Int × Int → Int × Int
  | 0, q => q
  | n + 1, q => lh3 g T i (j0 + n) (j0 + n + 1) (cnt - (j0 + n + 1)) (lh2 g T cnt i j0 n q)
noncomputable def lh1 (g : Nat → Int) (T : Int) (cnt : Nat) : Nat → Int × Int → Int × Int
  | 0, q => q
  | n + 1, q => lh2 g T cnt n (n + 1) (cnt - (n + 1)) (lh1 g T cnt n q)
noncomputable def leastM (g : Nat → Int) (T : Int) : Int := (lh1 g T (g 2).toNat (g 2).toNat (-1, 0)).1
def kHat (G : kG) (w : Nat → va_E) : Prop := ∃ z z0 x0 y0 z1 x1 y1 z2 x2 y2 : Int, w 16 = hatO G z ∧ w 17 = .inr (5, [vI z0, vI x0, vI y0]) ∧ w 18 = .inr (5, [vI z1, vI x1, vI y1]) ∧ w 19 = .inr (5, [vI z2, vI x2, vI y2])
theorem kHat.fr {G : kG} {w w1 : Nat → va_E} (h : kHat G w) (hf : ∀ j, 16 ≤ j → j ≤ 19 → w1 j = w j) : kHat G w1 := by
  obtain ⟨z, z0, x0, y0, z1, x1, y1, z2, x2, y2, h1, h2, h3, h4⟩ := h
  exact ⟨z, z0, x0, y0, z1, x1, y1, z2, x2, y2, (hf 16 (by omega) (by omega)).trans h1, (hf 17 (by omega) (by omega)).trans h2, (hf 18 (by omega) (by omega)).trans h3, (hf 19 (by omega) (by omega)).trans h4⟩
set_option maxRecDepth 100000 in
set_option maxHeartbeats 4000000 in
theorem c_X0_findLeastHat (l : Launch) (hls : l.stackTraces = false) (G : kG) (hN : 133 ≤ kN G) (w : Nat → va_E) (fl : va_W) (g : Nat → Int) (T : Int) (hI : Inv g) (ht : 0 ≤ T ∧ T ≤ 5000) (h10 : w 10 = chO G) (h11 : w 11 = liA G) (hD : kDrawn w g T (g 2).toNat) (hH : kHat G w) : KM l G yX0_findLeastHat cX0_findLeastHat 7 (some (FieldType.int)) 5 0 0 [.ref (kad G 10), vI (g 2)] w fl (kMut (vI (leastM g T)) fl (fun w1 => kHat G w1 ∧ ∀ j, (j < 16 ∨ 19 < j) → w1 j = w j)) := by
  refine KM_of2 hls (by decide +kernel) rfl (lv0 := [(0, .ref (kad G 10)), (1, vI (g 2))]) rfl (Nat.le_of_ble_eq_true rfl) (fun p e R s m args below meth c Q hC hr hQ => ?_)
  have h0 := hI.c
  refine k_iconst hC dX0_findLeastHat_0 ?_
  refine k_istore_n hC [(2, vI (-1)), (0, .ref (kad G 10)), (1, vI (g 2))] dX0_findLeastHat_1 rfl (by decide) rfl ?_
  refine k_iconst hC dX0_findLeastHat_2 ?_
  refine k_istore_n hC [(3, vI 0), (2, vI (-1)), (0, .ref (kad G 10)), (1, vI (g 2))] dX0_findLeastHat_3 rfl (by decide) rfl ?_
  refine k_iconst hC dX0_findLeastHat_4 ?_
  refine k_istore hC [(4, vI 0), (3, vI 0), (2, vI (-1)), (0, .ref (kad G 10)), (1, vI (g 2))] dX0_findLeastHat_5 (by decide) rfl ?_
  have loop1 : ∀ (n1 : Nat) (a : Nat) (f : Int) (le : Int) (u1 : Nat → va_E), ((g 2).toNat < n1 + a) → (a ≤ (g 2).toNat) → ((-1 ≤ f ∧ f ≤ 200000) ∧ (0 ≤ le ∧ le ≤ 400000000)) → ((f, le) = lh1 g T (g 2).toNat a (-1, 0)) → (u1 10 = .inr (0, [.ref (kad G 11), .ref (kad G 12), .ref (kad G 13), .ref (kad G 14), .ref (kad G 15), .ref (kad G 16)])) → (u1 11 = rA G 4 12 (fun j => some (kad G (20 + j)))) → (kDrawn u1 g T ((g 2).toNat)) → (kHat G u1) → ((∀ j, (j < 16 ∨ 19 < j) → u1 j = w j)) → KW p l e R s m args below meth c 7 G Q u1 fl 0 0 7 [(4, vI (a : Int)), (3, vI le), (2, vI f), (0, .ref (kad G 10)), (1, vI (g 2))] [] := by
    intro n1
    induction n1 with
    | zero =>
      intro a f le u1 hn_1 ha hst hq h10 h11 hD hH hfr1
      exact absurd hn_1 (by omega)
    | succ n1 ih1 =>
      intro a f le u1 hn_1 ha hst hq h10 h11 hD hH hfr1
      refine k_iload hC dX0_findLeastHat_7 0 rfl ?_
      refine k_iload_n hC dX0_findLeastHat_9 rfl 4 rfl ?_
      refine k_icmp_ge hC 130 dX0_findLeastHat_10 rfl (by omega) (by omega) (fun c_10 => ?_) (fun c_10 => ?_)
      · refine k_iload_n hC dX0_findLeastHat_130 rfl 2 rfl ?_
        subst hQ
        exact k_iret hC hr ⟨by decide, by decide⟩ (⟨congrArg (fun z => some (vI z)) (show leastM g T = f from by unfold leastM; rw [show (lh1 g T (g 2).toNat (g 2).toNat (-1, 0)) = (f, le) from by rw [hq, show a = (g 2).toNat by omega]]), rfl, hH, fun j hj => hfr1 j (by omega)⟩) dX0_findLeastHat_131
      · refine k_iload hC dX0_findLeastHat_13 0 rfl ?_
        refine k_iconst hC dX0_findLeastHat_15 ?_
        refine k_iadd hC dX0_findLeastHat_16 ?_
        refine k_istore hC [(5, vI ((a : Int) + 1)), (4, vI (a : Int)), (3, vI le), (2, vI f), (0, .ref (kad G 10)), (1, vI (g 2))] dX0_findLeastHat_17 (by decide) rfl ?_
        have loop2 : ∀ (n2 : Nat) (b : Nat) (f2 : Int) (le2 : Int) (u2 : Nat → va_E), ((g 2).toNat < n2 + (a + 1 + b)) → (a + 1 + b ≤ (g 2).toNat) → ((-1 ≤ f2 ∧ f2 ≤ 200000) ∧ (0 ≤ le2 ∧ le2 ≤ 400000000)) → ((f2, le2) = lh2 g T (g 2).toNat a (a + 1) b (f, le)) → (u2 10 = .inr (0, [.ref (kad G 11), .ref (kad G 12), .ref (kad G 13), .ref (kad G 14), .ref (kad G 15), .ref (kad G 16)])) → (u2 11 = rA G 4 12 (fun j => some (kad G (20 + j)))) → (kDrawn u2 g T ((g 2).toNat)) → (kHat G u2) → ((∀ j, (j < 16 ∨ 19 < j) → u2 j = w j)) → KW p l e R s m args below meth c 7 G Q u2 fl 0 0 19 [(5, vI ((a + 1 + b : Nat) : Int)), (4, vI (a : Int)), (3, vI le2), (2, vI f2), (0, .ref (kad G 10)), (1, vI (g 2))] [] := by
          intro n2
          induction n2 with
          | zero =>
            intro b f2 le2 u2 hn_2 hb hst2 hq2 h10 h11 hD hH hfr2
            exact absurd hn_2 (by omega)
          | succ n2 ih2 =>
            intro b f2 le2 u2 hn_2 hb hst2 hq2 h10 h11 hD hH hfr2
            refine k_iload hC dX0_findLeastHat_19 0 rfl ?_
            refine k_iload_n hC dX0_findLeastHat_21 rfl 5 rfl ?_
            refine k_icmp_ge hC 124 dX0_findLeastHat_22 rfl (by omega) (by omega) (fun c_22 => ?_) (fun c_22 => ?_)
            · refine k_iinc hC (y := (a : Int) + 1) [(4, vI ((a : Int) + 1)), (5, vI ((a + 1 + b : Nat) : Int)), (3, vI le2), (2, vI f2), (0, .ref (kad G 10)), (1, vI (g 2))] (j := 1) dX0_findLeastHat_124 rfl (by omega) (by decide) rfl ?_
              refine k_goto hC 7 dX0_findLeastHat_127 rfl ?_
              refine k_lvs (ls := [0, 2, 3, 4, 5]) [(4, vI ((a : Int) + 1)), (3, vI le2), (2, vI f2), (0, .ref (kad G 10)), (1, vI (g 2))] rfl ?_
              refine k_lvs (ls := [0, 1, 2, 3, 4]) [(4, vI ((a + 1 : Nat) : Int)), (3, vI le2), (2, vI f2), (0, .ref (kad G 10)), (1, vI (g 2))] (by simp only [lv_pick]; rfl) ?_
              exact ih1 (a + 1) f2 le2 u2 (by omega) (by omega) (by omega) (by show _ = lh2 g T (g 2).toNat a (a + 1) ((g 2).toNat - (a + 1)) _; rw [← hq, show (g 2).toNat - (a + 1) = b by omega]; exact hq2) h10 h11 hD (hH) (fun j hj => hfr2 j (by omega))
            · refine k_iload hC dX0_findLeastHat_25 0 rfl ?_
              refine k_iconst hC dX0_findLeastHat_27 ?_
              refine k_iadd hC dX0_findLeastHat_28 ?_
              refine k_istore hC [(6, vI (((a + 1 + b : Nat) : Int) + 1)), (5, vI ((a + 1 + b : Nat) : Int)), (4, vI (a : Int)), (3, vI le2), (2, vI f2), (0, .ref (kad G 10)), (1, vI (g 2))] dX0_findLeastHat_29 (by decide) rfl ?_
              have loop3 : ∀ (n3 : Nat) (d : Nat) (f3 : Int) (le3 : Int) (u3 : Nat → va_E), ((g 2).toNat < n3 + (a + 1 + b + 1 + d)) → (a + 1 + b + 1 + d ≤ (g 2).toNat) → ((-1 ≤ f3 ∧ f3 ≤ 200000) ∧ (0 ≤ le3 ∧ le3 ≤ 400000000)) → ((f3, le3) = lh3 g T a (a + 1 + b) (a + 1 + b + 1) d (f2, le2)) → (u3 10 = .inr (0, [.ref (kad G 11), .ref (kad G 12), .ref (kad G 13), .ref (kad G 14), .ref (kad G 15), .ref (kad G 16)])) → (u3 11 = rA G 4 12 (fun j => some (kad G (20 + j)))) → (kDrawn u3 g T ((g 2).toNat)) → (kHat G u3) → ((∀ j, (j < 16 ∨ 19 < j) → u3 j = w j)) → KW p l e R s m args below meth c 7 G Q u3 fl 0 0 31 [(6, vI ((a + 1 + b + 1 + d : Nat) : Int)), (5, vI ((a + 1 + b : Nat) : Int)), (4, vI (a : Int)), (3, vI le3), (2, vI f3), (0, .ref (kad G 10)), (1, vI (g 2))] [] := by
                intro n3
                induction n3 with
                | zero =>
                  intro d f3 le3 u3 hn_3 hd hst3 hq3 h10 h11 hD hH hfr3
                  exact absurd hn_3 (by omega)
                | succ n3 ih3 =>
                  intro d f3 le3 u3 hn_3 hd hst3 hq3 h10 h11 hD hH hfr3
                  refine k_iload hC dX0_findLeastHat_31 0 rfl ?_
                  refine k_iload_n hC dX0_findLeastHat_33 rfl 6 rfl ?_
                  refine k_icmp_ge hC 118 dX0_findLeastHat_34 rfl (by omega) (by omega) (fun c_34 => ?_) (fun c_34 => ?_)
                  · refine k_iinc hC (y := ((a + 1 + b : Nat) : Int) + 1) [(5, vI (((a + 1 + b : Nat) : Int) + 1)), (6, vI ((a + 1 + b + 1 + d : Nat) : Int)), (4, vI (a : Int)), (3, vI le3), (2, vI f3), (0, .ref (kad G 10)), (1, vI (g 2))] (j := 1) dX0_findLeastHat_118 rfl (by omega) (by decide) rfl ?_
                    refine k_goto hC 19 dX0_findLeastHat_121 rfl ?_
                    refine k_lvs (ls := [0, 2, 3, 4, 5, 6]) [(5, vI (((a + 1 + b : Nat) : Int) + 1)), (4, vI (a : Int)), (3, vI le3), (2, vI f3), (0, .ref (kad G 10)), (1, vI (g 2))] rfl ?_
                    refine k_lvs (ls := [0, 1, 2, 3, 4, 5]) [(5, vI ((a + 1 + (b + 1) : Nat) : Int)), (4, vI (a : Int)), (3, vI le3), (2, vI f3), (0, .ref (kad G 10)), (1, vI (g 2))] (by simp only [lv_pick]; rfl) ?_
                    exact ih2 (b + 1) f3 le3 u3 (by omega) (by omega) (by omega) (by show _ = lh3 g T a (a + 1 + b) (a + 1 + b + 1) ((g 2).toNat - (a + 1 + b + 1)) _; rw [← hq2, show (g 2).toNat - (a + 1 + b + 1) = d by omega]; exact hq3) h10 h11 hD (hH) (fun j hj => hfr3 j (by omega))
                  · obtain ⟨hz9, p09, px09, py09, p19, px19, py19, p29, px29, py29, hh169, hh179, hh189, hh199⟩ := hH
                    have hln_1 := hD a (by omega) (by omega)
                    have hcb_2 := carM_b hI a (by omega) ht
                    have hsb_3 := sinM_b (aziM g a)
                    have hcb_4 := cosM_b (aziM g a)
                    have hln_5 := hD (a + 1 + b) (by omega) (by omega)
                    have hcb_6 := carM_b hI (a + 1 + b) (by omega) ht
                    have hsb_7 := sinM_b (aziM g (a + 1 + b))
                    have hcb_8 := cosM_b (aziM g (a + 1 + b))
                    have hln_9 := hD (a + 1 + b + 1 + d) (by omega) (by omega)
                    have hcb_10 := carM_b hI (a + 1 + b + 1 + d) (by omega) ht
                    have hsb_11 := sinM_b (aziM g (a + 1 + b + 1 + d))
                    have hcb_12 := cosM_b (aziM g (a + 1 + b + 1 + d))
                    refine k_aload_n hC dX0_findLeastHat_37 rfl 5 rfl ?_
                    refine k_get hC fd_X0_42 (kl hN (by decide)) h10 rfl dX0_findLeastHat_38 ?_
                    refine k_aload_n hC dX0_findLeastHat_41 rfl 5 rfl ?_
                    refine k_iload hC dX0_findLeastHat_42 2 rfl ?_
                    refine k_pureV hC (c_X0_lineOf l hls G hN u3 fl a (by omega) h10 h11) yy_X0_lineOf wm_X0_64 (kl hN (by decide)) h10 rfl rfl rfl rfl (Nat.le_of_ble_eq_true rfl) (by decide) (by decide) ⟨by decide, by decide⟩ dX0_findLeastHat_44 ?_
                    refine k_aload_n hC dX0_findLeastHat_47 rfl 5 rfl ?_
                    refine k_iload hC dX0_findLeastHat_48 1 rfl ?_
                    refine k_pureV hC (c_X0_lineOf l hls G hN u3 fl (a + 1 + b) (by omega) h10 h11) yy_X0_lineOf wm_X0_64 (kl hN (by decide)) h10 rfl rfl rfl rfl (Nat.le_of_ble_eq_true rfl) (by decide) (by decide) ⟨by decide, by decide⟩ dX0_findLeastHat_50 ?_
                    refine k_aload_n hC dX0_findLeastHat_53 rfl 5 rfl ?_
                    refine k_iload hC dX0_findLeastHat_54 0 rfl ?_
                    refine k_pureV hC (c_X0_lineOf l hls G hN u3 fl (a + 1 + b + 1 + d) (by omega) h10 h11) yy_X0_lineOf wm_X0_64 (kl hN (by decide)) h10 rfl rfl rfl rfl (Nat.le_of_ble_eq_true rfl) (by decide) (by decide) ⟨by decide, by decide⟩ dX0_findLeastHat_56 ?_
                    refine k_muvV hC (c_X1_span l hls G hN u3 fl (20 + a) (20 + (a + 1 + b)) (20 + (a + 1 + b + 1 + d)) hz9 p09 px09 py09 p19 px19 py19 p29 px29 py29 (apM g a) (obsM g a) (expM g a) (aziM g a) (intM g a) (offM g a) (carM g a T) (sinM (aziM g a)) (cosM (aziM g a)) (apM g (a + 1 + b)) (obsM g (a + 1 + b)) (expM g (a + 1 + b)) (aziM g (a + 1 + b)) (intM g (a + 1 + b)) (offM g (a + 1 + b)) (carM g (a + 1 + b) T) (sinM (aziM g (a + 1 + b))) (cosM (aziM g (a + 1 + b))) (apM g (a + 1 + b + 1 + d)) (obsM g (a + 1 + b + 1 + d)) (expM g (a + 1 + b + 1 + d)) (aziM g (a + 1 + b + 1 + d)) (intM g (a + 1 + b + 1 + d)) (offM g (a + 1 + b + 1 + d)) (carM g (a + 1 + b + 1 + d) T) (sinM (aziM g (a + 1 + b + 1 + d))) (cosM (aziM g (a + 1 + b + 1 + d))) (by omega) (by omega) (by omega) (by omega) (by omega) (by omega) (by omega) (by omega) (by omega) (by omega) (by omega) (by omega) hh169 hh179 hh189 hh199 hln_1 hln_5 hln_9) yy_X1_span wm_X0_90 (kl hN (by decide)) hh169 rfl rfl rfl rfl (Nat.le_of_ble_eq_true rfl) (by decide) (by decide) ⟨by decide, by decide⟩ dX0_findLeastHat_59 (fun w13 hp13 => ?_)
                    obtain ⟨hs13a, hs13b, hs13c, hs13d, hf13⟩ := hp13
                    refine k_aload_n hC dX0_findLeastHat_62 rfl 5 rfl ?_
                    have h_14 : w13 10 = .inr (0, [.ref (kad G 11), .ref (kad G 12), .ref (kad G 13), .ref (kad G 14), .ref (kad G 15), .ref (kad G 16)]) := (hf13 10 (by decide)).trans h10
                    refine k_get hC fd_X0_42 (kl hN (by decide)) h_14 rfl dX0_findLeastHat_63 ?_
                    refine k_get hC fd_X0_94 (kl hN (by decide)) hs13a rfl dX0_findLeastHat_66 ?_
                    obtain ⟨z_15, ez_15, hz_15⟩ := k_bI (crOK (crDet (sinM (aziM g a)) (cosM (aziM g a)) (sinM (aziM g (a + 1 + b))) (cosM (aziM g (a + 1 + b)))) ∧ crOK (crDet (sinM (aziM g a)) (cosM (aziM g a)) (sinM (aziM g (a + 1 + b + 1 + d))) (cosM (aziM g (a + 1 + b + 1 + d)))) ∧ crOK (crDet (sinM (aziM g (a + 1 + b))) (cosM (aziM g (a + 1 + b))) (sinM (aziM g (a + 1 + b + 1 + d))) (cosM (aziM g (a + 1 + b + 1 + d)))))
                    refine k_topv (vI z_15) (by rw [ez_15]) ?_
                    refine k_if_eq hC 112 dX0_findLeastHat_69 rfl (by omega) (fun c_69 => ?_) (fun c_69 => ?_)
                    · have nok : ¬ hatP g a (a + 1 + b) (a + 1 + b + 1 + d) := (hz_15.resolve_left (fun q1 => by omega)).2
                      refine k_iinc hC (y := ((a + 1 + b + 1 + d : Nat) : Int) + 1) [(6, vI (((a + 1 + b + 1 + d : Nat) : Int) + 1)), (5, vI ((a + 1 + b : Nat) : Int)), (4, vI (a : Int)), (3, vI le3), (2, vI f3), (0, .ref (kad G 10)), (1, vI (g 2))] (j := 0) dX0_findLeastHat_112 rfl (by omega) (by decide) rfl ?_
                      refine k_goto hC 31 dX0_findLeastHat_115 rfl ?_
                      refine k_lvs (ls := [0, 1, 2, 3, 4, 5, 6]) [(6, vI ((a + 1 + b + 1 + (d + 1) : Nat) : Int)), (5, vI ((a + 1 + b : Nat) : Int)), (4, vI (a : Int)), (3, vI le3), (2, vI f3), (0, .ref (kad G 10)), (1, vI (g 2))] (by simp only [lv_pick]; rfl) ?_
                      have h_16 : w13 11 = rA G 4 12 (fun j => some (kad G (20 + j))) := (hf13 11 (by decide)).trans h11
                      have hB_17 : kDrawn w13 g T ((g 2).toNat) := hD.fr (fun j q1 q2 => (hf13 j (by omega)))
                      exact ih3 (d + 1) f3 le3 w13 (by omega) (by omega) (by omega) (by show _ = lhS g T a (a + 1 + b) (a + 1 + b + 1 + d) _; rw [← hq3]; unfold lhS; rw [if_neg (fun q => by first | exact nok q.1 | (have q2 := q.2; have q3 : (f3, le3).1 = f3 := rfl; have q4 : (f3, le3).2 = le3 := rfl; rw [q3, q4] at q2; omega))]) h_14 h_16 hB_17 (⟨_, _, _, _, _, _, _, _, _, _, hs13a, hs13b, hs13c, hs13d⟩) (fun j hj => (hf13 j (by omega)).trans (hfr3 j (by omega)))
                    · have hok : hatP g a (a + 1 + b) (a + 1 + b + 1 + d) := (hz_15.resolve_right (fun q1 => by omega)).2
                      have hpl_18 : w13 17 = .inr (5, [vI 1, vI (cE g a (a + 1 + b) T), vI (cN g a (a + 1 + b) T)]) := by rw [hs13b]; unfold plO; rw [if_pos hok.1, if_pos hok.1, if_pos hok.1]; rfl
                      have hcE_19 := cE_b g a (a + 1 + b) T
                      have hcN_20 := cN_b g a (a + 1 + b) T
                      have hpl_21 : w13 18 = .inr (5, [vI 1, vI (cE g a (a + 1 + b + 1 + d) T), vI (cN g a (a + 1 + b + 1 + d) T)]) := by rw [hs13c]; unfold plO; rw [if_pos hok.2.1, if_pos hok.2.1, if_pos hok.2.1]; rfl
                      have hcE_22 := cE_b g a (a + 1 + b + 1 + d) T
                      have hcN_23 := cN_b g a (a + 1 + b + 1 + d) T
                      have hpl_24 : w13 19 = .inr (5, [vI 1, vI (cE g (a + 1 + b) (a + 1 + b + 1 + d) T), vI (cN g (a + 1 + b) (a + 1 + b + 1 + d) T)]) := by rw [hs13d]; unfold plO; rw [if_pos hok.2.2, if_pos hok.2.2, if_pos hok.2.2]; rfl
                      have hcE_25 := cE_b g (a + 1 + b) (a + 1 + b + 1 + d) T
                      have hcN_26 := cN_b g (a + 1 + b) (a + 1 + b + 1 + d) T
                      have hha := hatA_b g a (a + 1 + b) (a + 1 + b + 1 + d) T
                      have ehA : hatA g a (a + 1 + b) (a + 1 + b + 1 + d) T = areaM (cE g a (a + 1 + b) T) (cN g a (a + 1 + b) T) (cE g a (a + 1 + b + 1 + d) T) (cN g a (a + 1 + b + 1 + d) T) (cE g (a + 1 + b) (a + 1 + b + 1 + d) T) (cN g (a + 1 + b) (a + 1 + b + 1 + d) T) := rfl
                      refine k_iload_n hC dX0_findLeastHat_72 rfl 4 rfl ?_
                      refine k_iconst hC dX0_findLeastHat_73 ?_
                      refine k_icmp_eq hC 88 dX0_findLeastHat_74 rfl (by omega) (by omega) (fun c_74 => ?_) (fun c_74 => ?_)
                      · refine k_sipush hC dX0_findLeastHat_88 (by decide) ?_
                        refine k_iload hC dX0_findLeastHat_91 2 rfl ?_
                        refine k_imul hC dX0_findLeastHat_93 ?_
                        refine k_bipush hC dX0_findLeastHat_94 (by decide) ?_
                        refine k_iload hC dX0_findLeastHat_96 1 rfl ?_
                        refine k_imul hC dX0_findLeastHat_98 ?_
                        refine k_iadd hC dX0_findLeastHat_99 ?_
                        refine k_iload hC dX0_findLeastHat_100 0 rfl ?_
                        refine k_iadd hC dX0_findLeastHat_102 ?_
                        refine k_istore_n hC [(2, vI (((10000 * (a : Int)) + (100 * ((a + 1 + b : Nat) : Int))) + ((a + 1 + b + 1 + d : Nat) : Int))), (6, vI ((a + 1 + b + 1 + d : Nat) : Int)), (5, vI ((a + 1 + b : Nat) : Int)), (4, vI (a : Int)), (3, vI le3), (0, .ref (kad G 10)), (1, vI (g 2))] dX0_findLeastHat_103 rfl (by decide) rfl ?_
                        refine k_aload_n hC dX0_findLeastHat_104 rfl 5 rfl ?_
                        refine k_get hC fd_X0_42 (kl hN (by decide)) h_14 rfl dX0_findLeastHat_105 ?_
                        refine k_pureV hC (c_X1_squareMiles l hls G hN w13 fl (if crOK (crDet (sinM (aziM g a)) (cosM (aziM g a)) (sinM (aziM g (a + 1 + b))) (cosM (aziM g (a + 1 + b)))) ∧ crOK (crDet (sinM (aziM g a)) (cosM (aziM g a)) (sinM (aziM g (a + 1 + b + 1 + d))) (cosM (aziM g (a + 1 + b + 1 + d)))) ∧ crOK (crDet (sinM (aziM g (a + 1 + b))) (cosM (aziM g (a + 1 + b))) (sinM (aziM g (a + 1 + b + 1 + d))) (cosM (aziM g (a + 1 + b + 1 + d)))) then 1 else 0) 1 (cE g a (a + 1 + b) T) (cN g a (a + 1 + b) T) 1 (cE g a (a + 1 + b + 1 + d) T) (cN g a (a + 1 + b + 1 + d) T) 1 (cE g (a + 1 + b) (a + 1 + b + 1 + d) T) (cN g (a + 1 + b) (a + 1 + b + 1 + d) T) (by omega) (by omega) (by omega) (by omega) (by omega) (by omega) hs13a hpl_18 hpl_21 hpl_24) yy_X1_squareMiles wm_X0_98 (kl hN (by decide)) hs13a rfl rfl rfl rfl (Nat.le_of_ble_eq_true rfl) (by decide) (by decide) ⟨by decide, by decide⟩ dX0_findLeastHat_108 ?_
                        refine k_istore_n hC [(3, vI (areaM (cE g a (a + 1 + b) T) (cN g a (a + 1 + b) T) (cE g a (a + 1 + b + 1 + d) T) (cN g a (a + 1 + b + 1 + d) T) (cE g (a + 1 + b) (a + 1 + b + 1 + d) T) (cN g (a + 1 + b) (a + 1 + b + 1 + d) T))), (2, vI (((10000 * (a : Int)) + (100 * ((a + 1 + b : Nat) : Int))) + ((a + 1 + b + 1 + d : Nat) : Int))), (6, vI ((a + 1 + b + 1 + d : Nat) : Int)), (5, vI ((a + 1 + b : Nat) : Int)), (4, vI (a : Int)), (0, .ref (kad G 10)), (1, vI (g 2))] dX0_findLeastHat_111 rfl (by decide) rfl ?_
                        refine k_iinc hC (y := ((a + 1 + b + 1 + d : Nat) : Int) + 1) [(6, vI (((a + 1 + b + 1 + d : Nat) : Int) + 1)), (3, vI (areaM (cE g a (a + 1 + b) T) (cN g a (a + 1 + b) T) (cE g a (a + 1 + b + 1 + d) T) (cN g a (a + 1 + b + 1 + d) T) (cE g (a + 1 + b) (a + 1 + b + 1 + d) T) (cN g (a + 1 + b) (a + 1 + b + 1 + d) T))), (2, vI (((10000 * (a : Int)) + (100 * ((a + 1 + b : Nat) : Int))) + ((a + 1 + b + 1 + d : Nat) : Int))), (5, vI ((a + 1 + b : Nat) : Int)), (4, vI (a : Int)), (0, .ref (kad G 10)), (1, vI (g 2))] (j := 2) dX0_findLeastHat_112 rfl (by omega) (by decide) rfl ?_
                        refine k_goto hC 31 dX0_findLeastHat_115 rfl ?_
                        refine k_lvs (ls := [0, 3, 4, 1, 2, 5, 6]) [(6, vI (((a + 1 + b + 1 + d : Nat) : Int) + 1)), (5, vI ((a + 1 + b : Nat) : Int)), (4, vI (a : Int)), (3, vI (areaM (cE g a (a + 1 + b) T) (cN g a (a + 1 + b) T) (cE g a (a + 1 + b + 1 + d) T) (cN g a (a + 1 + b + 1 + d) T) (cE g (a + 1 + b) (a + 1 + b + 1 + d) T) (cN g (a + 1 + b) (a + 1 + b + 1 + d) T))), (2, vI (((10000 * (a : Int)) + (100 * ((a + 1 + b : Nat) : Int))) + ((a + 1 + b + 1 + d : Nat) : Int))), (0, .ref (kad G 10)), (1, vI (g 2))] rfl ?_
                        refine k_lvs (ls := [0, 1, 2, 3, 4, 5, 6]) [(6, vI ((a + 1 + b + 1 + (d + 1) : Nat) : Int)), (5, vI ((a + 1 + b : Nat) : Int)), (4, vI (a : Int)), (3, vI (areaM (cE g a (a + 1 + b) T) (cN g a (a + 1 + b) T) (cE g a (a + 1 + b + 1 + d) T) (cN g a (a + 1 + b + 1 + d) T) (cE g (a + 1 + b) (a + 1 + b + 1 + d) T) (cN g (a + 1 + b) (a + 1 + b + 1 + d) T))), (2, vI (((10000 * (a : Int)) + (100 * ((a + 1 + b : Nat) : Int))) + ((a + 1 + b + 1 + d : Nat) : Int))), (0, .ref (kad G 10)), (1, vI (g 2))] (by simp only [lv_pick]; rfl) ?_
                        have h_27 : w13 11 = rA G 4 12 (fun j => some (kad G (20 + j))) := (hf13 11 (by decide)).trans h11
                        have hB_28 : kDrawn w13 g T ((g 2).toNat) := hD.fr (fun j q1 q2 => (hf13 j (by omega)))
                        exact ih3 (d + 1) (((10000 * (a : Int)) + (100 * ((a + 1 + b : Nat) : Int))) + ((a + 1 + b + 1 + d : Nat) : Int)) (areaM (cE g a (a + 1 + b) T) (cN g a (a + 1 + b) T) (cE g a (a + 1 + b + 1 + d) T) (cN g a (a + 1 + b + 1 + d) T) (cE g (a + 1 + b) (a + 1 + b + 1 + d) T) (cN g (a + 1 + b) (a + 1 + b + 1 + d) T)) w13 (by omega) (by omega) (by omega) (by show _ = lhS g T a (a + 1 + b) (a + 1 + b + 1 + d) _; rw [← hq3]; unfold lhS; rw [if_pos ⟨hok, (by show f3 = -1 ∨ hatA g a (a + 1 + b) (a + 1 + b + 1 + d) T < le3; omega)⟩]; rfl) h_14 h_27 hB_28 (⟨_, _, _, _, _, _, _, _, _, _, hs13a, hpl_18, hpl_21, hpl_24⟩) (fun j hj => (hf13 j (by omega)).trans (hfr3 j (by omega)))
                      · refine k_aload_n hC dX0_findLeastHat_77 rfl 5 rfl ?_
                        refine k_get hC fd_X0_42 (kl hN (by decide)) h_14 rfl dX0_findLeastHat_78 ?_
                        refine k_pureV hC (c_X1_squareMiles l hls G hN w13 fl (if crOK (crDet (sinM (aziM g a)) (cosM (aziM g a)) (sinM (aziM g (a + 1 + b))) (cosM (aziM g (a + 1 + b)))) ∧ crOK (crDet (sinM (aziM g a)) (cosM (aziM g a)) (sinM (aziM g (a + 1 + b + 1 + d))) (cosM (aziM g (a + 1 + b + 1 + d)))) ∧ crOK (crDet (sinM (aziM g (a + 1 + b))) (cosM (aziM g (a + 1 + b))) (sinM (aziM g (a + 1 + b + 1 + d))) (cosM (aziM g (a + 1 + b + 1 + d)))) then 1 else 0) 1 (cE g a (a + 1 + b) T) (cN g a (a + 1 + b) T) 1 (cE g a (a + 1 + b + 1 + d) T) (cN g a (a + 1 + b + 1 + d) T) 1 (cE g (a + 1 + b) (a + 1 + b + 1 + d) T) (cN g (a + 1 + b) (a + 1 + b + 1 + d) T) (by omega) (by omega) (by omega) (by omega) (by omega) (by omega) hs13a hpl_18 hpl_21 hpl_24) yy_X1_squareMiles wm_X0_98 (kl hN (by decide)) hs13a rfl rfl rfl rfl (Nat.le_of_ble_eq_true rfl) (by decide) (by decide) ⟨by decide, by decide⟩ dX0_findLeastHat_81 ?_
                        refine k_iload_n hC dX0_findLeastHat_84 rfl 3 rfl ?_
                        refine k_icmp_ge hC 112 dX0_findLeastHat_85 rfl (by omega) (by omega) (fun c_85 => ?_) (fun c_85 => ?_)
                        · refine k_iinc hC (y := ((a + 1 + b + 1 + d : Nat) : Int) + 1) [(6, vI (((a + 1 + b + 1 + d : Nat) : Int) + 1)), (5, vI ((a + 1 + b : Nat) : Int)), (4, vI (a : Int)), (3, vI le3), (2, vI f3), (0, .ref (kad G 10)), (1, vI (g 2))] (j := 0) dX0_findLeastHat_112 rfl (by omega) (by decide) rfl ?_
                          refine k_goto hC 31 dX0_findLeastHat_115 rfl ?_
                          refine k_lvs (ls := [0, 1, 2, 3, 4, 5, 6]) [(6, vI ((a + 1 + b + 1 + (d + 1) : Nat) : Int)), (5, vI ((a + 1 + b : Nat) : Int)), (4, vI (a : Int)), (3, vI le3), (2, vI f3), (0, .ref (kad G 10)), (1, vI (g 2))] (by simp only [lv_pick]; rfl) ?_
                          have h_29 : w13 11 = rA G 4 12 (fun j => some (kad G (20 + j))) := (hf13 11 (by decide)).trans h11
                          have hB_30 : kDrawn w13 g T ((g 2).toNat) := hD.fr (fun j q1 q2 => (hf13 j (by omega)))
                          exact ih3 (d + 1) f3 le3 w13 (by omega) (by omega) (by omega) (by show _ = lhS g T a (a + 1 + b) (a + 1 + b + 1 + d) _; rw [← hq3]; unfold lhS; rw [if_neg (fun q => by first | exact nok q.1 | (have q2 := q.2; have q3 : (f3, le3).1 = f3 := rfl; have q4 : (f3, le3).2 = le3 := rfl; rw [q3, q4] at q2; omega))]) h_14 h_29 hB_30 (⟨_, _, _, _, _, _, _, _, _, _, hs13a, hpl_18, hpl_21, hpl_24⟩) (fun j hj => (hf13 j (by omega)).trans (hfr3 j (by omega)))
                        · refine k_sipush hC dX0_findLeastHat_88 (by decide) ?_
                          refine k_iload hC dX0_findLeastHat_91 2 rfl ?_
                          refine k_imul hC dX0_findLeastHat_93 ?_
                          refine k_bipush hC dX0_findLeastHat_94 (by decide) ?_
                          refine k_iload hC dX0_findLeastHat_96 1 rfl ?_
                          refine k_imul hC dX0_findLeastHat_98 ?_
                          refine k_iadd hC dX0_findLeastHat_99 ?_
                          refine k_iload hC dX0_findLeastHat_100 0 rfl ?_
                          refine k_iadd hC dX0_findLeastHat_102 ?_
                          refine k_istore_n hC [(2, vI (((10000 * (a : Int)) + (100 * ((a + 1 + b : Nat) : Int))) + ((a + 1 + b + 1 + d : Nat) : Int))), (6, vI ((a + 1 + b + 1 + d : Nat) : Int)), (5, vI ((a + 1 + b : Nat) : Int)), (4, vI (a : Int)), (3, vI le3), (0, .ref (kad G 10)), (1, vI (g 2))] dX0_findLeastHat_103 rfl (by decide) rfl ?_
                          refine k_aload_n hC dX0_findLeastHat_104 rfl 5 rfl ?_
                          refine k_get hC fd_X0_42 (kl hN (by decide)) h_14 rfl dX0_findLeastHat_105 ?_
                          refine k_pureV hC (c_X1_squareMiles l hls G hN w13 fl (if crOK (crDet (sinM (aziM g a)) (cosM (aziM g a)) (sinM (aziM g (a + 1 + b))) (cosM (aziM g (a + 1 + b)))) ∧ crOK (crDet (sinM (aziM g a)) (cosM (aziM g a)) (sinM (aziM g (a + 1 + b + 1 + d))) (cosM (aziM g (a + 1 + b + 1 + d)))) ∧ crOK (crDet (sinM (aziM g (a + 1 + b))) (cosM (aziM g (a + 1 + b))) (sinM (aziM g (a + 1 + b + 1 + d))) (cosM (aziM g (a + 1 + b + 1 + d)))) then 1 else 0) 1 (cE g a (a + 1 + b) T) (cN g a (a + 1 + b) T) 1 (cE g a (a + 1 + b + 1 + d) T) (cN g a (a + 1 + b + 1 + d) T) 1 (cE g (a + 1 + b) (a + 1 + b + 1 + d) T) (cN g (a + 1 + b) (a + 1 + b + 1 + d) T) (by omega) (by omega) (by omega) (by omega) (by omega) (by omega) hs13a hpl_18 hpl_21 hpl_24) yy_X1_squareMiles wm_X0_98 (kl hN (by decide)) hs13a rfl rfl rfl rfl (Nat.le_of_ble_eq_true rfl) (by decide) (by decide) ⟨by decide, by decide⟩ dX0_findLeastHat_108 ?_
                          refine k_istore_n hC [(3, vI (areaM (cE g a (a + 1 + b) T) (cN g a (a + 1 + b) T) (cE g a (a + 1 + b + 1 + d) T) (cN g a (a + 1 + b + 1 + d) T) (cE g (a + 1 + b) (a + 1 + b + 1 + d) T) (cN g (a + 1 + b) (a + 1 + b + 1 + d) T))), (2, vI (((10000 * (a : Int)) + (100 * ((a + 1 + b : Nat) : Int))) + ((a + 1 + b + 1 + d : Nat) : Int))), (6, vI ((a + 1 + b + 1 + d : Nat) : Int)), (5, vI ((a + 1 + b : Nat) : Int)), (4, vI (a : Int)), (0, .ref (kad G 10)), (1, vI (g 2))] dX0_findLeastHat_111 rfl (by decide) rfl ?_
                          refine k_iinc hC (y := ((a + 1 + b + 1 + d : Nat) : Int) + 1) [(6, vI (((a + 1 + b + 1 + d : Nat) : Int) + 1)), (3, vI (areaM (cE g a (a + 1 + b) T) (cN g a (a + 1 + b) T) (cE g a (a + 1 + b + 1 + d) T) (cN g a (a + 1 + b + 1 + d) T) (cE g (a + 1 + b) (a + 1 + b + 1 + d) T) (cN g (a + 1 + b) (a + 1 + b + 1 + d) T))), (2, vI (((10000 * (a : Int)) + (100 * ((a + 1 + b : Nat) : Int))) + ((a + 1 + b + 1 + d : Nat) : Int))), (5, vI ((a + 1 + b : Nat) : Int)), (4, vI (a : Int)), (0, .ref (kad G 10)), (1, vI (g 2))] (j := 2) dX0_findLeastHat_112 rfl (by omega) (by decide) rfl ?_
                          refine k_goto hC 31 dX0_findLeastHat_115 rfl ?_
                          refine k_lvs (ls := [0, 3, 4, 1, 2, 5, 6]) [(6, vI (((a + 1 + b + 1 + d : Nat) : Int) + 1)), (5, vI ((a + 1 + b : Nat) : Int)), (4, vI (a : Int)), (3, vI (areaM (cE g a (a + 1 + b) T) (cN g a (a + 1 + b) T) (cE g a (a + 1 + b + 1 + d) T) (cN g a (a + 1 + b + 1 + d) T) (cE g (a + 1 + b) (a + 1 + b + 1 + d) T) (cN g (a + 1 + b) (a + 1 + b + 1 + d) T))), (2, vI (((10000 * (a : Int)) + (100 * ((a + 1 + b : Nat) : Int))) + ((a + 1 + b + 1 + d : Nat) : Int))), (0, .ref (kad G 10)), (1, vI (g 2))] rfl ?_
                          refine k_lvs (ls := [0, 1, 2, 3, 4, 5, 6]) [(6, vI ((a + 1 + b + 1 + (d + 1) : Nat) : Int)), (5, vI ((a + 1 + b : Nat) : Int)), (4, vI (a : Int)), (3, vI (areaM (cE g a (a + 1 + b) T) (cN g a (a + 1 + b) T) (cE g a (a + 1 + b + 1 + d) T) (cN g a (a + 1 + b + 1 + d) T) (cE g (a + 1 + b) (a + 1 + b + 1 + d) T) (cN g (a + 1 + b) (a + 1 + b + 1 + d) T))), (2, vI (((10000 * (a : Int)) + (100 * ((a + 1 + b : Nat) : Int))) + ((a + 1 + b + 1 + d : Nat) : Int))), (0, .ref (kad G 10)), (1, vI (g 2))] (by simp only [lv_pick]; rfl) ?_
                          have h_31 : w13 11 = rA G 4 12 (fun j => some (kad G (20 + j))) := (hf13 11 (by decide)).trans h11
                          have hB_32 : kDrawn w13 g T ((g 2).toNat) := hD.fr (fun j q1 q2 => (hf13 j (by omega)))
                          exact ih3 (d + 1) (((10000 * (a : Int)) + (100 * ((a + 1 + b : Nat) : Int))) + ((a + 1 + b + 1 + d : Nat) : Int)) (areaM (cE g a (a + 1 + b) T) (cN g a (a + 1 + b) T) (cE g a (a + 1 + b + 1 + d) T) (cN g a (a + 1 + b + 1 + d) T) (cE g (a + 1 + b) (a + 1 + b + 1 + d) T) (cN g (a + 1 + b) (a + 1 + b + 1 + d) T)) w13 (by omega) (by omega) (by omega) (by show _ = lhS g T a (a + 1 + b) (a + 1 + b + 1 + d) _; rw [← hq3]; unfold lhS; rw [if_pos ⟨hok, (by show f3 = -1 ∨ hatA g a (a + 1 + b) (a + 1 + b + 1 + d) T < le3; omega)⟩]; rfl) h_14 h_31 hB_32 (⟨_, _, _, _, _, _, _, _, _, _, hs13a, hpl_18, hpl_21, hpl_24⟩) (fun j hj => (hf13 j (by omega)).trans (hfr3 j (by omega)))
              refine k_lvs (ls := [0, 1, 2, 3, 4, 5, 6]) [(6, vI ((a + 1 + b + 1 + 0 : Nat) : Int)), (5, vI ((a + 1 + b : Nat) : Int)), (4, vI (a : Int)), (3, vI le2), (2, vI f2), (0, .ref (kad G 10)), (1, vI (g 2))] (by simp only [lv_pick]; rfl) ?_
              exact loop3 ((g 2).toNat + 1) 0 f2 le2 u2 (by omega) (by omega) hst2 rfl h10 h11 hD hH (fun j hj => hfr2 j (by omega))
        refine k_lvs (ls := [0, 1, 2, 3, 4, 5]) [(5, vI ((a + 1 + 0 : Nat) : Int)), (4, vI (a : Int)), (3, vI le), (2, vI f), (0, .ref (kad G 10)), (1, vI (g 2))] (by simp only [lv_pick]; rfl) ?_
        exact loop2 ((g 2).toNat + 1) 0 f le u1 (by omega) (by omega) hst rfl h10 h11 hD hH (fun j hj => hfr1 j (by omega))
  refine k_lvs (ls := [0, 1, 2, 3, 4]) [(4, vI ((0 : Nat) : Int)), (3, vI 0), (2, vI (-1)), (0, .ref (kad G 10)), (1, vI (g 2))] (by simp only [lv_pick]; rfl) ?_
  exact loop1 ((g 2).toNat + 1) 0 (-1) 0 w (by omega) (by omega) (by omega) rfl h10 h11 hD hH (fun j hj => rfl)

