theorem farM_nn (g : Nat → Int) (k : Nat) (T e n : Int) : 0 ≤ farM g k T e n := by unfold farM; omega
set_option maxRecDepth 100000 in
set_option maxHeartbeats 4000000 in
theorem c_L_areSound (l : Launch) (hls : l.stackTraces = false) (G : kG) (hN : 133 ≤ kN G) (w : Nat → va_E) (fl : va_W) (g nl : Nat → Int) (sv : Int) (v : Int) (hI : Inv g) (h00 : w 0 = srO G sv) (hL : kLog G w 3 g) (hP : kPlan G w 32 g nl) (hCt : kCht G w) : KM l G yL_areSound cL_areSound 8 (some (FieldType.boolean)) 8 0 0 [.ref (kad G 0), vI v] w fl (kOk True (vI 1) fl (kCP G w)) := by
  refine KM_of2 hls (by decide +kernel) rfl (lv0 := [(0, .ref (kad G 0)), (1, vI v)]) rfl (Nat.le_of_ble_eq_true rfl) (fun p e R s m args below meth c Q hC hr hQ => ?_)
  have h0 := hI.c
  refine k_aload_n hC dL_areSound_0 rfl 0 rfl ?_
  refine k_iconst hC dL_areSound_1 ?_
  refine k_callV hC (n_X11_told l hls G hN w fl g nl sv 2 (by omega) hI h00 hL hP hCt (by omega)) yy_X11_told wm_L_126 (kl hN (by decide)) h00 rfl rfl rfl rfl (Nat.le_of_ble_eq_true rfl) (by decide) (by decide) ⟨by decide, by decide⟩ dL_areSound_2 (fun v1 w1 fl1 hp1 => ?_)
  obtain ⟨-, q1, q2, hp1⟩ := hp1
  subst q1
  subst q2
  obtain ⟨hCt1, hf1⟩ := hp1
  show KW p l e R s m args below meth c 8 G Q w1 fl 0 0 5 [(0, .ref (kad G 0)), (1, vI v)] [vI (g (2 : Int).toNat)]
  refine k_topv (vI (g 2)) rfl ?_
  refine k_istore_n hC [(2, vI (g 2)), (0, .ref (kad G 0)), (1, vI v)] dL_areSound_5 rfl (by decide) rfl ?_
  refine k_iload_n hC dL_areSound_6 rfl 2 rfl ?_
  refine k_sipush hC dL_areSound_7 (by decide) ?_
  refine k_callS hC (c_L_most l hls G hN w1 fl v 2000 (by omega)) yy_L_most wm_L_27 rfl rfl (Nat.le_of_ble_eq_true rfl) (by decide) (by decide) ⟨by decide, by decide⟩ dL_areSound_10 (fun v2 w2 fl2 hp2 => ?_)
  obtain ⟨r2, hr2, hs2, q1, q2, q3⟩ := hp2
  subst q1
  subst q2
  subst q3
  show KW p l e R s m args below meth c 8 G Q w1 fl 0 0 13 [(2, vI (g 2)), (0, .ref (kad G 0)), (1, vI v)] [vI r2]
  refine k_istore_n hC [(3, vI r2), (2, vI (g 2)), (0, .ref (kad G 0)), (1, vI v)] dL_areSound_13 rfl (by decide) rfl ?_
  refine k_iconst hC dL_areSound_14 ?_
  refine k_istore hC [(4, vI 0), (3, vI r2), (2, vI (g 2)), (0, .ref (kad G 0)), (1, vI v)] dL_areSound_15 (by decide) rfl ?_
  have loop1 : ∀ (n1 : Nat) (k : Nat) (u1 : Nat → va_E), ((g 2).toNat < n1 + k) → ((k : Int) ≤ g 2) → (u1 0 = .inr (11, [.ref (kad G 1), .ref (kad G 32), .ref (kad G 3), .ref (kad G 37), vI sv, .ref (kad G 44), .ref (kad G 10), .ref (kad G 116), .ref (kad G 129), .ref (kad G 132)])) → (kLog G u1 3 g) → (kPlan G u1 32 g nl) → (kCht G u1) → ((∀ j, (j < 10 ∨ 31 < j) → u1 j = w j)) → KW p l e R s m args below meth c 8 G Q u1 fl 0 0 17 [(4, vI (k : Int)), (3, vI r2), (2, vI (g 2)), (0, .ref (kad G 0)), (1, vI v)] [] := by
    intro n1
    induction n1 with
    | zero =>
      intro k u1 hn_1 hk h0x hLx hPx hCx hfr1
      exact absurd hn_1 (by omega)
    | succ n1 ih1 =>
      intro k u1 hn_1 hk h0x hLx hPx hCx hfr1
      refine k_iload hC dL_areSound_17 0 rfl ?_
      refine k_iload_n hC dL_areSound_19 rfl 2 rfl ?_
      refine k_icmp_ge hC 149 dL_areSound_20 rfl (by omega) (by omega) (fun c_20 => ?_) (fun c_20 => ?_)
      · refine k_iconst hC dL_areSound_149 ?_
        refine k_istore hC [(4, vI 0), (3, vI r2), (2, vI (g 2)), (0, .ref (kad G 0)), (1, vI v)] dL_areSound_150 (by decide) rfl ?_
        have loop2 : ∀ (n2 : Nat) (a : Nat) (u2 : Nat → va_E), ((g 2).toNat < n2 + a) → ((a : Int) ≤ g 2) → (u2 0 = .inr (11, [.ref (kad G 1), .ref (kad G 32), .ref (kad G 3), .ref (kad G 37), vI sv, .ref (kad G 44), .ref (kad G 10), .ref (kad G 116), .ref (kad G 129), .ref (kad G 132)])) → (kLog G u2 3 g) → (kPlan G u2 32 g nl) → (kCht G u2) → ((∀ j, (j < 10 ∨ 31 < j) → u2 j = w j)) → KW p l e R s m args below meth c 8 G Q u2 fl 0 0 152 [(4, vI (a : Int)), (3, vI r2), (2, vI (g 2)), (0, .ref (kad G 0)), (1, vI v)] [] := by
          intro n2
          induction n2 with
          | zero =>
            intro a u2 hn_2 ha h0x hLx hPx hCx hfr2
            exact absurd hn_2 (by omega)
          | succ n2 ih2 =>
            intro a u2 hn_2 ha h0x hLx hPx hCx hfr2
            refine k_iload hC dL_areSound_152 0 rfl ?_
            refine k_iload_n hC dL_areSound_154 rfl 2 rfl ?_
            refine k_icmp_ge hC 305 dL_areSound_155 rfl (by omega) (by omega) (fun c_155 => ?_) (fun c_155 => ?_)
            · refine k_iconst hC dL_areSound_305 ?_
              subst hQ
              exact k_zret hC (by omega) hr ⟨by decide, by decide⟩ (⟨trivial, rfl, rfl, ⟨hCx, fun j hj => hfr2 j (by omega)⟩⟩) dL_areSound_306
            · refine k_iconst hC dL_areSound_158 ?_
              refine k_istore hC [(5, vI 0), (4, vI (a : Int)), (3, vI r2), (2, vI (g 2)), (0, .ref (kad G 0)), (1, vI v)] dL_areSound_159 (by decide) rfl ?_
              have loop3 : ∀ (n3 : Nat) (b : Nat) (u3 : Nat → va_E), (a < n3 + b) → (b ≤ a) → (u3 0 = .inr (11, [.ref (kad G 1), .ref (kad G 32), .ref (kad G 3), .ref (kad G 37), vI sv, .ref (kad G 44), .ref (kad G 10), .ref (kad G 116), .ref (kad G 129), .ref (kad G 132)])) → (kLog G u3 3 g) → (kPlan G u3 32 g nl) → (kCht G u3) → ((∀ j, (j < 10 ∨ 31 < j) → u3 j = w j)) → KW p l e R s m args below meth c 8 G Q u3 fl 0 0 161 [(5, vI (b : Int)), (4, vI (a : Int)), (3, vI r2), (2, vI (g 2)), (0, .ref (kad G 0)), (1, vI v)] [] := by
                intro n3
                induction n3 with
                | zero =>
                  intro b u3 hn_3 hb h0x hLx hPx hCx hfr3
                  exact absurd hn_3 (by omega)
                | succ n3 ih3 =>
                  intro b u3 hn_3 hb h0x hLx hPx hCx hfr3
                  refine k_iload hC dL_areSound_161 0 rfl ?_
                  refine k_iload hC dL_areSound_163 1 rfl ?_
                  refine k_icmp_ge hC 299 dL_areSound_165 rfl (by omega) (by omega) (fun c_165 => ?_) (fun c_165 => ?_)
                  · refine k_iinc hC (y := (a : Int) + 1) [(4, vI ((a : Int) + 1)), (5, vI (b : Int)), (3, vI r2), (2, vI (g 2)), (0, .ref (kad G 0)), (1, vI v)] (j := 1) dL_areSound_299 rfl (by omega) (by decide) rfl ?_
                    refine k_goto hC 152 dL_areSound_302 rfl ?_
                    refine k_lvs (ls := [0, 2, 3, 4, 5]) [(4, vI ((a : Int) + 1)), (3, vI r2), (2, vI (g 2)), (0, .ref (kad G 0)), (1, vI v)] rfl ?_
                    refine k_lvs (ls := [0, 1, 2, 3, 4]) [(4, vI ((a + 1 : Nat) : Int)), (3, vI r2), (2, vI (g 2)), (0, .ref (kad G 0)), (1, vI v)] (by simp only [lv_pick]; rfl) ?_
                    exact ih2 (a + 1) u3 (by omega) (by omega) h0x hLx hPx hCx (fun j hj => hfr3 j (by omega))
                  · refine k_aload_n hC dL_areSound_168 rfl 4 rfl ?_
                    refine k_iload hC dL_areSound_169 1 rfl ?_
                    refine k_iload hC dL_areSound_171 0 rfl ?_
                    refine k_iload_n hC dL_areSound_173 rfl 2 rfl ?_
                    refine k_iconst hC dL_areSound_174 ?_
                    refine k_callV hC (n_X11_crossing l hls G hN u3 fl g nl sv (a : Int) (b : Int) r2 0 (by omega) (by omega) (by omega) (by decide) hI h0x hLx hPx hCx (by omega)) yy_X11_crossing wm_L_173 (kl hN (by decide)) h0x rfl rfl rfl rfl (Nat.le_of_ble_eq_true rfl) (by decide) (by decide) ⟨by decide, by decide⟩ dL_areSound_175 (fun v3 w3 fl3 hp3 => ?_)
                    obtain ⟨-, q1, q2, hp3⟩ := hp3
                    subst q1
                    subst q2
                    obtain ⟨hCt3, hf3⟩ := hp3
                    show KW p l e R s m args below meth c 8 G Q w3 fl 0 0 178 [(5, vI (b : Int)), (4, vI (a : Int)), (3, vI r2), (2, vI (g 2)), (0, .ref (kad G 0)), (1, vI v)] [vI (crsV g (a : Int).toNat (b : Int).toNat r2 0)]
                    refine k_topv (vI (crsV g a b r2 0)) rfl ?_
                    refine k_topI (fun xx exx => ?_)
                    refine k_istore hC [(6, vI xx), (5, vI (b : Int)), (4, vI (a : Int)), (3, vI r2), (2, vI (g 2)), (0, .ref (kad G 0)), (1, vI v)] dL_areSound_178 (by decide) rfl ?_
                    refine k_aload_n hC dL_areSound_180 rfl 5 rfl ?_
                    refine k_iload hC dL_areSound_181 2 rfl ?_
                    refine k_iload hC dL_areSound_183 1 rfl ?_
                    refine k_iload_n hC dL_areSound_185 rfl 3 rfl ?_
                    refine k_iconst hC dL_areSound_186 ?_
                    have h_4 : w3 0 = .inr (11, [.ref (kad G 1), .ref (kad G 32), .ref (kad G 3), .ref (kad G 37), vI sv, .ref (kad G 44), .ref (kad G 10), .ref (kad G 116), .ref (kad G 129), .ref (kad G 132)]) := (hf3 0 (by omega)).trans h0x
                    have hB_5 : kLog G w3 3 g := hLx.fr (fun j q1 q2 => (hf3 j (by omega)))
                    have hB_6 : kPlan G w3 32 g nl := hPx.fr (fun j q1 q2 => (hf3 j (by omega)))
                    refine k_callV hC (n_X11_crossing l hls G hN w3 fl g nl sv (a : Int) (b : Int) r2 1 (by omega) (by omega) (by omega) (by decide) hI h_4 hB_5 hB_6 hCt3 (by omega)) yy_X11_crossing wm_L_173 (kl hN (by decide)) h_4 rfl rfl rfl rfl (Nat.le_of_ble_eq_true rfl) (by decide) (by decide) ⟨by decide, by decide⟩ dL_areSound_187 (fun v7 w7 fl7 hp7 => ?_)
                    obtain ⟨-, q1, q2, hp7⟩ := hp7
                    subst q1
                    subst q2
                    obtain ⟨hCt7, hf7⟩ := hp7
                    show KW p l e R s m args below meth c 8 G Q w7 fl 0 0 190 [(6, vI xx), (5, vI (b : Int)), (4, vI (a : Int)), (3, vI r2), (2, vI (g 2)), (0, .ref (kad G 0)), (1, vI v)] [vI (crsV g (a : Int).toNat (b : Int).toNat r2 1)]
                    refine k_topv (vI (crsV g a b r2 1)) rfl ?_
                    refine k_topI (fun yy eyy => ?_)
                    have hc9 := crs_c g a b r2
                    have hb1 := cE_b g a b r2
                    have hb2 := cN_b g a b r2
                    rw [← exx, ← eyy] at hc9
                    refine k_istore hC [(7, vI yy), (6, vI xx), (5, vI (b : Int)), (4, vI (a : Int)), (3, vI r2), (2, vI (g 2)), (0, .ref (kad G 0)), (1, vI v)] dL_areSound_190 (by decide) rfl ?_
                    refine k_iload hC dL_areSound_192 1 rfl ?_
                    refine k_ldc hC (x := (-1000000000)) (v := (-1000000000)) dL_areSound_194 (by decide) wk_L_177 ?_
                    refine k_icmp_ne hC 203 dL_areSound_196 rfl (by omega) (by omega) (fun c_196 => ?_) (fun c_196 => ?_)
                    · refine k_iconst hC dL_areSound_203 ?_
                      refine k_iload hC dL_areSound_204 0 rfl ?_
                      refine k_ldc hC (x := (-1000000000)) (v := (-1000000000)) dL_areSound_206 (by decide) wk_L_177 ?_
                      refine k_icmp_ne hC 215 dL_areSound_208 rfl (by omega) (by omega) (fun c_208 => ?_) (fun c_208 => ?_)
                      · refine k_iconst hC dL_areSound_215 ?_
                        refine k_icmp_eq hC 221 dL_areSound_216 rfl (by omega) (by omega) (fun c_216 => ?_) (fun c_216 => absurd c_216 (by omega))
                        refine k_iload hC dL_areSound_221 1 rfl ?_
                        refine k_ldc hC (x := (-1000000000)) (v := (-1000000000)) dL_areSound_223 (by decide) wk_L_177 ?_
                        refine k_icmp_eq hC 293 dL_areSound_225 rfl (by omega) (by omega) (fun c_225 => ?_) (fun c_225 => ?_)
                        · refine k_iinc hC (y := (b : Int) + 1) [(5, vI ((b : Int) + 1)), (7, vI yy), (6, vI xx), (4, vI (a : Int)), (3, vI r2), (2, vI (g 2)), (0, .ref (kad G 0)), (1, vI v)] (j := 2) dL_areSound_293 rfl (by omega) (by decide) rfl ?_
                          refine k_goto hC 161 dL_areSound_296 rfl ?_
                          refine k_lvs (ls := [0, 3, 4, 5, 6, 7]) [(5, vI ((b : Int) + 1)), (4, vI (a : Int)), (3, vI r2), (2, vI (g 2)), (0, .ref (kad G 0)), (1, vI v)] rfl ?_
                          refine k_lvs (ls := [0, 1, 2, 3, 4, 5]) [(5, vI ((b + 1 : Nat) : Int)), (4, vI (a : Int)), (3, vI r2), (2, vI (g 2)), (0, .ref (kad G 0)), (1, vI v)] (by simp only [lv_pick]; rfl) ?_
                          have h_8 : w7 0 = .inr (11, [.ref (kad G 1), .ref (kad G 32), .ref (kad G 3), .ref (kad G 37), vI sv, .ref (kad G 44), .ref (kad G 10), .ref (kad G 116), .ref (kad G 129), .ref (kad G 132)]) := (hf7 0 (by omega)).trans h_4
                          have hB_9 : kLog G w7 3 g := hB_5.fr (fun j q1 q2 => (hf7 j (by omega)))
                          have hB_10 : kPlan G w7 32 g nl := hB_6.fr (fun j q1 q2 => (hf7 j (by omega)))
                          exact ih3 (b + 1) w7 (by omega) (by omega) h_8 hB_9 hB_10 hCt7 (fun j hj => (hf7 j (by omega)).trans ((hf3 j (by omega)).trans (hfr3 j (by omega))))
                        · refine k_iload hC dL_areSound_228 1 rfl ?_
                          refine k_mabs hC wm_L_86 wmath_mabs (by omega) (by decide) (Nat.le_of_ble_eq_true rfl) ⟨by decide, by decide⟩ dL_areSound_230 ?_
                          refine k_ldc hC (x := 999999) (v := 999999) dL_areSound_233 (by decide) wk_L_178 ?_
                          refine k_icmp_gt hC 293 dL_areSound_235 rfl (by omega) (by omega) (fun c_235 => ?_) (fun c_235 => ?_)
                          · refine k_iinc hC (y := (b : Int) + 1) [(5, vI ((b : Int) + 1)), (7, vI yy), (6, vI xx), (4, vI (a : Int)), (3, vI r2), (2, vI (g 2)), (0, .ref (kad G 0)), (1, vI v)] (j := 2) dL_areSound_293 rfl (by omega) (by decide) rfl ?_
                            refine k_goto hC 161 dL_areSound_296 rfl ?_
                            refine k_lvs (ls := [0, 3, 4, 5, 6, 7]) [(5, vI ((b : Int) + 1)), (4, vI (a : Int)), (3, vI r2), (2, vI (g 2)), (0, .ref (kad G 0)), (1, vI v)] rfl ?_
                            refine k_lvs (ls := [0, 1, 2, 3, 4, 5]) [(5, vI ((b + 1 : Nat) : Int)), (4, vI (a : Int)), (3, vI r2), (2, vI (g 2)), (0, .ref (kad G 0)), (1, vI v)] (by simp only [lv_pick]; rfl) ?_
                            have h_11 : w7 0 = .inr (11, [.ref (kad G 1), .ref (kad G 32), .ref (kad G 3), .ref (kad G 37), vI sv, .ref (kad G 44), .ref (kad G 10), .ref (kad G 116), .ref (kad G 129), .ref (kad G 132)]) := (hf7 0 (by omega)).trans h_4
                            have hB_12 : kLog G w7 3 g := hB_5.fr (fun j q1 q2 => (hf7 j (by omega)))
                            have hB_13 : kPlan G w7 32 g nl := hB_6.fr (fun j q1 q2 => (hf7 j (by omega)))
                            exact ih3 (b + 1) w7 (by omega) (by omega) h_11 hB_12 hB_13 hCt7 (fun j hj => (hf7 j (by omega)).trans ((hf3 j (by omega)).trans (hfr3 j (by omega))))
                          · refine k_iload hC dL_areSound_238 0 rfl ?_
                            refine k_mabs hC wm_L_86 wmath_mabs (by omega) (by decide) (Nat.le_of_ble_eq_true rfl) ⟨by decide, by decide⟩ dL_areSound_240 ?_
                            refine k_ldc hC (x := 999999) (v := 999999) dL_areSound_243 (by decide) wk_L_178 ?_
                            refine k_icmp_le hC 251 dL_areSound_245 rfl (by omega) (by omega) (fun c_245 => ?_) (fun c_245 => ?_)
                            · have hok9 := hc9.resolve_left (fun q => by omega)
                              have hf9 : farM g a r2 xx yy ≤ 4 ∧ farM g b r2 xx yy ≤ 4 := by rw [hok9.2.1, hok9.2.2]; exact far_ok hok9.1 (by omega) (by omega)
                              have hfa := farM_nn g a r2 xx yy
                              have hfb := farM_nn g b r2 xx yy
                              refine k_aload_n hC dL_areSound_251 rfl 6 rfl ?_
                              refine k_iload hC dL_areSound_252 3 rfl ?_
                              refine k_iload_n hC dL_areSound_254 rfl 4 rfl ?_
                              refine k_iload hC dL_areSound_255 1 rfl ?_
                              refine k_i2l hC dL_areSound_257 (by omega) ?_
                              refine k_iload hC dL_areSound_258 0 rfl ?_
                              refine k_i2l hC dL_areSound_260 (by omega) ?_
                              have h_15 : w7 0 = .inr (11, [.ref (kad G 1), .ref (kad G 32), .ref (kad G 3), .ref (kad G 37), vI sv, .ref (kad G 44), .ref (kad G 10), .ref (kad G 116), .ref (kad G 129), .ref (kad G 132)]) := (hf7 0 (by omega)).trans h_4
                              have hB_16 : kLog G w7 3 g := hB_5.fr (fun j q1 q2 => (hf7 j (by omega)))
                              have hB_17 : kPlan G w7 32 g nl := hB_6.fr (fun j q1 q2 => (hf7 j (by omega)))
                              refine k_callS hC (c_L_far l hls G hN w7 fl g nl sv a r2 xx yy (by omega) (by omega) (by omega) (by omega) hI h_15 hB_16 hB_17 hCt7) yy_L_far wm_L_179 rfl rfl (Nat.le_of_ble_eq_true rfl) (by decide) (by decide) ⟨by decide, by decide⟩ dL_areSound_261 (fun v14 w14 fl14 hp14 => ?_)
                              obtain ⟨-, q1, q2, hCt14, hf14⟩ := hp14
                              subst q1
                              subst q2
                              show KW p l e R s m args below meth c 8 G Q w14 fl 0 0 264 [(7, vI yy), (6, vI xx), (5, vI (b : Int)), (4, vI (a : Int)), (3, vI r2), (2, vI (g 2)), (0, .ref (kad G 0)), (1, vI v)] [vL (farM g a r2 xx yy)]
                              refine k_ldc2 hC (x := 4) (v := 4) dL_areSound_264 (by decide) wk_L_183 ?_
                              refine k_lcmp_gt hC 291 dL_areSound_267 dL_areSound_268 rfl (by omega) (by omega) (fun c_267 => ?_) (fun c_267 => ?_)
                              · refine k_iconst hC dL_areSound_291 ?_
                                exact (by omega : False).elim
                              · refine k_aload_n hC dL_areSound_271 rfl 6 rfl ?_
                                refine k_iload hC dL_areSound_272 2 rfl ?_
                                refine k_iload_n hC dL_areSound_274 rfl 4 rfl ?_
                                refine k_iload hC dL_areSound_275 1 rfl ?_
                                refine k_i2l hC dL_areSound_277 (by omega) ?_
                                refine k_iload hC dL_areSound_278 0 rfl ?_
                                refine k_i2l hC dL_areSound_280 (by omega) ?_
                                have h_19 : w14 0 = .inr (11, [.ref (kad G 1), .ref (kad G 32), .ref (kad G 3), .ref (kad G 37), vI sv, .ref (kad G 44), .ref (kad G 10), .ref (kad G 116), .ref (kad G 129), .ref (kad G 132)]) := (hf14 0 (by omega)).trans h_15
                                have hB_20 : kLog G w14 3 g := hB_16.fr (fun j q1 q2 => (hf14 j (by omega)))
                                have hB_21 : kPlan G w14 32 g nl := hB_17.fr (fun j q1 q2 => (hf14 j (by omega)))
                                refine k_callS hC (c_L_far l hls G hN w14 fl g nl sv b r2 xx yy (by omega) (by omega) (by omega) (by omega) hI h_19 hB_20 hB_21 hCt14) yy_L_far wm_L_179 rfl rfl (Nat.le_of_ble_eq_true rfl) (by decide) (by decide) ⟨by decide, by decide⟩ dL_areSound_281 (fun v18 w18 fl18 hp18 => ?_)
                                obtain ⟨-, q1, q2, hCt18, hf18⟩ := hp18
                                subst q1
                                subst q2
                                show KW p l e R s m args below meth c 8 G Q w18 fl 0 0 284 [(7, vI yy), (6, vI xx), (5, vI (b : Int)), (4, vI (a : Int)), (3, vI r2), (2, vI (g 2)), (0, .ref (kad G 0)), (1, vI v)] [vL (farM g b r2 xx yy)]
                                refine k_ldc2 hC (x := 4) (v := 4) dL_areSound_284 (by decide) wk_L_183 ?_
                                refine k_lcmp_le hC 293 dL_areSound_287 dL_areSound_288 rfl (by omega) (by omega) (fun c_287 => ?_) (fun c_287 => ?_)
                                · refine k_iinc hC (y := (b : Int) + 1) [(5, vI ((b : Int) + 1)), (7, vI yy), (6, vI xx), (4, vI (a : Int)), (3, vI r2), (2, vI (g 2)), (0, .ref (kad G 0)), (1, vI v)] (j := 2) dL_areSound_293 rfl (by omega) (by decide) rfl ?_
                                  refine k_goto hC 161 dL_areSound_296 rfl ?_
                                  refine k_lvs (ls := [0, 3, 4, 5, 6, 7]) [(5, vI ((b : Int) + 1)), (4, vI (a : Int)), (3, vI r2), (2, vI (g 2)), (0, .ref (kad G 0)), (1, vI v)] rfl ?_
                                  refine k_lvs (ls := [0, 1, 2, 3, 4, 5]) [(5, vI ((b + 1 : Nat) : Int)), (4, vI (a : Int)), (3, vI r2), (2, vI (g 2)), (0, .ref (kad G 0)), (1, vI v)] (by simp only [lv_pick]; rfl) ?_
                                  have h_22 : w18 0 = .inr (11, [.ref (kad G 1), .ref (kad G 32), .ref (kad G 3), .ref (kad G 37), vI sv, .ref (kad G 44), .ref (kad G 10), .ref (kad G 116), .ref (kad G 129), .ref (kad G 132)]) := (hf18 0 (by omega)).trans h_19
                                  have hB_23 : kLog G w18 3 g := hB_20.fr (fun j q1 q2 => (hf18 j (by omega)))
                                  have hB_24 : kPlan G w18 32 g nl := hB_21.fr (fun j q1 q2 => (hf18 j (by omega)))
                                  exact ih3 (b + 1) w18 (by omega) (by omega) h_22 hB_23 hB_24 hCt18 (fun j hj => (hf18 j (by omega)).trans ((hf14 j (by omega)).trans ((hf7 j (by omega)).trans ((hf3 j (by omega)).trans (hfr3 j (by omega))))))
                                · refine k_iconst hC dL_areSound_291 ?_
                                  exact (by omega : False).elim
                            · refine k_goto hC 293 dL_areSound_248 rfl ?_
                              refine k_iinc hC (y := (b : Int) + 1) [(5, vI ((b : Int) + 1)), (7, vI yy), (6, vI xx), (4, vI (a : Int)), (3, vI r2), (2, vI (g 2)), (0, .ref (kad G 0)), (1, vI v)] (j := 2) dL_areSound_293 rfl (by omega) (by decide) rfl ?_
                              refine k_goto hC 161 dL_areSound_296 rfl ?_
                              refine k_lvs (ls := [0, 3, 4, 5, 6, 7]) [(5, vI ((b : Int) + 1)), (4, vI (a : Int)), (3, vI r2), (2, vI (g 2)), (0, .ref (kad G 0)), (1, vI v)] rfl ?_
                              refine k_lvs (ls := [0, 1, 2, 3, 4, 5]) [(5, vI ((b + 1 : Nat) : Int)), (4, vI (a : Int)), (3, vI r2), (2, vI (g 2)), (0, .ref (kad G 0)), (1, vI v)] (by simp only [lv_pick]; rfl) ?_
                              have h_25 : w7 0 = .inr (11, [.ref (kad G 1), .ref (kad G 32), .ref (kad G 3), .ref (kad G 37), vI sv, .ref (kad G 44), .ref (kad G 10), .ref (kad G 116), .ref (kad G 129), .ref (kad G 132)]) := (hf7 0 (by omega)).trans h_4
                              have hB_26 : kLog G w7 3 g := hB_5.fr (fun j q1 q2 => (hf7 j (by omega)))
                              have hB_27 : kPlan G w7 32 g nl := hB_6.fr (fun j q1 q2 => (hf7 j (by omega)))
                              exact ih3 (b + 1) w7 (by omega) (by omega) h_25 hB_26 hB_27 hCt7 (fun j hj => (hf7 j (by omega)).trans ((hf3 j (by omega)).trans (hfr3 j (by omega))))
                      · refine k_iconst hC dL_areSound_211 ?_
                        refine k_goto hC 216 dL_areSound_212 rfl ?_
                        refine k_icmp_eq hC 221 dL_areSound_216 rfl (by omega) (by omega) (fun c_216 => absurd c_216 (by omega)) (fun c_216 => ?_)
                        refine k_iconst hC dL_areSound_219 ?_
                        exact (by omega : False).elim
                    · refine k_iconst hC dL_areSound_199 ?_
                      refine k_goto hC 204 dL_areSound_200 rfl ?_
                      refine k_iload hC dL_areSound_204 0 rfl ?_
                      refine k_ldc hC (x := (-1000000000)) (v := (-1000000000)) dL_areSound_206 (by decide) wk_L_177 ?_
                      refine k_icmp_ne hC 215 dL_areSound_208 rfl (by omega) (by omega) (fun c_208 => ?_) (fun c_208 => ?_)
                      · refine k_iconst hC dL_areSound_215 ?_
                        refine k_icmp_eq hC 221 dL_areSound_216 rfl (by omega) (by omega) (fun c_216 => absurd c_216 (by omega)) (fun c_216 => ?_)
                        refine k_iconst hC dL_areSound_219 ?_
                        exact (by omega : False).elim
                      · refine k_iconst hC dL_areSound_211 ?_
                        refine k_goto hC 216 dL_areSound_212 rfl ?_
                        refine k_icmp_eq hC 221 dL_areSound_216 rfl (by omega) (by omega) (fun c_216 => ?_) (fun c_216 => absurd c_216 (by omega))
                        refine k_iload hC dL_areSound_221 1 rfl ?_
                        refine k_ldc hC (x := (-1000000000)) (v := (-1000000000)) dL_areSound_223 (by decide) wk_L_177 ?_
                        refine k_icmp_eq hC 293 dL_areSound_225 rfl (by omega) (by omega) (fun c_225 => ?_) (fun c_225 => ?_)
                        · refine k_iinc hC (y := (b : Int) + 1) [(5, vI ((b : Int) + 1)), (7, vI yy), (6, vI xx), (4, vI (a : Int)), (3, vI r2), (2, vI (g 2)), (0, .ref (kad G 0)), (1, vI v)] (j := 2) dL_areSound_293 rfl (by omega) (by decide) rfl ?_
                          refine k_goto hC 161 dL_areSound_296 rfl ?_
                          refine k_lvs (ls := [0, 3, 4, 5, 6, 7]) [(5, vI ((b : Int) + 1)), (4, vI (a : Int)), (3, vI r2), (2, vI (g 2)), (0, .ref (kad G 0)), (1, vI v)] rfl ?_
                          refine k_lvs (ls := [0, 1, 2, 3, 4, 5]) [(5, vI ((b + 1 : Nat) : Int)), (4, vI (a : Int)), (3, vI r2), (2, vI (g 2)), (0, .ref (kad G 0)), (1, vI v)] (by simp only [lv_pick]; rfl) ?_
                          have h_28 : w7 0 = .inr (11, [.ref (kad G 1), .ref (kad G 32), .ref (kad G 3), .ref (kad G 37), vI sv, .ref (kad G 44), .ref (kad G 10), .ref (kad G 116), .ref (kad G 129), .ref (kad G 132)]) := (hf7 0 (by omega)).trans h_4
                          have hB_29 : kLog G w7 3 g := hB_5.fr (fun j q1 q2 => (hf7 j (by omega)))
                          have hB_30 : kPlan G w7 32 g nl := hB_6.fr (fun j q1 q2 => (hf7 j (by omega)))
                          exact ih3 (b + 1) w7 (by omega) (by omega) h_28 hB_29 hB_30 hCt7 (fun j hj => (hf7 j (by omega)).trans ((hf3 j (by omega)).trans (hfr3 j (by omega))))
                        · refine k_iload hC dL_areSound_228 1 rfl ?_
                          refine k_mabs hC wm_L_86 wmath_mabs (by omega) (by decide) (Nat.le_of_ble_eq_true rfl) ⟨by decide, by decide⟩ dL_areSound_230 ?_
                          refine k_ldc hC (x := 999999) (v := 999999) dL_areSound_233 (by decide) wk_L_178 ?_
                          refine k_icmp_gt hC 293 dL_areSound_235 rfl (by omega) (by omega) (fun c_235 => ?_) (fun c_235 => ?_)
                          · refine k_iinc hC (y := (b : Int) + 1) [(5, vI ((b : Int) + 1)), (7, vI yy), (6, vI xx), (4, vI (a : Int)), (3, vI r2), (2, vI (g 2)), (0, .ref (kad G 0)), (1, vI v)] (j := 2) dL_areSound_293 rfl (by omega) (by decide) rfl ?_
                            refine k_goto hC 161 dL_areSound_296 rfl ?_
                            refine k_lvs (ls := [0, 3, 4, 5, 6, 7]) [(5, vI ((b : Int) + 1)), (4, vI (a : Int)), (3, vI r2), (2, vI (g 2)), (0, .ref (kad G 0)), (1, vI v)] rfl ?_
                            refine k_lvs (ls := [0, 1, 2, 3, 4, 5]) [(5, vI ((b + 1 : Nat) : Int)), (4, vI (a : Int)), (3, vI r2), (2, vI (g 2)), (0, .ref (kad G 0)), (1, vI v)] (by simp only [lv_pick]; rfl) ?_
                            have h_31 : w7 0 = .inr (11, [.ref (kad G 1), .ref (kad G 32), .ref (kad G 3), .ref (kad G 37), vI sv, .ref (kad G 44), .ref (kad G 10), .ref (kad G 116), .ref (kad G 129), .ref (kad G 132)]) := (hf7 0 (by omega)).trans h_4
                            have hB_32 : kLog G w7 3 g := hB_5.fr (fun j q1 q2 => (hf7 j (by omega)))
                            have hB_33 : kPlan G w7 32 g nl := hB_6.fr (fun j q1 q2 => (hf7 j (by omega)))
                            exact ih3 (b + 1) w7 (by omega) (by omega) h_31 hB_32 hB_33 hCt7 (fun j hj => (hf7 j (by omega)).trans ((hf3 j (by omega)).trans (hfr3 j (by omega))))
                          · refine k_iload hC dL_areSound_238 0 rfl ?_
                            refine k_mabs hC wm_L_86 wmath_mabs (by omega) (by decide) (Nat.le_of_ble_eq_true rfl) ⟨by decide, by decide⟩ dL_areSound_240 ?_
                            refine k_ldc hC (x := 999999) (v := 999999) dL_areSound_243 (by decide) wk_L_178 ?_
                            refine k_icmp_le hC 251 dL_areSound_245 rfl (by omega) (by omega) (fun c_245 => ?_) (fun c_245 => ?_)
                            · have hok9 := hc9.resolve_left (fun q => by omega)
                              have hf9 : farM g a r2 xx yy ≤ 4 ∧ farM g b r2 xx yy ≤ 4 := by rw [hok9.2.1, hok9.2.2]; exact far_ok hok9.1 (by omega) (by omega)
                              have hfa := farM_nn g a r2 xx yy
                              have hfb := farM_nn g b r2 xx yy
                              refine k_aload_n hC dL_areSound_251 rfl 6 rfl ?_
                              refine k_iload hC dL_areSound_252 3 rfl ?_
                              refine k_iload_n hC dL_areSound_254 rfl 4 rfl ?_
                              refine k_iload hC dL_areSound_255 1 rfl ?_
                              refine k_i2l hC dL_areSound_257 (by omega) ?_
                              refine k_iload hC dL_areSound_258 0 rfl ?_
                              refine k_i2l hC dL_areSound_260 (by omega) ?_
                              have h_35 : w7 0 = .inr (11, [.ref (kad G 1), .ref (kad G 32), .ref (kad G 3), .ref (kad G 37), vI sv, .ref (kad G 44), .ref (kad G 10), .ref (kad G 116), .ref (kad G 129), .ref (kad G 132)]) := (hf7 0 (by omega)).trans h_4
                              have hB_36 : kLog G w7 3 g := hB_5.fr (fun j q1 q2 => (hf7 j (by omega)))
                              have hB_37 : kPlan G w7 32 g nl := hB_6.fr (fun j q1 q2 => (hf7 j (by omega)))
                              refine k_callS hC (c_L_far l hls G hN w7 fl g nl sv a r2 xx yy (by omega) (by omega) (by omega) (by omega) hI h_35 hB_36 hB_37 hCt7) yy_L_far wm_L_179 rfl rfl (Nat.le_of_ble_eq_true rfl) (by decide) (by decide) ⟨by decide, by decide⟩ dL_areSound_261 (fun v34 w34 fl34 hp34 => ?_)
                              obtain ⟨-, q1, q2, hCt34, hf34⟩ := hp34
                              subst q1
                              subst q2
                              show KW p l e R s m args below meth c 8 G Q w34 fl 0 0 264 [(7, vI yy), (6, vI xx), (5, vI (b : Int)), (4, vI (a : Int)), (3, vI r2), (2, vI (g 2)), (0, .ref (kad G 0)), (1, vI v)] [vL (farM g a r2 xx yy)]
                              refine k_ldc2 hC (x := 4) (v := 4) dL_areSound_264 (by decide) wk_L_183 ?_
                              refine k_lcmp_gt hC 291 dL_areSound_267 dL_areSound_268 rfl (by omega) (by omega) (fun c_267 => ?_) (fun c_267 => ?_)
                              · refine k_iconst hC dL_areSound_291 ?_
                                exact (by omega : False).elim
                              · refine k_aload_n hC dL_areSound_271 rfl 6 rfl ?_
                                refine k_iload hC dL_areSound_272 2 rfl ?_
                                refine k_iload_n hC dL_areSound_274 rfl 4 rfl ?_
                                refine k_iload hC dL_areSound_275 1 rfl ?_
                                refine k_i2l hC dL_areSound_277 (by omega) ?_
                                refine k_iload hC dL_areSound_278 0 rfl ?_
                                refine k_i2l hC dL_areSound_280 (by omega) ?_
                                have h_39 : w34 0 = .inr (11, [.ref (kad G 1), .ref (kad G 32), .ref (kad G 3), .ref (kad G 37), vI sv, .ref (kad G 44), .ref (kad G 10), .ref (kad G 116), .ref (kad G 129), .ref (kad G 132)]) := (hf34 0 (by omega)).trans h_35
                                have hB_40 : kLog G w34 3 g := hB_36.fr (fun j q1 q2 => (hf34 j (by omega)))
                                have hB_41 : kPlan G w34 32 g nl := hB_37.fr (fun j q1 q2 => (hf34 j (by omega)))
                                refine k_callS hC (c_L_far l hls G hN w34 fl g nl sv b r2 xx yy (by omega) (by omega) (by omega) (by omega) hI h_39 hB_40 hB_41 hCt34) yy_L_far wm_L_179 rfl rfl (Nat.le_of_ble_eq_true rfl) (by decide) (by decide) ⟨by decide, by decide⟩ dL_areSound_281 (fun v38 w38 fl38 hp38 => ?_)
                                obtain ⟨-, q1, q2, hCt38, hf38⟩ := hp38
                                subst q1
                                subst q2
                                show KW p l e R s m args below meth c 8 G Q w38 fl 0 0 284 [(7, vI yy), (6, vI xx), (5, vI (b : Int)), (4, vI (a : Int)), (3, vI r2), (2, vI (g 2)), (0, .ref (kad G 0)), (1, vI v)] [vL (farM g b r2 xx yy)]
                                refine k_ldc2 hC (x := 4) (v := 4) dL_areSound_284 (by decide) wk_L_183 ?_
                                refine k_lcmp_le hC 293 dL_areSound_287 dL_areSound_288 rfl (by omega) (by omega) (fun c_287 => ?_) (fun c_287 => ?_)
                                · refine k_iinc hC (y := (b : Int) + 1) [(5, vI ((b : Int) + 1)), (7, vI yy), (6, vI xx), (4, vI (a : Int)), (3, vI r2), (2, vI (g 2)), (0, .ref (kad G 0)), (1, vI v)] (j := 2) dL_areSound_293 rfl (by omega) (by decide) rfl ?_
                                  refine k_goto hC 161 dL_areSound_296 rfl ?_
                                  refine k_lvs (ls := [0, 3, 4, 5, 6, 7]) [(5, vI ((b : Int) + 1)), (4, vI (a : Int)), (3, vI r2), (2, vI (g 2)), (0, .ref (kad G 0)), (1, vI v)] rfl ?_
                                  refine k_lvs (ls := [0, 1, 2, 3, 4, 5]) [(5, vI ((b + 1 : Nat) : Int)), (4, vI (a : Int)), (3, vI r2), (2, vI (g 2)), (0, .ref (kad G 0)), (1, vI v)] (by simp only [lv_pick]; rfl) ?_
                                  have h_42 : w38 0 = .inr (11, [.ref (kad G 1), .ref (kad G 32), .ref (kad G 3), .ref (kad G 37), vI sv, .ref (kad G 44), .ref (kad G 10), .ref (kad G 116), .ref (kad G 129), .ref (kad G 132)]) := (hf38 0 (by omega)).trans h_39
                                  have hB_43 : kLog G w38 3 g := hB_40.fr (fun j q1 q2 => (hf38 j (by omega)))
                                  have hB_44 : kPlan G w38 32 g nl := hB_41.fr (fun j q1 q2 => (hf38 j (by omega)))
                                  exact ih3 (b + 1) w38 (by omega) (by omega) h_42 hB_43 hB_44 hCt38 (fun j hj => (hf38 j (by omega)).trans ((hf34 j (by omega)).trans ((hf7 j (by omega)).trans ((hf3 j (by omega)).trans (hfr3 j (by omega))))))
                                · refine k_iconst hC dL_areSound_291 ?_
                                  exact (by omega : False).elim
                            · refine k_goto hC 293 dL_areSound_248 rfl ?_
                              refine k_iinc hC (y := (b : Int) + 1) [(5, vI ((b : Int) + 1)), (7, vI yy), (6, vI xx), (4, vI (a : Int)), (3, vI r2), (2, vI (g 2)), (0, .ref (kad G 0)), (1, vI v)] (j := 2) dL_areSound_293 rfl (by omega) (by decide) rfl ?_
                              refine k_goto hC 161 dL_areSound_296 rfl ?_
                              refine k_lvs (ls := [0, 3, 4, 5, 6, 7]) [(5, vI ((b : Int) + 1)), (4, vI (a : Int)), (3, vI r2), (2, vI (g 2)), (0, .ref (kad G 0)), (1, vI v)] rfl ?_
                              refine k_lvs (ls := [0, 1, 2, 3, 4, 5]) [(5, vI ((b + 1 : Nat) : Int)), (4, vI (a : Int)), (3, vI r2), (2, vI (g 2)), (0, .ref (kad G 0)), (1, vI v)] (by simp only [lv_pick]; rfl) ?_
                              have h_45 : w7 0 = .inr (11, [.ref (kad G 1), .ref (kad G 32), .ref (kad G 3), .ref (kad G 37), vI sv, .ref (kad G 44), .ref (kad G 10), .ref (kad G 116), .ref (kad G 129), .ref (kad G 132)]) := (hf7 0 (by omega)).trans h_4
                              have hB_46 : kLog G w7 3 g := hB_5.fr (fun j q1 q2 => (hf7 j (by omega)))
                              have hB_47 : kPlan G w7 32 g nl := hB_6.fr (fun j q1 q2 => (hf7 j (by omega)))
                              exact ih3 (b + 1) w7 (by omega) (by omega) h_45 hB_46 hB_47 hCt7 (fun j hj => (hf7 j (by omega)).trans ((hf3 j (by omega)).trans (hfr3 j (by omega))))
              refine k_lvs (ls := [0, 1, 2, 3, 4, 5]) [(5, vI ((0 : Nat) : Int)), (4, vI (a : Int)), (3, vI r2), (2, vI (g 2)), (0, .ref (kad G 0)), (1, vI v)] (by simp only [lv_pick]; rfl) ?_
              exact loop3 13 0 u2 (by omega) (by omega) h0x hLx hPx hCx (fun j hj => hfr2 j (by omega))
        refine k_lvs (ls := [0, 1, 2, 3, 4]) [(4, vI ((0 : Nat) : Int)), (3, vI r2), (2, vI (g 2)), (0, .ref (kad G 0)), (1, vI v)] (by simp only [lv_pick]; rfl) ?_
        exact loop2 13 0 u1 (by omega) (by omega) h0x hLx hPx hCx (fun j hj => hfr1 j (by omega))
      · have hs9 := hI.sight k (by omega)
        have h91 := obsM_b hI k (by omega)
        have h92 := expM_b g k
        have h93 := aziM_b g k
        have h94 := intM_b hI k (by omega)
        have h95 := offM_b hI k (by omega)
        have h96 := car_self g k
        refine k_aload_n hC dL_areSound_23 rfl 3 rfl ?_
        refine k_iload hC dL_areSound_24 0 rfl ?_
        refine k_aload_n hC dL_areSound_26 rfl 3 rfl ?_
        refine k_iload hC dL_areSound_27 0 rfl ?_
        refine k_iconst hC dL_areSound_29 ?_
        refine k_callV hC (n_X11_sight l hls G hN u1 fl g nl sv (k : Int) 1 (by omega) (by omega) hI h0x hLx hPx hCx (by omega)) yy_X11_sight wm_L_133 (kl hN (by decide)) h0x rfl rfl rfl rfl (Nat.le_of_ble_eq_true rfl) (by decide) (by decide) ⟨by decide, by decide⟩ dL_areSound_30 (fun v48 w48 fl48 hp48 => ?_)
        obtain ⟨-, q1, q2, hp48⟩ := hp48
        subst q1
        subst q2
        obtain ⟨hCt48, hf48⟩ := hp48
        show KW p l e R s m args below meth c 8 G Q w48 fl 0 0 33 [(4, vI (k : Int)), (3, vI r2), (2, vI (g 2)), (0, .ref (kad G 0)), (1, vI v)] [vI (sightV g (k : Int).toNat 1), vI (k : Int), .ref (kad G 0)]
        refine k_topv (vI (g (58 + 3 * k))) rfl ?_
        have h_49 : w48 0 = .inr (11, [.ref (kad G 1), .ref (kad G 32), .ref (kad G 3), .ref (kad G 37), vI sv, .ref (kad G 44), .ref (kad G 10), .ref (kad G 116), .ref (kad G 129), .ref (kad G 132)]) := (hf48 0 (by omega)).trans h0x
        have hB_50 : kLog G w48 3 g := hLx.fr (fun j q1 q2 => (hf48 j (by omega)))
        have hB_51 : kPlan G w48 32 g nl := hPx.fr (fun j q1 q2 => (hf48 j (by omega)))
        refine k_callV hC (n_X11_carried l hls G hN w48 fl g nl sv (k : Int) (g (58 + 3 * k)) (by omega) (by omega) hI h_49 hB_50 hB_51 hCt48 (by omega)) yy_X11_carried wm_L_167 (kl hN (by decide)) h_49 rfl rfl rfl rfl (Nat.le_of_ble_eq_true rfl) (by decide) (by decide) ⟨by decide, by decide⟩ dL_areSound_33 (fun v52 w52 fl52 hp52 => ?_)
        obtain ⟨-, q1, q2, hp52⟩ := hp52
        subst q1
        subst q2
        obtain ⟨hCt52, hf52⟩ := hp52
        show KW p l e R s m args below meth c 8 G Q w52 fl 0 0 36 [(4, vI (k : Int)), (3, vI r2), (2, vI (g 2)), (0, .ref (kad G 0)), (1, vI v)] [vI (carM g (k : Int).toNat (g (58 + 3 * k)))]
        refine k_topv (vI (carM g k (g (58 + 3 * k)))) rfl ?_
        refine k_aload_n hC dL_areSound_36 rfl 3 rfl ?_
        refine k_iload hC dL_areSound_37 0 rfl ?_
        refine k_bipush hC dL_areSound_39 (by decide) ?_
        have h_53 : w52 0 = .inr (11, [.ref (kad G 1), .ref (kad G 32), .ref (kad G 3), .ref (kad G 37), vI sv, .ref (kad G 44), .ref (kad G 10), .ref (kad G 116), .ref (kad G 129), .ref (kad G 132)]) := (hf52 0 (by omega)).trans h_49
        have hB_54 : kLog G w52 3 g := hB_50.fr (fun j q1 q2 => (hf52 j (by omega)))
        have hB_55 : kPlan G w52 32 g nl := hB_51.fr (fun j q1 q2 => (hf52 j (by omega)))
        refine k_callV hC (n_X11_sight l hls G hN w52 fl g nl sv (k : Int) 8 (by omega) (by omega) hI h_53 hB_54 hB_55 hCt52 (by omega)) yy_X11_sight wm_L_133 (kl hN (by decide)) h_53 rfl rfl rfl rfl (Nat.le_of_ble_eq_true rfl) (by decide) (by decide) ⟨by decide, by decide⟩ dL_areSound_41 (fun v56 w56 fl56 hp56 => ?_)
        obtain ⟨-, q1, q2, hp56⟩ := hp56
        subst q1
        subst q2
        obtain ⟨hCt56, hf56⟩ := hp56
        show KW p l e R s m args below meth c 8 G Q w56 fl 0 0 44 [(4, vI (k : Int)), (3, vI r2), (2, vI (g 2)), (0, .ref (kad G 0)), (1, vI v)] [vI (sightV g (k : Int).toNat 8), vI (carM g k (g (58 + 3 * k)))]
        refine k_topv (vI (offM g k)) rfl ?_
        refine k_icmp_ne hC 124 dL_areSound_44 rfl (by omega) (by omega) (fun c_44 => absurd (car_self g k) c_44) (fun c_44 => ?_)
        refine k_aload_n hC dL_areSound_47 rfl 3 rfl ?_
        refine k_iload hC dL_areSound_48 0 rfl ?_
        refine k_bipush hC dL_areSound_50 (by decide) ?_
        have h_57 : w56 0 = .inr (11, [.ref (kad G 1), .ref (kad G 32), .ref (kad G 3), .ref (kad G 37), vI sv, .ref (kad G 44), .ref (kad G 10), .ref (kad G 116), .ref (kad G 129), .ref (kad G 132)]) := (hf56 0 (by omega)).trans h_53
        have hB_58 : kLog G w56 3 g := hB_54.fr (fun j q1 q2 => (hf56 j (by omega)))
        have hB_59 : kPlan G w56 32 g nl := hB_55.fr (fun j q1 q2 => (hf56 j (by omega)))
        refine k_callV hC (n_X11_sight l hls G hN w56 fl g nl sv (k : Int) 7 (by omega) (by omega) hI h_57 hB_58 hB_59 hCt56 (by omega)) yy_X11_sight wm_L_133 (kl hN (by decide)) h_57 rfl rfl rfl rfl (Nat.le_of_ble_eq_true rfl) (by decide) (by decide) ⟨by decide, by decide⟩ dL_areSound_52 (fun v60 w60 fl60 hp60 => ?_)
        obtain ⟨-, q1, q2, hp60⟩ := hp60
        subst q1
        subst q2
        obtain ⟨hCt60, hf60⟩ := hp60
        show KW p l e R s m args below meth c 8 G Q w60 fl 0 0 55 [(4, vI (k : Int)), (3, vI r2), (2, vI (g 2)), (0, .ref (kad G 0)), (1, vI v)] [vI (sightV g (k : Int).toNat 7)]
        refine k_topv (vI (intM g k)) rfl ?_
        refine k_aload_n hC dL_areSound_55 rfl 3 rfl ?_
        refine k_iload hC dL_areSound_56 0 rfl ?_
        refine k_iconst hC dL_areSound_58 ?_
        have h_61 : w60 0 = .inr (11, [.ref (kad G 1), .ref (kad G 32), .ref (kad G 3), .ref (kad G 37), vI sv, .ref (kad G 44), .ref (kad G 10), .ref (kad G 116), .ref (kad G 129), .ref (kad G 132)]) := (hf60 0 (by omega)).trans h_57
        have hB_62 : kLog G w60 3 g := hB_58.fr (fun j q1 q2 => (hf60 j (by omega)))
        have hB_63 : kPlan G w60 32 g nl := hB_59.fr (fun j q1 q2 => (hf60 j (by omega)))
        refine k_callV hC (n_X11_sight l hls G hN w60 fl g nl sv (k : Int) 4 (by omega) (by omega) hI h_61 hB_62 hB_63 hCt60 (by omega)) yy_X11_sight wm_L_133 (kl hN (by decide)) h_61 rfl rfl rfl rfl (Nat.le_of_ble_eq_true rfl) (by decide) (by decide) ⟨by decide, by decide⟩ dL_areSound_59 (fun v64 w64 fl64 hp64 => ?_)
        obtain ⟨-, q1, q2, hp64⟩ := hp64
        subst q1
        subst q2
        obtain ⟨hCt64, hf64⟩ := hp64
        show KW p l e R s m args below meth c 8 G Q w64 fl 0 0 62 [(4, vI (k : Int)), (3, vI r2), (2, vI (g 2)), (0, .ref (kad G 0)), (1, vI v)] [vI (sightV g (k : Int).toNat 4), vI (intM g k)]
        refine k_topv (vI (obsM g k)) rfl ?_
        refine k_aload_n hC dL_areSound_62 rfl 3 rfl ?_
        refine k_iload hC dL_areSound_63 0 rfl ?_
        refine k_iconst hC dL_areSound_65 ?_
        have h_65 : w64 0 = .inr (11, [.ref (kad G 1), .ref (kad G 32), .ref (kad G 3), .ref (kad G 37), vI sv, .ref (kad G 44), .ref (kad G 10), .ref (kad G 116), .ref (kad G 129), .ref (kad G 132)]) := (hf64 0 (by omega)).trans h_61
        have hB_66 : kLog G w64 3 g := hB_62.fr (fun j q1 q2 => (hf64 j (by omega)))
        have hB_67 : kPlan G w64 32 g nl := hB_63.fr (fun j q1 q2 => (hf64 j (by omega)))
        refine k_callV hC (n_X11_sight l hls G hN w64 fl g nl sv (k : Int) 5 (by omega) (by omega) hI h_65 hB_66 hB_67 hCt64 (by omega)) yy_X11_sight wm_L_133 (kl hN (by decide)) h_65 rfl rfl rfl rfl (Nat.le_of_ble_eq_true rfl) (by decide) (by decide) ⟨by decide, by decide⟩ dL_areSound_66 (fun v68 w68 fl68 hp68 => ?_)
        obtain ⟨-, q1, q2, hp68⟩ := hp68
        subst q1
        subst q2
        obtain ⟨hCt68, hf68⟩ := hp68
        show KW p l e R s m args below meth c 8 G Q w68 fl 0 0 69 [(4, vI (k : Int)), (3, vI r2), (2, vI (g 2)), (0, .ref (kad G 0)), (1, vI v)] [vI (sightV g (k : Int).toNat 5), vI (obsM g k), vI (intM g k)]
        refine k_topv (vI (expM g k)) rfl ?_
        refine k_isub hC dL_areSound_69 ?_
        refine k_icmp_ne hC 124 dL_areSound_70 rfl (by omega) (by omega) (fun c_70 => absurd (rfl : intM g k = obsM g k - expM g k) c_70) (fun c_70 => ?_)
        refine k_aload_n hC dL_areSound_73 rfl 3 rfl ?_
        refine k_iload hC dL_areSound_74 0 rfl ?_
        refine k_bipush hC dL_areSound_76 (by decide) ?_
        have h_69 : w68 0 = .inr (11, [.ref (kad G 1), .ref (kad G 32), .ref (kad G 3), .ref (kad G 37), vI sv, .ref (kad G 44), .ref (kad G 10), .ref (kad G 116), .ref (kad G 129), .ref (kad G 132)]) := (hf68 0 (by omega)).trans h_65
        have hB_70 : kLog G w68 3 g := hB_66.fr (fun j q1 q2 => (hf68 j (by omega)))
        have hB_71 : kPlan G w68 32 g nl := hB_67.fr (fun j q1 q2 => (hf68 j (by omega)))
        refine k_callV hC (n_X11_sight l hls G hN w68 fl g nl sv (k : Int) 6 (by omega) (by omega) hI h_69 hB_70 hB_71 hCt68 (by omega)) yy_X11_sight wm_L_133 (kl hN (by decide)) h_69 rfl rfl rfl rfl (Nat.le_of_ble_eq_true rfl) (by decide) (by decide) ⟨by decide, by decide⟩ dL_areSound_78 (fun v72 w72 fl72 hp72 => ?_)
        obtain ⟨-, q1, q2, hp72⟩ := hp72
        subst q1
        subst q2
        obtain ⟨hCt72, hf72⟩ := hp72
        show KW p l e R s m args below meth c 8 G Q w72 fl 0 0 81 [(4, vI (k : Int)), (3, vI r2), (2, vI (g 2)), (0, .ref (kad G 0)), (1, vI v)] [vI (sightV g (k : Int).toNat 6)]
        refine k_topv (vI (aziM g k)) rfl ?_
        refine k_if_lt hC 124 dL_areSound_81 rfl (by omega) (fun c_81 => absurd c_81 (by omega)) (fun c_81 => ?_)
        refine k_aload_n hC dL_areSound_84 rfl 3 rfl ?_
        refine k_iload hC dL_areSound_85 0 rfl ?_
        refine k_bipush hC dL_areSound_87 (by decide) ?_
        have h_73 : w72 0 = .inr (11, [.ref (kad G 1), .ref (kad G 32), .ref (kad G 3), .ref (kad G 37), vI sv, .ref (kad G 44), .ref (kad G 10), .ref (kad G 116), .ref (kad G 129), .ref (kad G 132)]) := (hf72 0 (by omega)).trans h_69
        have hB_74 : kLog G w72 3 g := hB_70.fr (fun j q1 q2 => (hf72 j (by omega)))
        have hB_75 : kPlan G w72 32 g nl := hB_71.fr (fun j q1 q2 => (hf72 j (by omega)))
        refine k_callV hC (n_X11_sight l hls G hN w72 fl g nl sv (k : Int) 6 (by omega) (by omega) hI h_73 hB_74 hB_75 hCt72 (by omega)) yy_X11_sight wm_L_133 (kl hN (by decide)) h_73 rfl rfl rfl rfl (Nat.le_of_ble_eq_true rfl) (by decide) (by decide) ⟨by decide, by decide⟩ dL_areSound_89 (fun v76 w76 fl76 hp76 => ?_)
        obtain ⟨-, q1, q2, hp76⟩ := hp76
        subst q1
        subst q2
        obtain ⟨hCt76, hf76⟩ := hp76
        show KW p l e R s m args below meth c 8 G Q w76 fl 0 0 92 [(4, vI (k : Int)), (3, vI r2), (2, vI (g 2)), (0, .ref (kad G 0)), (1, vI v)] [vI (sightV g (k : Int).toNat 6)]
        refine k_topv (vI (aziM g k)) rfl ?_
        refine k_sipush hC dL_areSound_92 (by decide) ?_
        refine k_icmp_gt hC 124 dL_areSound_95 rfl (by omega) (by omega) (fun c_95 => absurd c_95 (by omega)) (fun c_95 => ?_)
        refine k_aload_n hC dL_areSound_98 rfl 3 rfl ?_
        refine k_iload hC dL_areSound_99 0 rfl ?_
        refine k_iconst hC dL_areSound_101 ?_
        have h_77 : w76 0 = .inr (11, [.ref (kad G 1), .ref (kad G 32), .ref (kad G 3), .ref (kad G 37), vI sv, .ref (kad G 44), .ref (kad G 10), .ref (kad G 116), .ref (kad G 129), .ref (kad G 132)]) := (hf76 0 (by omega)).trans h_73
        have hB_78 : kLog G w76 3 g := hB_74.fr (fun j q1 q2 => (hf76 j (by omega)))
        have hB_79 : kPlan G w76 32 g nl := hB_75.fr (fun j q1 q2 => (hf76 j (by omega)))
        refine k_callV hC (n_X11_sight l hls G hN w76 fl g nl sv (k : Int) 5 (by omega) (by omega) hI h_77 hB_78 hB_79 hCt76 (by omega)) yy_X11_sight wm_L_133 (kl hN (by decide)) h_77 rfl rfl rfl rfl (Nat.le_of_ble_eq_true rfl) (by decide) (by decide) ⟨by decide, by decide⟩ dL_areSound_102 (fun v80 w80 fl80 hp80 => ?_)
        obtain ⟨-, q1, q2, hp80⟩ := hp80
        subst q1
        subst q2
        obtain ⟨hCt80, hf80⟩ := hp80
        show KW p l e R s m args below meth c 8 G Q w80 fl 0 0 105 [(4, vI (k : Int)), (3, vI r2), (2, vI (g 2)), (0, .ref (kad G 0)), (1, vI v)] [vI (sightV g (k : Int).toNat 5)]
        refine k_topv (vI (expM g k)) rfl ?_
        refine k_sipush hC dL_areSound_105 (by decide) ?_
        refine k_icmp_lt hC 124 dL_areSound_108 rfl (by omega) (by omega) (fun c_108 => absurd c_108 (by omega)) (fun c_108 => ?_)
        refine k_aload_n hC dL_areSound_111 rfl 3 rfl ?_
        refine k_iload hC dL_areSound_112 0 rfl ?_
        refine k_iconst hC dL_areSound_114 ?_
        have h_81 : w80 0 = .inr (11, [.ref (kad G 1), .ref (kad G 32), .ref (kad G 3), .ref (kad G 37), vI sv, .ref (kad G 44), .ref (kad G 10), .ref (kad G 116), .ref (kad G 129), .ref (kad G 132)]) := (hf80 0 (by omega)).trans h_77
        have hB_82 : kLog G w80 3 g := hB_78.fr (fun j q1 q2 => (hf80 j (by omega)))
        have hB_83 : kPlan G w80 32 g nl := hB_79.fr (fun j q1 q2 => (hf80 j (by omega)))
        refine k_callV hC (n_X11_sight l hls G hN w80 fl g nl sv (k : Int) 5 (by omega) (by omega) hI h_81 hB_82 hB_83 hCt80 (by omega)) yy_X11_sight wm_L_133 (kl hN (by decide)) h_81 rfl rfl rfl rfl (Nat.le_of_ble_eq_true rfl) (by decide) (by decide) ⟨by decide, by decide⟩ dL_areSound_115 (fun v84 w84 fl84 hp84 => ?_)
        obtain ⟨-, q1, q2, hp84⟩ := hp84
        subst q1
        subst q2
        obtain ⟨hCt84, hf84⟩ := hp84
        show KW p l e R s m args below meth c 8 G Q w84 fl 0 0 118 [(4, vI (k : Int)), (3, vI r2), (2, vI (g 2)), (0, .ref (kad G 0)), (1, vI v)] [vI (sightV g (k : Int).toNat 5)]
        refine k_topv (vI (expM g k)) rfl ?_
        refine k_sipush hC dL_areSound_118 (by decide) ?_
        refine k_icmp_le hC 126 dL_areSound_121 rfl (by omega) (by omega) (fun c_121 => ?_) (fun c_121 => absurd c_121 (by omega))
        refine k_aload_n hC dL_areSound_126 rfl 3 rfl ?_
        refine k_iload hC dL_areSound_127 0 rfl ?_
        refine k_iload hC dL_areSound_129 0 rfl ?_
        refine k_iload_n hC dL_areSound_131 rfl 1 rfl ?_
        refine k_iconst hC dL_areSound_132 ?_
        have h_85 : w84 0 = .inr (11, [.ref (kad G 1), .ref (kad G 32), .ref (kad G 3), .ref (kad G 37), vI sv, .ref (kad G 44), .ref (kad G 10), .ref (kad G 116), .ref (kad G 129), .ref (kad G 132)]) := (hf84 0 (by omega)).trans h_81
        have hB_86 : kLog G w84 3 g := hB_82.fr (fun j q1 q2 => (hf84 j (by omega)))
        have hB_87 : kPlan G w84 32 g nl := hB_83.fr (fun j q1 q2 => (hf84 j (by omega)))
        refine k_callV hC (n_X11_crossing l hls G hN w84 fl g nl sv (k : Int) (k : Int) r2 0 (by omega) (by omega) (by omega) (by decide) hI h_85 hB_86 hB_87 hCt84 (by omega)) yy_X11_crossing wm_L_173 (kl hN (by decide)) h_85 rfl rfl rfl rfl (Nat.le_of_ble_eq_true rfl) (by decide) (by decide) ⟨by decide, by decide⟩ dL_areSound_133 (fun v88 w88 fl88 hp88 => ?_)
        obtain ⟨-, q1, q2, hp88⟩ := hp88
        subst q1
        subst q2
        obtain ⟨hCt88, hf88⟩ := hp88
        show KW p l e R s m args below meth c 8 G Q w88 fl 0 0 136 [(4, vI (k : Int)), (3, vI r2), (2, vI (g 2)), (0, .ref (kad G 0)), (1, vI v)] [vI (crsV g (k : Int).toNat (k : Int).toNat r2 0)]
        refine k_topv (vI (crsV g k k r2 0)) rfl ?_
        refine k_topv (vI (-1000000000)) (congrArg vI (crs_self g k _ _)) ?_
        refine k_ldc hC (x := (-1000000000)) (v := (-1000000000)) dL_areSound_136 (by decide) wk_L_177 ?_
        refine k_icmp_eq hC 143 dL_areSound_138 rfl (by omega) (by omega) (fun c_138 => ?_) (fun c_138 => absurd c_138 (by omega))
        refine k_iinc hC (y := (k : Int) + 1) [(4, vI ((k : Int) + 1)), (3, vI r2), (2, vI (g 2)), (0, .ref (kad G 0)), (1, vI v)] (j := 0) dL_areSound_143 rfl (by omega) (by decide) rfl ?_
        refine k_goto hC 17 dL_areSound_146 rfl ?_
        refine k_lvs (ls := [0, 1, 2, 3, 4]) [(4, vI ((k + 1 : Nat) : Int)), (3, vI r2), (2, vI (g 2)), (0, .ref (kad G 0)), (1, vI v)] (by simp only [lv_pick]; rfl) ?_
        have h_89 : w88 0 = .inr (11, [.ref (kad G 1), .ref (kad G 32), .ref (kad G 3), .ref (kad G 37), vI sv, .ref (kad G 44), .ref (kad G 10), .ref (kad G 116), .ref (kad G 129), .ref (kad G 132)]) := (hf88 0 (by omega)).trans h_85
        have hB_90 : kLog G w88 3 g := hB_86.fr (fun j q1 q2 => (hf88 j (by omega)))
        have hB_91 : kPlan G w88 32 g nl := hB_87.fr (fun j q1 q2 => (hf88 j (by omega)))
        exact ih1 (k + 1) w88 (by omega) (by omega) h_89 hB_90 hB_91 hCt88 (fun j hj => (hf88 j (by omega)).trans ((hf84 j (by omega)).trans ((hf80 j (by omega)).trans ((hf76 j (by omega)).trans ((hf72 j (by omega)).trans ((hf68 j (by omega)).trans ((hf64 j (by omega)).trans ((hf60 j (by omega)).trans ((hf56 j (by omega)).trans ((hf52 j (by omega)).trans ((hf48 j (by omega)).trans (hfr1 j (by omega)))))))))))))
  refine k_lvs (ls := [0, 1, 2, 3, 4]) [(4, vI ((0 : Nat) : Int)), (3, vI r2), (2, vI (g 2)), (0, .ref (kad G 0)), (1, vI v)] (by simp only [lv_pick]; rfl) ?_
  have h_92 : w1 0 = .inr (11, [.ref (kad G 1), .ref (kad G 32), .ref (kad G 3), .ref (kad G 37), vI sv, .ref (kad G 44), .ref (kad G 10), .ref (kad G 116), .ref (kad G 129), .ref (kad G 132)]) := (hf1 0 (by omega)).trans h00
  have hB_93 : kLog G w1 3 g := hL.fr (fun j q1 q2 => (hf1 j (by omega)))
  have hB_94 : kPlan G w1 32 g nl := hP.fr (fun j q1 q2 => (hf1 j (by omega)))
  exact loop1 13 0 w1 (by omega) (by omega) h_92 hB_93 hB_94 hCt1 (fun j hj => hf1 j (by omega))

