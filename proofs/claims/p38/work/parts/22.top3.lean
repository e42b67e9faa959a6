abbrev hisO (G : kG) (nx cn : Int) : va_E := .inr (2, [.ref (kad G 45), vI nx, vI cn])
abbrev rngA (G : kG) : va_E := rA G 5 10 (fun j => some (kad G (46 + 7 * j)))
def kHist (G : kG) (w : Nat → va_E) (hs : Nat → Nat → Int) (nx cn : Int) : Prop := (w 44 = hisO G nx cn ∧ w 45 = rngA G) ∧ ∀ i : Nat, i < 10 → kLog G w (46 + 7 * i) (hs i)
theorem kHist.fr {G : kG} {w w1 : Nat → va_E} {hs : Nat → Nat → Int} {nx cn : Int} (h : kHist G w hs nx cn) (hf : ∀ j, 44 ≤ j → j ≤ 115 → w1 j = w j) : kHist G w1 hs nx cn := by
  obtain ⟨⟨h0, h1⟩, h2⟩ := h
  exact ⟨⟨(hf 44 (by omega) (by omega)).trans h0, (hf 45 (by omega) (by omega)).trans h1⟩, fun i hi => (h2 i hi).fr (fun j q1 q2 => hf j (by omega) (by omega))⟩
theorem kLog_copy {G : kG} {w : Nat → va_E} {b : Nat} {g h : Nat → Int} (hl : kLog G w b (copyLM h g)) : kLog G w b g := by
  obtain ⟨h0, h1, h2, h3, h4, h5, h6⟩ := hl
  refine ⟨logO_of h0 rfl rfl rfl rfl rfl rfl, h1.trans (iA_congr (fun j hj => ?_)), h2.trans (iA_congr (fun j hj => ?_)), h3.trans (iA_congr (fun j hj => ?_)), h4.trans (iA_congr (fun j hj => ?_)), h5.trans (iA_congr (fun j hj => ?_)), h6.trans (iA_congr (fun j hj => ?_))⟩ <;> (unfold copyLM; rw [if_pos (by omega)])
def hsP (hs : Nat → Nat → Int) (k : Nat) (g : Nat → Int) : Nat → Nat → Int := fun i => if i = k then g else hs i
def setM (g : Nat → Int) (i : Nat) (a : Int) (j : Nat) (b : Int) : Nat → Int := fun q => if q = i then a else if q = j then b else g q
set_option maxRecDepth 100000 in
set_option maxHeartbeats 4000000 in
theorem c_X2_logAt (l : Launch) (hls : l.stackTraces = false) (G : kG) (hN : 133 ≤ kN G) (w : Nat → va_E) (fl : va_W) (i : Nat) (nx cn : Int) (hi : i < 10) (h44 : w 44 = hisO G nx cn) (h45 : w 45 = rngA G) : KM l G yX2_logAt cX2_logAt 2 (some ((FieldType.object "SightReducer$Log"))) 0 0 0 [.ref (kad G 44), vI (i : Int)] w fl (kPure (.ref (kad G (46 + 7 * i))) w fl) := by
  refine KM_of2 hls (by decide +kernel) rfl (lv0 := [(0, .ref (kad G 44)), (1, vI (i : Int))]) rfl (Nat.le_of_ble_eq_true rfl) (fun p e R s m args below meth c Q hC hr hQ => ?_)
  refine k_iload_n hC dX2_logAt_0 rfl 1 rfl ?_
  refine k_if_lt hC 13 dX2_logAt_1 rfl (by omega) (fun c_1 => absurd c_1 (by omega)) (fun c_1 => ?_)
  refine k_iload_n hC dX2_logAt_4 rfl 1 rfl ?_
  refine k_aload_n hC dX2_logAt_5 rfl 0 rfl ?_
  refine k_get hC fd_X2_11 (kl hN (by decide)) h44 rfl dX2_logAt_6 ?_
  refine k_alen hC (n := 10) (kl hN (by decide)) h45 5 rfl rfl rfl dX2_logAt_9 ?_
  refine k_icmp_lt hC 17 dX2_logAt_10 rfl (by omega) (by omega) (fun c_10 => ?_) (fun c_10 => absurd c_10 (by omega))
  refine k_aload_n hC dX2_logAt_17 rfl 0 rfl ?_
  refine k_get hC fd_X2_11 (kl hN (by decide)) h44 rfl dX2_logAt_18 ?_
  refine k_iload_n hC dX2_logAt_21 rfl 1 rfl ?_
  refine k_aald hC (v := .ref (kad G (46 + 7 * i))) (kl hN (by decide)) h45 rfl (by omega) (by decide) rfl dX2_logAt_22 ?_
  subst hQ
  exact k_aret hC hr (Or.inl ⟨_, rfl⟩) (Or.inr ⟨_, rfl⟩) ⟨by decide, by decide⟩ (⟨rfl, rfl, rfl⟩) dX2_logAt_23

set_option maxRecDepth 100000 in
set_option maxHeartbeats 4000000 in
theorem c_X2_copyLog (l : Launch) (hls : l.stackTraces = false) (G : kG) (hN : 133 ≤ kN G) (w : Nat → va_E) (fl : va_W) (b d : Nat) (g h : Nat → Int) (hb : b + 6 < 133) (hd : d + 6 < 133) (hbd : b + 6 < d ∨ d + 6 < b) (hL : kLog G w b g) (hL2 : kLog G w d h) : KM l G yX2_copyLog cX2_copyLog 2 (none) 4 0 0 [.ref (kad G b), .ref (kad G d)] w fl (kMuv fl (fun w1 => kLog G w1 d (copyLM h g) ∧ ∀ j, (j < d ∨ d + 6 < j) → w1 j = w j)) := by
  refine KM_of2 hls (by decide +kernel) rfl (lv0 := [(0, .ref (kad G b)), (1, .ref (kad G d))]) rfl (Nat.le_of_ble_eq_true rfl) (fun p e R s m args below meth c Q hC hr hQ => ?_)
  refine k_aload_n hC dX2_copyLog_0 rfl 0 rfl ?_
  refine k_ifnull hC dX2_copyLog_1 ?_
  refine k_aload_n hC dX2_copyLog_4 rfl 1 rfl ?_
  refine k_ifnull hC dX2_copyLog_5 ?_
  refine k_aload_n hC dX2_copyLog_8 rfl 1 rfl ?_
  refine k_aload_n hC dX2_copyLog_9 rfl 0 rfl ?_
  refine k_muvV hC (c_X4_copyFrom l hls G hN w fl d b h g (by omega) (by omega) (by omega) hL2 hL) yy_X4_copyFrom wm_X2_39 (kl hN (by omega)) hL2.1 rfl rfl rfl rfl (Nat.le_of_ble_eq_true rfl) (by decide) (by decide) ⟨by decide, by decide⟩ dX2_copyLog_10 (fun w1 hp1 => ?_)
  obtain ⟨hl1, hf1⟩ := hp1
  subst hQ
  exact k_vret hC hr ⟨by decide, by decide⟩ (⟨rfl, rfl, hl1, fun j hj => hf1 j (by omega)⟩) dX2_copyLog_13

set_option maxRecDepth 100000 in
set_option maxHeartbeats 4000000 in
theorem c_X2_clear (l : Launch) (hls : l.stackTraces = false) (G : kG) (hN : 133 ≤ kN G) (w : Nat → va_E) (fl : va_W) (hs : Nat → Nat → Int) (nx cn : Int) (hHi : kHist G w hs nx cn) : KM l G yX2_clear cX2_clear 1 (none) 0 0 0 [.ref (kad G 44)] w fl (kMuv fl (fun w1 => kHist G w1 hs 0 0 ∧ ∀ j, j ≠ 44 → w1 j = w j)) := by
  refine KM_of2 hls (by decide +kernel) rfl (lv0 := [(0, .ref (kad G 44))]) rfl (Nat.le_of_ble_eq_true rfl) (fun p e R s m args below meth c Q hC hr hQ => ?_)
  obtain ⟨⟨h44, h45⟩, hrg⟩ := hHi
  refine k_aload_n hC dX2_clear_0 rfl 0 rfl ?_
  refine k_iconst hC dX2_clear_1 ?_
  refine k_put hC fd_X2_18 (kl hN (by decide)) h44 [.ref (kad G 45), vI 0, vI cn] rfl (Nat.le_of_ble_eq_true rfl) rfl rfl dX2_clear_2 (fun w1 hw1 hf1 => ?_)
  refine k_aload_n hC dX2_clear_5 rfl 0 rfl ?_
  refine k_iconst hC dX2_clear_6 ?_
  refine k_put hC fd_X2_22 (kl hN (by decide)) hw1 [.ref (kad G 45), vI 0, vI 0] rfl (Nat.le_of_ble_eq_true rfl) rfl rfl dX2_clear_7 (fun w2 hw2 hf2 => ?_)
  have h_3 : w2 45 = rA G 5 10 (fun j => some (kad G (46 + 7 * j))) := (hf2 45 (by decide)).trans ((hf1 45 (by decide)).trans h45)
  subst hQ
  exact k_vret hC hr ⟨by decide, by decide⟩ (⟨rfl, rfl, ⟨⟨hw2, h_3⟩, fun i hi => (hrg i hi).fr (fun j q1 q2 => (hf2 j (by omega)).trans (hf1 j (by omega)))⟩, fun j hj => (hf2 j (by omega)).trans (hf1 j (by omega))⟩) dX2_clear_10

set_option maxRecDepth 100000 in
set_option maxHeartbeats 4000000 in
theorem c_X2_remember (l : Launch) (hls : l.stackTraces = false) (G : kG) (hN : 133 ≤ kN G) (w : Nat → va_E) (fl : va_W) (hs : Nat → Nat → Int) (nx : Nat) (cn : Int) (g : Nat → Int) (hnx : nx < 10) (hcn : 0 ≤ cn ∧ cn ≤ 10) (hHi : kHist G w hs (nx : Int) cn) (hL : kLog G w 3 g) : KM l G yX2_remember cX2_remember 2 (none) 5 0 0 [.ref (kad G 44), .ref (kad G 3)] w fl (kMuv fl (fun w1 => kHist G w1 (hsP hs nx g) (((nx + 1) % 10 : Nat) : Int) (min (cn + 1) 10) ∧ ∀ j, (j < 44 ∨ 115 < j) → w1 j = w j)) := by
  refine KM_of2 hls (by decide +kernel) rfl (lv0 := [(0, .ref (kad G 44)), (1, .ref (kad G 3))]) rfl (Nat.le_of_ble_eq_true rfl) (fun p e R s m args below meth c Q hC hr hQ => ?_)
  obtain ⟨⟨h44, h45⟩, hrg⟩ := hHi
  refine k_aload_n hC dX2_remember_0 rfl 1 rfl ?_
  refine k_aload_n hC dX2_remember_1 rfl 0 rfl ?_
  refine k_aload_n hC dX2_remember_2 rfl 0 rfl ?_
  refine k_get hC fd_X2_18 (kl hN (by decide)) h44 rfl dX2_remember_3 ?_
  refine k_pureV hC (c_X2_logAt l hls G hN w fl nx (nx : Int) cn (by omega) h44 h45) yy_X2_logAt wm_X2_25 (kl hN (by decide)) h44 rfl rfl rfl rfl (Nat.le_of_ble_eq_true rfl) (by decide) (by decide) ⟨by decide, by decide⟩ dX2_remember_6 ?_
  refine k_muvS hC (c_X2_copyLog l hls G hN w fl 3 (46 + 7 * nx) g (hs nx) (by omega) (by omega) (by omega) hL (hrg nx hnx)) yy_X2_copyLog wm_X2_29 rfl rfl (Nat.le_of_ble_eq_true rfl) (by decide) (by decide) ⟨by decide, by decide⟩ dX2_remember_9 (fun w1 hp1 => ?_)
  obtain ⟨hl1, hf1⟩ := hp1
  refine k_aload_n hC dX2_remember_12 rfl 0 rfl ?_
  refine k_aload_n hC dX2_remember_13 rfl 0 rfl ?_
  have h_2 : w1 44 = .inr (2, [.ref (kad G 45), vI (nx : Int), vI cn]) := (hf1 44 (by omega)).trans h44
  refine k_get hC fd_X2_18 (kl hN (by decide)) h_2 rfl dX2_remember_14 ?_
  refine k_iconst hC dX2_remember_17 ?_
  refine k_iadd hC dX2_remember_18 ?_
  refine k_bipush hC dX2_remember_19 (by decide) ?_
  refine k_irem hC dX2_remember_21 (by omega) (by omega) ?_
  refine k_topI (fun q_3 eq_3 => ?_)
  have eq_3 : q_3 = (((nx + 1) % 10 : Nat) : Int) := by rw [eq_3]; rw [Int.tmod_eq_emod_of_nonneg (by omega)]; omega
  refine k_put hC fd_X2_18 (kl hN (by decide)) h_2 [.ref (kad G 45), vI q_3, vI cn] rfl (Nat.le_of_ble_eq_true rfl) rfl rfl dX2_remember_22 (fun w4 hw4 hf4 => ?_)
  refine k_aload_n hC dX2_remember_25 rfl 0 rfl ?_
  refine k_aload_n hC dX2_remember_26 rfl 0 rfl ?_
  refine k_get hC fd_X2_22 (kl hN (by decide)) hw4 rfl dX2_remember_27 ?_
  refine k_iconst hC dX2_remember_30 ?_
  refine k_iadd hC dX2_remember_31 ?_
  refine k_bipush hC dX2_remember_32 (by decide) ?_
  refine k_mmin hC wm_X2_33 wmath_mmin (by omega) (by omega) (by decide) (Nat.le_of_ble_eq_true rfl) ⟨by decide, by decide⟩ dX2_remember_34 ?_
  refine k_put hC fd_X2_22 (kl hN (by decide)) hw4 [.ref (kad G 45), vI q_3, vI (min (cn + 1) 10)] rfl (Nat.le_of_ble_eq_true rfl) rfl rfl dX2_remember_37 (fun w5 hw5 hf5 => ?_)
  have hB_6 : kLog G w5 (46 + 7 * nx) (copyLM (hs nx) g) := hl1.fr (fun j q1 q2 => (hf5 j (by omega)).trans (hf4 j (by omega)))
  have h_7 : w5 45 = rA G 5 10 (fun j => some (kad G (46 + 7 * j))) := (hf5 45 (by decide)).trans ((hf4 45 (by decide)).trans ((hf1 45 (by omega)).trans h45))
  subst hQ
  exact k_vret hC hr ⟨by decide, by decide⟩ (⟨rfl, rfl, ⟨⟨(by rw [hw5, eq_3]), h_7⟩, fun i hi => by
      by_cases hq : i = nx
      · subst hq; unfold hsP; rw [if_pos rfl]; exact kLog_copy hB_6
      · unfold hsP; rw [if_neg hq]; exact (hrg i hi).fr (fun j q1 q2 => (hf5 j (by omega)).trans ((hf4 j (by omega)).trans (hf1 j (by omega))))⟩, fun j hj => (hf5 j (by omega)).trans ((hf4 j (by omega)).trans (hf1 j (by omega)))⟩) dX2_remember_40

set_option maxRecDepth 100000 in
set_option maxHeartbeats 4000000 in
theorem c_X2_bringBack (l : Launch) (hls : l.stackTraces = false) (G : kG) (hN : 133 ≤ kN G) (w : Nat → va_E) (fl : va_W) (hs : Nat → Nat → Int) (nx : Nat) (cn : Int) (g : Nat → Int) (hnx : nx < 10) (hcn : 1 ≤ cn ∧ cn ≤ 10) (hHi : kHist G w hs (nx : Int) cn) (hL : kLog G w 3 g) : KM l G yX2_bringBack cX2_bringBack 2 (none) 5 0 0 [.ref (kad G 44), .ref (kad G 3)] w fl (kMuv fl (fun w1 => kLog G w1 3 (copyLM g (hs ((nx + 9) % 10))) ∧ kHist G w1 hs (((nx + 9) % 10 : Nat) : Int) (cn - 1) ∧ ∀ j, ((j < 3 ∨ 9 < j) ∧ j ≠ 44) → w1 j = w j)) := by
  refine KM_of2 hls (by decide +kernel) rfl (lv0 := [(0, .ref (kad G 44)), (1, .ref (kad G 3))]) rfl (Nat.le_of_ble_eq_true rfl) (fun p e R s m args below meth c Q hC hr hQ => ?_)
  obtain ⟨⟨h44, h45⟩, hrg⟩ := hHi
  refine k_aload_n hC dX2_bringBack_0 rfl 0 rfl ?_
  refine k_aload_n hC dX2_bringBack_1 rfl 0 rfl ?_
  refine k_get hC fd_X2_18 (kl hN (by decide)) h44 rfl dX2_bringBack_2 ?_
  refine k_bipush hC dX2_bringBack_5 (by decide) ?_
  refine k_iadd hC dX2_bringBack_7 ?_
  refine k_iconst hC dX2_bringBack_8 ?_
  refine k_isub hC dX2_bringBack_9 ?_
  refine k_bipush hC dX2_bringBack_10 (by decide) ?_
  refine k_irem hC dX2_bringBack_12 (by omega) (by omega) ?_
  refine k_topI (fun q_1 eq_1 => ?_)
  have eq_1 : q_1 = (((nx + 9) % 10 : Nat) : Int) := by rw [eq_1]; rw [Int.tmod_eq_emod_of_nonneg (by omega)]; omega
  subst eq_1
  refine k_put hC fd_X2_18 (kl hN (by decide)) h44 [.ref (kad G 45), vI (((nx + 9) % 10 : Nat) : Int), vI cn] rfl (Nat.le_of_ble_eq_true rfl) rfl rfl dX2_bringBack_13 (fun w2 hw2 hf2 => ?_)
  refine k_aload_n hC dX2_bringBack_16 rfl 0 rfl ?_
  refine k_dup hC dX2_bringBack_17 rfl ?_
  refine k_get hC fd_X2_22 (kl hN (by decide)) hw2 rfl dX2_bringBack_18 ?_
  refine k_iconst hC dX2_bringBack_21 ?_
  refine k_isub hC dX2_bringBack_22 ?_
  refine k_put hC fd_X2_22 (kl hN (by decide)) hw2 [.ref (kad G 45), vI (((nx + 9) % 10 : Nat) : Int), vI (cn - 1)] rfl (Nat.le_of_ble_eq_true rfl) rfl rfl dX2_bringBack_23 (fun w3 hw3 hf3 => ?_)
  refine k_aload_n hC dX2_bringBack_26 rfl 0 rfl ?_
  refine k_aload_n hC dX2_bringBack_27 rfl 0 rfl ?_
  refine k_get hC fd_X2_18 (kl hN (by decide)) hw3 rfl dX2_bringBack_28 ?_
  have h_4 : w3 45 = rA G 5 10 (fun j => some (kad G (46 + 7 * j))) := (hf3 45 (by decide)).trans ((hf2 45 (by decide)).trans h45)
  refine k_pureV hC (c_X2_logAt l hls G hN w3 fl ((nx + 9) % 10) (((nx + 9) % 10 : Nat) : Int) (cn - 1) (by omega) hw3 h_4) yy_X2_logAt wm_X2_25 (kl hN (by decide)) hw3 rfl rfl rfl rfl (Nat.le_of_ble_eq_true rfl) (by decide) (by decide) ⟨by decide, by decide⟩ dX2_bringBack_31 ?_
  refine k_aload_n hC dX2_bringBack_34 rfl 1 rfl ?_
  have hB_5 : kLog G w3 (46 + 7 * ((nx + 9) % 10)) (hs ((nx + 9) % 10)) := (hrg ((nx + 9) % 10) (by omega)).fr (fun j q1 q2 => (hf3 j (by omega)).trans (hf2 j (by omega)))
  have hB_6 : kLog G w3 3 g := hL.fr (fun j q1 q2 => (hf3 j (by omega)).trans (hf2 j (by omega)))
  refine k_muvS hC (c_X2_copyLog l hls G hN w3 fl (46 + 7 * ((nx + 9) % 10)) 3 (hs ((nx + 9) % 10)) g (by omega) (by omega) (by omega) hB_5 hB_6) yy_X2_copyLog wm_X2_29 rfl rfl (Nat.le_of_ble_eq_true rfl) (by decide) (by decide) ⟨by decide, by decide⟩ dX2_bringBack_35 (fun w7 hp7 => ?_)
  obtain ⟨hl7, hf7⟩ := hp7
  have h_8 : w7 44 = .inr (2, [.ref (kad G 45), vI (((nx + 9) % 10 : Nat) : Int), vI (cn - 1)]) := (hf7 44 (by omega)).trans hw3
  have h_9 : w7 45 = rA G 5 10 (fun j => some (kad G (46 + 7 * j))) := (hf7 45 (by omega)).trans h_4
  subst hQ
  exact k_vret hC hr ⟨by decide, by decide⟩ (⟨rfl, rfl, hl7, ⟨⟨h_8, h_9⟩, fun i hi => (hrg i hi).fr (fun j q1 q2 => (hf7 j (by omega)).trans ((hf3 j (by omega)).trans (hf2 j (by omega))))⟩, fun j hj => (hf7 j (by omega)).trans ((hf3 j (by omega)).trans (hf2 j (by omega)))⟩) dX2_bringBack_38

set_option maxRecDepth 100000 in
set_option maxHeartbeats 4000000 in
theorem c_X11_observe (l : Launch) (hls : l.stackTraces = false) (G : kG) (hN : 133 ≤ kN G) (w : Nat → va_E) (fl : va_W) (g nl : Nat → Int) (sv : Int) (hs : Nat → Nat → Int) (nx : Nat) (cn : Int) (b T a : Int) (hb : -2147483648 ≤ b ∧ b ≤ 2147483647) (hT : -2147483648 ≤ T ∧ T ≤ 2147483647) (ha : -2147483648 ≤ a ∧ a ≤ 2147483647) (hnx : nx < 10) (hcn : 0 ≤ cn ∧ cn ≤ 10) (hHi : kHist G w hs (nx : Int) cn) (hI : Inv g) (h00 : w 0 = srO G sv) (hL : kLog G w 3 g) (hP : kPlan G w 32 g nl) (hCt : kCht G w) : KX l G yX11_observe cX11_observe 4 (some (FieldType.int)) 9 8 48 [.ref (kad G 0), vI b, vI T, vI a] w fl (kOk (((0 ≤ b ∧ b < g 0) ∧ (0 ≤ T ∧ T ≤ 5000)) ∧ (300 ≤ a ∧ a ≤ 5100)) (vI (if 12 ≤ g 2 then -2 else g 2)) fl (fun w1 => (12 ≤ g 2 ∧ w1 = w) ∨ (¬ 12 ≤ g 2 ∧ kLog G w1 3 (addSightM g b T a) ∧ kHist G w1 (hsP hs nx g) (((nx + 1) % 10 : Nat) : Int) (min (cn + 1) 10) ∧ ∀ j, ((j < 3 ∨ 9 < j) ∧ (j < 44 ∨ 115 < j)) → w1 j = w j))) (kTh (¬ (0 ≤ b ∧ b < g 0)) ((0 ≤ b ∧ b < g 0) ∧ ¬ ((0 ≤ T ∧ T ≤ 5000) ∧ (300 ≤ a ∧ a ≤ 5100))) fl (fun w1 => w1 = w)) := by
  refine KX_of2 hls (by decide +kernel) rfl (lv0 := [(0, .ref (kad G 0)), (1, vI b), (2, vI T), (3, vI a)]) rfl (Nat.le_of_ble_eq_true rfl) (fun p e R s m args below meth c Q hC hr htb hQ => ?_)
  subst hQ
  obtain ⟨⟨h10, h11⟩, hLn, hSh, hH, h14, h15⟩ := hCt
  have h0 := hI.c
  refine k_aload_n hC dX11_observe_0 rfl 0 rfl ?_
  refine k_iload_n hC dX11_observe_1 rfl 1 rfl ?_
  refine k_callVX hC (c_X11_needBody l hls G hN w fl g nl sv b (by omega) hI h00 hP) yy_X11_needBody wm_X11_191 (kl hN (by decide)) h00 rfl rfl rfl rfl (Nat.le_of_ble_eq_true rfl) (by decide) (by decide) ⟨by decide, by decide⟩ dX11_observe_2 htb ⟨by decide, by decide⟩ (fun E1 w9 fl9 hx1 => by obtain ⟨q1, q2, q3, q4⟩ := hx1; subst q1; subst q3; subst q4; exact ⟨Or.inl ⟨rfl, by omega⟩, rfl, rfl⟩) (fun v9 w9 fl9 hp1 => ?_)
  obtain ⟨hc2_1, q1, q2, q3⟩ := hp1; subst q1; subst q2; subst q3
  refine k_iload_n hC dX11_observe_5 rfl 2 rfl ?_
  refine k_callSX hC (c_X11_needTime l hls G hN w fl T (by omega)) yy_X11_needTime wm_X11_226 rfl rfl (Nat.le_of_ble_eq_true rfl) (by decide) (by decide) ⟨by decide, by decide⟩ dX11_observe_6 htb ⟨by decide, by decide⟩ (fun E1 w9 fl9 hx2 => by obtain ⟨q1, q2, q3, q4⟩ := hx2; subst q1; subst q3; subst q4; exact ⟨Or.inr ⟨rfl, by omega⟩, rfl, rfl⟩) (fun v9 w9 fl9 hp2 => ?_)
  obtain ⟨hc6_2, q1, q2, q3⟩ := hp2; subst q1; subst q2; subst q3
  refine k_iload_n hC dX11_observe_9 rfl 3 rfl ?_
  refine k_sipush hC dX11_observe_10 (by decide) ?_
  refine k_icmp_lt hC 23 dX11_observe_13 rfl (by omega) (by omega) (fun c_13 => ?_) (fun c_13 => ?_)
  · exact k_thrIW hC htb (List.mem_of_getElem? (i := 19) rfl) (by decide) ⟨by decide, by decide⟩ (Nat.le_of_ble_eq_true rfl) dX11_observe_23 dX11_observe_26 dX11_observe_27 dX11_observe_30 dX11_observe_33 (⟨Or.inr ⟨rfl, by omega⟩, rfl, rfl⟩)
  · refine k_iload_n hC dX11_observe_16 rfl 3 rfl ?_
    refine k_sipush hC dX11_observe_17 (by decide) ?_
    refine k_icmp_le hC 34 dX11_observe_20 rfl (by omega) (by omega) (fun c_20 => ?_) (fun c_20 => ?_)
    · refine k_aload_n hC dX11_observe_34 rfl 0 rfl ?_
      refine k_get hC fd_X11_29 (kl hN (by decide)) h00 rfl dX11_observe_35 ?_
      refine k_get hC fd_X11_112 (kl hN (by decide)) hL.1 rfl dX11_observe_38 ?_
      refine k_bipush hC dX11_observe_41 (by decide) ?_
      refine k_icmp_lt hC 49 dX11_observe_43 rfl (by omega) (by omega) (fun c_43 => ?_) (fun c_43 => ?_)
      · refine k_aload_n hC dX11_observe_49 rfl 0 rfl ?_
        refine k_get hC fd_X11_39 (kl hN (by decide)) h00 rfl dX11_observe_50 ?_
        refine k_aload_n hC dX11_observe_53 rfl 0 rfl ?_
        refine k_get hC fd_X11_29 (kl hN (by decide)) h00 rfl dX11_observe_54 ?_
        have h44_3 : w 44 = hisO G (nx : Int) cn := hHi.1.1
        refine k_muvV hC (c_X2_remember l hls G hN w fl hs nx cn g hnx hcn hHi hL) yy_X2_remember wm_X11_378 (kl hN (by decide)) h44_3 rfl rfl rfl rfl (Nat.le_of_ble_eq_true rfl) (by decide) (by decide) ⟨by decide, by decide⟩ dX11_observe_57 (fun w3 hp3 => ?_)
        obtain ⟨hHi3, hf3⟩ := hp3
        refine k_aload_n hC dX11_observe_60 rfl 0 rfl ?_
        have h_4 : w3 0 = .inr (11, [.ref (kad G 1), .ref (kad G 32), .ref (kad G 3), .ref (kad G 37), vI sv, .ref (kad G 44), .ref (kad G 10), .ref (kad G 116), .ref (kad G 129), .ref (kad G 132)]) := (hf3 0 (by omega)).trans h00
        refine k_get hC fd_X11_29 (kl hN (by decide)) h_4 rfl dX11_observe_61 ?_
        refine k_iload_n hC dX11_observe_64 rfl 1 rfl ?_
        refine k_iload_n hC dX11_observe_65 rfl 2 rfl ?_
        refine k_iload_n hC dX11_observe_66 rfl 3 rfl ?_
        have hB_5 : kLog G w3 3 g := hL.fr (fun j q1 q2 => (hf3 j (by omega)))
        have h_7 : w3 3 = .inr (4, [vI (g 5), vI (g 6), vI (g 7), vI (g 8), vI (g 1), .ref (kad G 4), .ref (kad G 5), .ref (kad G 6), vI (g 2), .ref (kad G 7), .ref (kad G 8), .ref (kad G 9)]) := (hf3 3 (by omega)).trans hL.1
        refine k_muvV hC (c_X4_addSight l hls G hN w3 fl 3 g b T a (by omega) (by omega) hB_5) yy_X4_addSight wm_X11_381 (kl hN (by decide)) h_7 rfl rfl rfl rfl (Nat.le_of_ble_eq_true rfl) (by decide) (by decide) ⟨by decide, by decide⟩ dX11_observe_67 (fun w6 hp6 => ?_)
        obtain ⟨hl6, hf6⟩ := hp6
        refine k_aload_n hC dX11_observe_70 rfl 0 rfl ?_
        have h_8 : w6 0 = .inr (11, [.ref (kad G 1), .ref (kad G 32), .ref (kad G 3), .ref (kad G 37), vI sv, .ref (kad G 44), .ref (kad G 10), .ref (kad G 116), .ref (kad G 129), .ref (kad G 132)]) := (hf6 0 (by omega)).trans h_4
        refine k_get hC fd_X11_29 (kl hN (by decide)) h_8 rfl dX11_observe_71 ?_
        refine k_get hC fd_X11_112 (kl hN (by decide)) hl6.1 rfl dX11_observe_74 ?_
        refine k_iconst hC dX11_observe_77 ?_
        refine k_isub hC dX11_observe_78 ?_
        have hB_9 : kHist G w6 (hsP hs nx g) (((nx + 1) % 10 : Nat) : Int) (min (cn + 1) 10) := hHi3.fr (fun j q1 q2 => (hf6 j (by omega)))
        exact k_iretX hC hr ⟨by decide, by decide⟩ (⟨(by omega), congrArg (fun z => some (vI z)) (show ((if 12 ≤ g 2 then -2 else g 2 : _) = ((addSightM g b T a) 2) - 1) from (by rw [if_neg (by omega)]; show g 2 = g 2 + 1 - 1; omega)), rfl, Or.inr ⟨by omega, hl6, hB_9, fun j hj => (hf6 j (by omega)).trans (hf3 j (by omega))⟩⟩) dX11_observe_79
      · refine k_bipush hC dX11_observe_46 (by decide) ?_
        exact k_iretX hC hr ⟨by decide, by decide⟩ (⟨(by omega), congrArg (fun z => some (vI z)) (show ((if 12 ≤ g 2 then -2 else g 2 : _) = -2) from (by exact if_pos (by omega))), rfl, Or.inl ⟨by omega, rfl⟩⟩) dX11_observe_48
    · exact k_thrIW hC htb (List.mem_of_getElem? (i := 19) rfl) (by decide) ⟨by decide, by decide⟩ (Nat.le_of_ble_eq_true rfl) dX11_observe_23 dX11_observe_26 dX11_observe_27 dX11_observe_30 dX11_observe_33 (⟨Or.inr ⟨rfl, by omega⟩, rfl, rfl⟩)

set_option maxRecDepth 100000 in
set_option maxHeartbeats 4000000 in
theorem c_X11_drop (l : Launch) (hls : l.stackTraces = false) (G : kG) (hN : 133 ≤ kN G) (w : Nat → va_E) (fl : va_W) (g nl : Nat → Int) (sv : Int) (hs : Nat → Nat → Int) (nx : Nat) (cn : Int) (i : Int) (hi : -2147483648 ≤ i ∧ i ≤ 2147483647) (hnx : nx < 10) (hcn : 0 ≤ cn ∧ cn ≤ 10) (hHi : kHist G w hs (nx : Int) cn) (hI : Inv g) (h00 : w 0 = srO G sv) (hL : kLog G w 3 g) (hP : kPlan G w 32 g nl) (hCt : kCht G w) : KX l G yX11_drop cX11_drop 2 (some (FieldType.int)) 9 8 48 [.ref (kad G 0), vI i] w fl (kOk ((0 ≤ i ∧ i < g 2)) (vI (g 2 - 1)) fl (fun w1 => kLog G w1 3 (dropM g i.toNat) ∧ kHist G w1 (hsP hs nx g) (((nx + 1) % 10 : Nat) : Int) (min (cn + 1) 10) ∧ ∀ j, ((j < 3 ∨ 9 < j) ∧ (j < 44 ∨ 115 < j)) → w1 j = w j)) (kTh (¬ (0 ≤ i ∧ i < g 2)) (False) fl (fun w1 => w1 = w)) := by
  refine KX_of2 hls (by decide +kernel) rfl (lv0 := [(0, .ref (kad G 0)), (1, vI i)]) rfl (Nat.le_of_ble_eq_true rfl) (fun p e R s m args below meth c Q hC hr htb hQ => ?_)
  subst hQ
  obtain ⟨⟨h10, h11⟩, hLn, hSh, hH, h14, h15⟩ := hCt
  have h0 := hI.c
  refine k_aload_n hC dX11_drop_0 rfl 0 rfl ?_
  refine k_iload_n hC dX11_drop_1 rfl 1 rfl ?_
  refine k_callVX hC (c_X11_needSight l hls G hN w fl g sv i (by omega) hI h00 hL) yy_X11_needSight wm_X11_250 (kl hN (by decide)) h00 rfl rfl rfl rfl (Nat.le_of_ble_eq_true rfl) (by decide) (by decide) ⟨by decide, by decide⟩ dX11_drop_2 htb ⟨by decide, by decide⟩ (fun E1 w9 fl9 hx1 => by obtain ⟨q1, q2, q3, q4⟩ := hx1; subst q1; subst q3; subst q4; exact ⟨Or.inl ⟨rfl, by omega⟩, rfl, rfl⟩) (fun v9 w9 fl9 hp1 => ?_)
  obtain ⟨hc2_1, q1, q2, q3⟩ := hp1; subst q1; subst q2; subst q3
  obtain ⟨k, ek⟩ : ∃ zz : Nat, i = (zz : Int) := ⟨i.toNat, by omega⟩
  subst ek
  refine k_aload_n hC dX11_drop_5 rfl 0 rfl ?_
  refine k_get hC fd_X11_39 (kl hN (by decide)) h00 rfl dX11_drop_6 ?_
  refine k_aload_n hC dX11_drop_9 rfl 0 rfl ?_
  refine k_get hC fd_X11_29 (kl hN (by decide)) h00 rfl dX11_drop_10 ?_
  have h44_2 : w 44 = hisO G (nx : Int) cn := hHi.1.1
  refine k_muvV hC (c_X2_remember l hls G hN w fl hs nx cn g hnx hcn hHi hL) yy_X2_remember wm_X11_378 (kl hN (by decide)) h44_2 rfl rfl rfl rfl (Nat.le_of_ble_eq_true rfl) (by decide) (by decide) ⟨by decide, by decide⟩ dX11_drop_13 (fun w2 hp2 => ?_)
  obtain ⟨hHi2, hf2⟩ := hp2
  refine k_aload_n hC dX11_drop_16 rfl 0 rfl ?_
  have h_3 : w2 0 = .inr (11, [.ref (kad G 1), .ref (kad G 32), .ref (kad G 3), .ref (kad G 37), vI sv, .ref (kad G 44), .ref (kad G 10), .ref (kad G 116), .ref (kad G 129), .ref (kad G 132)]) := (hf2 0 (by omega)).trans h00
  refine k_get hC fd_X11_29 (kl hN (by decide)) h_3 rfl dX11_drop_17 ?_
  refine k_iload_n hC dX11_drop_20 rfl 1 rfl ?_
  have hB_4 : kLog G w2 3 g := hL.fr (fun j q1 q2 => (hf2 j (by omega)))
  refine k_muvV hC (c_X4_removeSight l hls G hN w2 fl 3 g k (by omega) (by omega) (by omega) hB_4) yy_X4_removeSight wm_X11_384 (kl hN (by decide)) hB_4.1 rfl rfl rfl rfl (Nat.le_of_ble_eq_true rfl) (by decide) (by decide) ⟨by decide, by decide⟩ dX11_drop_21 (fun w5 hp5 => ?_)
  obtain ⟨hl5, hf5⟩ := hp5
  refine k_aload_n hC dX11_drop_24 rfl 0 rfl ?_
  have h_6 : w5 0 = .inr (11, [.ref (kad G 1), .ref (kad G 32), .ref (kad G 3), .ref (kad G 37), vI sv, .ref (kad G 44), .ref (kad G 10), .ref (kad G 116), .ref (kad G 129), .ref (kad G 132)]) := (hf5 0 (by omega)).trans h_3
  refine k_get hC fd_X11_29 (kl hN (by decide)) h_6 rfl dX11_drop_25 ?_
  refine k_get hC fd_X11_112 (kl hN (by decide)) hl5.1 rfl dX11_drop_28 ?_
  have hB_7 : kHist G w5 (hsP hs nx g) (((nx + 1) % 10 : Nat) : Int) (min (cn + 1) 10) := hHi2.fr (fun j q1 q2 => (hf5 j (by omega)))
  exact k_iretX hC hr ⟨by decide, by decide⟩ (⟨(by omega), congrArg (fun z => some (vI z)) (show ((g 2 - 1 : _) = (dropM g k) 2) from rfl), rfl, ⟨hl5, hB_7, fun j hj => (hf5 j (by omega)).trans (hf2 j (by omega))⟩⟩) dX11_drop_31

def lastM (g : Nat → Int) : Int := if g 1 = 0 then -1 else g (33 + 3 * (g 1 - 1).toNat)
theorem lastM_b {g : Nat → Int} (hI : Inv g) : -1 ≤ lastM g ∧ lastM g ≤ 5000 := by
  have h := hI.c
  unfold lastM
  split
  · omega
  · have := hI.leg (g 1 - 1).toNat (by omega); omega
set_option maxRecDepth 100000 in
set_option maxHeartbeats 4000000 in
theorem c_X11_steer (l : Launch) (hls : l.stackTraces = false) (G : kG) (hN : 133 ≤ kN G) (w : Nat → va_E) (fl : va_W) (g nl : Nat → Int) (sv : Int) (hs : Nat → Nat → Int) (nx : Nat) (cn : Int) (T d u : Int) (hT : -2147483648 ≤ T ∧ T ≤ 2147483647) (hd : -2147483648 ≤ d ∧ d ≤ 2147483647) (hu : -2147483648 ≤ u ∧ u ≤ 2147483647) (hnx : nx < 10) (hcn : 0 ≤ cn ∧ cn ≤ 10) (hHi : kHist G w hs (nx : Int) cn) (hI : Inv g) (h00 : w 0 = srO G sv) (hL : kLog G w 3 g) (hP : kPlan G w 32 g nl) (hCt : kCht G w) : KX l G yX11_steer cX11_steer 4 (some (FieldType.int)) 9 8 48 [.ref (kad G 0), vI T, vI d, vI u] w fl (kOk (((0 ≤ T ∧ T ≤ 5000) ∧ (0 ≤ d ∧ d ≤ 21599)) ∧ (0 ≤ u ∧ u ≤ 400)) (vI (if 8 ≤ g 1 then -2 else if T ≤ lastM g then -3 else g 1)) fl (fun w1 => ((8 ≤ g 1 ∨ T ≤ lastM g) ∧ w1 = w) ∨ (¬ (8 ≤ g 1 ∨ T ≤ lastM g) ∧ kLog G w1 3 (addLegM g T d u) ∧ kHist G w1 (hsP hs nx g) (((nx + 1) % 10 : Nat) : Int) (min (cn + 1) 10) ∧ ∀ j, ((j < 3 ∨ 9 < j) ∧ (j < 44 ∨ 115 < j)) → w1 j = w j))) (kTh (False) (¬ (((0 ≤ T ∧ T ≤ 5000) ∧ (0 ≤ d ∧ d ≤ 21599)) ∧ (0 ≤ u ∧ u ≤ 400))) fl (fun w1 => w1 = w)) := by
  refine KX_of2 hls (by decide +kernel) rfl (lv0 := [(0, .ref (kad G 0)), (1, vI T), (2, vI d), (3, vI u)]) rfl (Nat.le_of_ble_eq_true rfl) (fun p e R s m args below meth c Q hC hr htb hQ => ?_)
  subst hQ
  obtain ⟨⟨h10, h11⟩, hLn, hSh, hH, h14, h15⟩ := hCt
  have h0 := hI.c
  refine k_iload_n hC dX11_steer_0 rfl 1 rfl ?_
  refine k_callSX hC (c_X11_needTime l hls G hN w fl T (by omega)) yy_X11_needTime wm_X11_226 rfl rfl (Nat.le_of_ble_eq_true rfl) (by decide) (by decide) ⟨by decide, by decide⟩ dX11_steer_1 htb ⟨by decide, by decide⟩ (fun E1 w9 fl9 hx1 => by obtain ⟨q1, q2, q3, q4⟩ := hx1; subst q1; subst q3; subst q4; exact ⟨Or.inr ⟨rfl, by omega⟩, rfl, rfl⟩) (fun v9 w9 fl9 hp1 => ?_)
  obtain ⟨hc1_1, q1, q2, q3⟩ := hp1; subst q1; subst q2; subst q3
  refine k_iload_n hC dX11_steer_4 rfl 2 rfl ?_
  refine k_callSX hC (c_X11_needAngle l hls G hN w fl d (by omega)) yy_X11_needAngle wm_X11_387 rfl rfl (Nat.le_of_ble_eq_true rfl) (by decide) (by decide) ⟨by decide, by decide⟩ dX11_steer_5 htb ⟨by decide, by decide⟩ (fun E1 w9 fl9 hx2 => by obtain ⟨q1, q2, q3, q4⟩ := hx2; subst q1; subst q3; subst q4; exact ⟨Or.inr ⟨rfl, by omega⟩, rfl, rfl⟩) (fun v9 w9 fl9 hp2 => ?_)
  obtain ⟨hc5_2, q1, q2, q3⟩ := hp2; subst q1; subst q2; subst q3
  refine k_iload_n hC dX11_steer_8 rfl 3 rfl ?_
  refine k_if_lt hC 19 dX11_steer_9 rfl (by omega) (fun c_9 => ?_) (fun c_9 => ?_)
  · exact k_thrIW hC htb (List.mem_of_getElem? (i := 21) rfl) (by decide) ⟨by decide, by decide⟩ (Nat.le_of_ble_eq_true rfl) dX11_steer_19 dX11_steer_22 dX11_steer_23 dX11_steer_26 dX11_steer_29 (⟨Or.inr ⟨rfl, by omega⟩, rfl, rfl⟩)
  · refine k_iload_n hC dX11_steer_12 rfl 3 rfl ?_
    refine k_sipush hC dX11_steer_13 (by decide) ?_
    refine k_icmp_le hC 30 dX11_steer_16 rfl (by omega) (by omega) (fun c_16 => ?_) (fun c_16 => ?_)
    · refine k_aload_n hC dX11_steer_30 rfl 0 rfl ?_
      refine k_get hC fd_X11_29 (kl hN (by decide)) h00 rfl dX11_steer_31 ?_
      refine k_get hC fd_X11_165 (kl hN (by decide)) hL.1 rfl dX11_steer_34 ?_
      refine k_bipush hC dX11_steer_37 (by decide) ?_
      refine k_icmp_lt hC 45 dX11_steer_39 rfl (by omega) (by omega) (fun c_39 => ?_) (fun c_39 => ?_)
      · refine k_iload_n hC dX11_steer_45 rfl 1 rfl ?_
        refine k_aload_n hC dX11_steer_46 rfl 0 rfl ?_
        refine k_get hC fd_X11_29 (kl hN (by decide)) h00 rfl dX11_steer_47 ?_
        refine k_pureV hC (c_X4_lastLegTime l hls G hN w fl 3 g (by omega) (by omega) hL) yy_X4_lastLegTime wm_X11_392 (kl hN (by decide)) hL.1 rfl rfl rfl rfl (Nat.le_of_ble_eq_true rfl) (by decide) (by decide) ⟨by decide, by decide⟩ dX11_steer_50 ?_
        refine k_topv (vI (lastM g)) rfl ?_
        have hlt := lastM_b hI
        refine k_icmp_gt hC 59 dX11_steer_53 rfl (by omega) (by omega) (fun c_53 => ?_) (fun c_53 => ?_)
        · refine k_aload_n hC dX11_steer_59 rfl 0 rfl ?_
          refine k_get hC fd_X11_39 (kl hN (by decide)) h00 rfl dX11_steer_60 ?_
          refine k_aload_n hC dX11_steer_63 rfl 0 rfl ?_
          refine k_get hC fd_X11_29 (kl hN (by decide)) h00 rfl dX11_steer_64 ?_
          have h44_3 : w 44 = hisO G (nx : Int) cn := hHi.1.1
          refine k_muvV hC (c_X2_remember l hls G hN w fl hs nx cn g hnx hcn hHi hL) yy_X2_remember wm_X11_378 (kl hN (by decide)) h44_3 rfl rfl rfl rfl (Nat.le_of_ble_eq_true rfl) (by decide) (by decide) ⟨by decide, by decide⟩ dX11_steer_67 (fun w3 hp3 => ?_)
          obtain ⟨hHi3, hf3⟩ := hp3
          refine k_aload_n hC dX11_steer_70 rfl 0 rfl ?_
          have h_4 : w3 0 = .inr (11, [.ref (kad G 1), .ref (kad G 32), .ref (kad G 3), .ref (kad G 37), vI sv, .ref (kad G 44), .ref (kad G 10), .ref (kad G 116), .ref (kad G 129), .ref (kad G 132)]) := (hf3 0 (by omega)).trans h00
          refine k_get hC fd_X11_29 (kl hN (by decide)) h_4 rfl dX11_steer_71 ?_
          refine k_iload_n hC dX11_steer_74 rfl 1 rfl ?_
          refine k_iload_n hC dX11_steer_75 rfl 2 rfl ?_
          refine k_iload_n hC dX11_steer_76 rfl 3 rfl ?_
          have hB_5 : kLog G w3 3 g := hL.fr (fun j q1 q2 => (hf3 j (by omega)))
          have h_7 : w3 3 = .inr (4, [vI (g 5), vI (g 6), vI (g 7), vI (g 8), vI (g 1), .ref (kad G 4), .ref (kad G 5), .ref (kad G 6), vI (g 2), .ref (kad G 7), .ref (kad G 8), .ref (kad G 9)]) := (hf3 3 (by omega)).trans hL.1
          refine k_muvV hC (c_X4_addLeg l hls G hN w3 fl 3 g T d u (by omega) (by omega) hB_5) yy_X4_addLeg wm_X11_395 (kl hN (by decide)) h_7 rfl rfl rfl rfl (Nat.le_of_ble_eq_true rfl) (by decide) (by decide) ⟨by decide, by decide⟩ dX11_steer_77 (fun w6 hp6 => ?_)
          obtain ⟨hl6, hf6⟩ := hp6
          refine k_aload_n hC dX11_steer_80 rfl 0 rfl ?_
          have h_8 : w6 0 = .inr (11, [.ref (kad G 1), .ref (kad G 32), .ref (kad G 3), .ref (kad G 37), vI sv, .ref (kad G 44), .ref (kad G 10), .ref (kad G 116), .ref (kad G 129), .ref (kad G 132)]) := (hf6 0 (by omega)).trans h_4
          refine k_get hC fd_X11_29 (kl hN (by decide)) h_8 rfl dX11_steer_81 ?_
          refine k_get hC fd_X11_165 (kl hN (by decide)) hl6.1 rfl dX11_steer_84 ?_
          refine k_iconst hC dX11_steer_87 ?_
          refine k_isub hC dX11_steer_88 ?_
          have hB_9 : kHist G w6 (hsP hs nx g) (((nx + 1) % 10 : Nat) : Int) (min (cn + 1) 10) := hHi3.fr (fun j q1 q2 => (hf6 j (by omega)))
          exact k_iretX hC hr ⟨by decide, by decide⟩ (⟨(by omega), congrArg (fun z => some (vI z)) (show ((if 8 ≤ g 1 then -2 else if T ≤ lastM g then -3 else g 1 : _) = ((addLegM g T d u) 1) - 1) from (by rw [if_neg (by omega), if_neg (by omega)]; show g 1 = g 1 + 1 - 1; omega)), rfl, Or.inr ⟨by omega, hl6, hB_9, fun j hj => (hf6 j (by omega)).trans (hf3 j (by omega))⟩⟩) dX11_steer_89
        · refine k_bipush hC dX11_steer_56 (by decide) ?_
          exact k_iretX hC hr ⟨by decide, by decide⟩ (⟨(by omega), congrArg (fun z => some (vI z)) (show ((if 8 ≤ g 1 then -2 else if T ≤ lastM g then -3 else g 1 : _) = -3) from (by rw [if_neg (by omega)]; exact if_pos (by omega))), rfl, Or.inl ⟨by omega, rfl⟩⟩) dX11_steer_58
      · refine k_bipush hC dX11_steer_42 (by decide) ?_
        exact k_iretX hC hr ⟨by decide, by decide⟩ (⟨(by omega), congrArg (fun z => some (vI z)) (show ((if 8 ≤ g 1 then -2 else if T ≤ lastM g then -3 else g 1 : _) = -2) from (by exact if_pos (by omega))), rfl, Or.inl ⟨by omega, rfl⟩⟩) dX11_steer_44
    · exact k_thrIW hC htb (List.mem_of_getElem? (i := 21) rfl) (by decide) ⟨by decide, by decide⟩ (Nat.le_of_ble_eq_true rfl) dX11_steer_19 dX11_steer_22 dX11_steer_23 dX11_steer_26 dX11_steer_29 (⟨Or.inr ⟨rfl, by omega⟩, rfl, rfl⟩)

set_option maxRecDepth 100000 in
set_option maxHeartbeats 4000000 in
theorem c_X11_setCurrent (l : Launch) (hls : l.stackTraces = false) (G : kG) (hN : 133 ≤ kN G) (w : Nat → va_E) (fl : va_W) (g nl : Nat → Int) (sv : Int) (hs : Nat → Nat → Int) (nx : Nat) (cn : Int) (a b : Int) (ha : -2147483648 ≤ a ∧ a ≤ 2147483647) (hb : -2147483648 ≤ b ∧ b ≤ 2147483647) (hnx : nx < 10) (hcn : 0 ≤ cn ∧ cn ≤ 10) (hHi : kHist G w hs (nx : Int) cn) (hI : Inv g) (h00 : w 0 = srO G sv) (hL : kLog G w 3 g) (hP : kPlan G w 32 g nl) (hCt : kCht G w) : KX l G yX11_setCurrent cX11_setCurrent 4 (some (FieldType.int)) 9 8 48 [.ref (kad G 0), vI a, vI b] w fl (kOk ((0 ≤ a ∧ a ≤ 21599) ∧ (0 ≤ b ∧ b ≤ 100)) (vI (g 8)) fl (fun w1 => kLog G w1 3 (setM g 7 a 8 b) ∧ kHist G w1 (hsP hs nx g) (((nx + 1) % 10 : Nat) : Int) (min (cn + 1) 10) ∧ ∀ j, ((j < 3 ∨ 9 < j) ∧ (j < 44 ∨ 115 < j)) → w1 j = w j)) (kTh (False) (¬ ((0 ≤ a ∧ a ≤ 21599) ∧ (0 ≤ b ∧ b ≤ 100))) fl (fun w1 => w1 = w)) := by
  refine KX_of2 hls (by decide +kernel) rfl (lv0 := [(0, .ref (kad G 0)), (1, vI a), (2, vI b)]) rfl (Nat.le_of_ble_eq_true rfl) (fun p e R s m args below meth c Q hC hr htb hQ => ?_)
  subst hQ
  obtain ⟨⟨h10, h11⟩, hLn, hSh, hH, h14, h15⟩ := hCt
  have h0 := hI.c
  refine k_iload_n hC dX11_setCurrent_0 rfl 1 rfl ?_
  refine k_callSX hC (c_X11_needAngle l hls G hN w fl a (by omega)) yy_X11_needAngle wm_X11_387 rfl rfl (Nat.le_of_ble_eq_true rfl) (by decide) (by decide) ⟨by decide, by decide⟩ dX11_setCurrent_1 htb ⟨by decide, by decide⟩ (fun E1 w9 fl9 hx1 => by obtain ⟨q1, q2, q3, q4⟩ := hx1; subst q1; subst q3; subst q4; exact ⟨Or.inr ⟨rfl, by omega⟩, rfl, rfl⟩) (fun v9 w9 fl9 hp1 => ?_)
  obtain ⟨hc1_1, q1, q2, q3⟩ := hp1; subst q1; subst q2; subst q3
  refine k_iload_n hC dX11_setCurrent_4 rfl 2 rfl ?_
  refine k_if_lt hC 14 dX11_setCurrent_5 rfl (by omega) (fun c_5 => ?_) (fun c_5 => ?_)
  · exact k_thrIW hC htb (List.mem_of_getElem? (i := 22) rfl) (by decide) ⟨by decide, by decide⟩ (Nat.le_of_ble_eq_true rfl) dX11_setCurrent_14 dX11_setCurrent_17 dX11_setCurrent_18 dX11_setCurrent_21 dX11_setCurrent_24 (⟨Or.inr ⟨rfl, by omega⟩, rfl, rfl⟩)
  · refine k_iload_n hC dX11_setCurrent_8 rfl 2 rfl ?_
    refine k_bipush hC dX11_setCurrent_9 (by decide) ?_
    refine k_icmp_le hC 25 dX11_setCurrent_11 rfl (by omega) (by omega) (fun c_11 => ?_) (fun c_11 => ?_)
    · refine k_aload_n hC dX11_setCurrent_25 rfl 0 rfl ?_
      refine k_get hC fd_X11_29 (kl hN (by decide)) h00 rfl dX11_setCurrent_26 ?_
      refine k_get hC fd_X11_183 (kl hN (by decide)) hL.1 rfl dX11_setCurrent_29 ?_
      refine k_istore_n hC [(3, vI (g 8)), (0, .ref (kad G 0)), (1, vI a), (2, vI b)] dX11_setCurrent_32 rfl (by decide) rfl ?_
      refine k_aload_n hC dX11_setCurrent_33 rfl 1 rfl ?_
      refine k_get hC fd_X11_39 (kl hN (by decide)) h00 rfl dX11_setCurrent_34 ?_
      refine k_aload_n hC dX11_setCurrent_37 rfl 1 rfl ?_
      refine k_get hC fd_X11_29 (kl hN (by decide)) h00 rfl dX11_setCurrent_38 ?_
      have h44_2 : w 44 = hisO G (nx : Int) cn := hHi.1.1
      refine k_muvV hC (c_X2_remember l hls G hN w fl hs nx cn g hnx hcn hHi hL) yy_X2_remember wm_X11_378 (kl hN (by decide)) h44_2 rfl rfl rfl rfl (Nat.le_of_ble_eq_true rfl) (by decide) (by decide) ⟨by decide, by decide⟩ dX11_setCurrent_41 (fun w2 hp2 => ?_)
      obtain ⟨hHi2, hf2⟩ := hp2
      refine k_aload_n hC dX11_setCurrent_44 rfl 1 rfl ?_
      have h_3 : w2 0 = .inr (11, [.ref (kad G 1), .ref (kad G 32), .ref (kad G 3), .ref (kad G 37), vI sv, .ref (kad G 44), .ref (kad G 10), .ref (kad G 116), .ref (kad G 129), .ref (kad G 132)]) := (hf2 0 (by omega)).trans h00
      refine k_get hC fd_X11_29 (kl hN (by decide)) h_3 rfl dX11_setCurrent_45 ?_
      refine k_iload_n hC dX11_setCurrent_48 rfl 2 rfl ?_
      have h_4 : w2 3 = .inr (4, [vI (g 5), vI (g 6), vI (g 7), vI (g 8), vI (g 1), .ref (kad G 4), .ref (kad G 5), .ref (kad G 6), vI (g 2), .ref (kad G 7), .ref (kad G 8), .ref (kad G 9)]) := (hf2 3 (by omega)).trans hL.1
      refine k_put hC fd_X11_180 (kl hN (by decide)) h_4 [vI (g 5), vI (g 6), vI a, vI (g 8), vI (g 1), .ref (kad G 4), .ref (kad G 5), .ref (kad G 6), vI (g 2), .ref (kad G 7), .ref (kad G 8), .ref (kad G 9)] rfl (Nat.le_of_ble_eq_true rfl) rfl rfl dX11_setCurrent_49 (fun w5 hw5 hf5 => ?_)
      refine k_aload_n hC dX11_setCurrent_52 rfl 1 rfl ?_
      have h_6 : w5 0 = .inr (11, [.ref (kad G 1), .ref (kad G 32), .ref (kad G 3), .ref (kad G 37), vI sv, .ref (kad G 44), .ref (kad G 10), .ref (kad G 116), .ref (kad G 129), .ref (kad G 132)]) := (hf5 0 (by decide)).trans h_3
      refine k_get hC fd_X11_29 (kl hN (by decide)) h_6 rfl dX11_setCurrent_53 ?_
      refine k_iload_n hC dX11_setCurrent_56 rfl 3 rfl ?_
      refine k_put hC fd_X11_183 (kl hN (by decide)) hw5 [vI (g 5), vI (g 6), vI a, vI b, vI (g 1), .ref (kad G 4), .ref (kad G 5), .ref (kad G 6), vI (g 2), .ref (kad G 7), .ref (kad G 8), .ref (kad G 9)] rfl (Nat.le_of_ble_eq_true rfl) rfl rfl dX11_setCurrent_57 (fun w7 hw7 hf7 => ?_)
      refine k_iload_n hC dX11_setCurrent_60 rfl 0 rfl ?_
      have h_8 : w7 4 = iA G 8 (fun j => g (33 + 3 * j)) := (hf7 4 (by decide)).trans ((hf5 4 (by decide)).trans ((hf2 4 (by omega)).trans hL.2.1))
      have h_9 : w7 5 = iA G 8 (fun j => g (34 + 3 * j)) := (hf7 5 (by decide)).trans ((hf5 5 (by decide)).trans ((hf2 5 (by omega)).trans hL.2.2.1))
      have h_10 : w7 6 = iA G 8 (fun j => g (35 + 3 * j)) := (hf7 6 (by decide)).trans ((hf5 6 (by decide)).trans ((hf2 6 (by omega)).trans hL.2.2.2.1))
      have h_11 : w7 7 = iA G 12 (fun j => g (57 + 3 * j)) := (hf7 7 (by decide)).trans ((hf5 7 (by decide)).trans ((hf2 7 (by omega)).trans hL.2.2.2.2.1))
      have h_12 : w7 8 = iA G 12 (fun j => g (58 + 3 * j)) := (hf7 8 (by decide)).trans ((hf5 8 (by decide)).trans ((hf2 8 (by omega)).trans hL.2.2.2.2.2.1))
      have h_13 : w7 9 = iA G 12 (fun j => g (59 + 3 * j)) := (hf7 9 (by decide)).trans ((hf5 9 (by decide)).trans ((hf2 9 (by omega)).trans hL.2.2.2.2.2.2))
      have hB_14 : kHist G w7 (hsP hs nx g) (((nx + 1) % 10 : Nat) : Int) (min (cn + 1) 10) := hHi2.fr (fun j q1 q2 => (hf7 j (by omega)).trans (hf5 j (by omega)))
      exact k_iretX hC hr ⟨by decide, by decide⟩ (⟨(by omega), congrArg (fun z => some (vI z)) (show ((g 8 : _) = g 8) from rfl), rfl, ⟨⟨logO_of hw7 (by simp only [setM, kup]; repeat (first | omega | rfl | split | (congr 1; omega))) (by simp only [setM, kup]; repeat (first | omega | rfl | split | (congr 1; omega))) (by simp only [setM, kup]; repeat (first | omega | rfl | split | (congr 1; omega))) (by simp only [setM, kup]; repeat (first | omega | rfl | split | (congr 1; omega))) (by simp only [setM, kup]; repeat (first | omega | rfl | split | (congr 1; omega))) (by simp only [setM, kup]; repeat (first | omega | rfl | split | (congr 1; omega))), h_8.trans (iA_congr (fun j hj => by simp only [setM, kup]; repeat (first | omega | rfl | split | (congr 1; omega)))), h_9.trans (iA_congr (fun j hj => by simp only [setM, kup]; repeat (first | omega | rfl | split | (congr 1; omega)))), h_10.trans (iA_congr (fun j hj => by simp only [setM, kup]; repeat (first | omega | rfl | split | (congr 1; omega)))), h_11.trans (iA_congr (fun j hj => by simp only [setM, kup]; repeat (first | omega | rfl | split | (congr 1; omega)))), h_12.trans (iA_congr (fun j hj => by simp only [setM, kup]; repeat (first | omega | rfl | split | (congr 1; omega)))), h_13.trans (iA_congr (fun j hj => by simp only [setM, kup]; repeat (first | omega | rfl | split | (congr 1; omega))))⟩, hB_14, fun j hj => (hf7 j (by omega)).trans ((hf5 j (by omega)).trans (hf2 j (by omega)))⟩⟩) dX11_setCurrent_61
    · exact k_thrIW hC htb (List.mem_of_getElem? (i := 22) rfl) (by decide) ⟨by decide, by decide⟩ (Nat.le_of_ble_eq_true rfl) dX11_setCurrent_14 dX11_setCurrent_17 dX11_setCurrent_18 dX11_setCurrent_21 dX11_setCurrent_24 (⟨Or.inr ⟨rfl, by omega⟩, rfl, rfl⟩)

set_option maxRecDepth 100000 in
set_option maxHeartbeats 4000000 in
theorem c_X11_correct (l : Launch) (hls : l.stackTraces = false) (G : kG) (hN : 133 ≤ kN G) (w : Nat → va_E) (fl : va_W) (g nl : Nat → Int) (sv : Int) (hs : Nat → Nat → Int) (nx : Nat) (cn : Int) (a b : Int) (ha : -2147483648 ≤ a ∧ a ≤ 2147483647) (hb : -2147483648 ≤ b ∧ b ≤ 2147483647) (hnx : nx < 10) (hcn : 0 ≤ cn ∧ cn ≤ 10) (hHi : kHist G w hs (nx : Int) cn) (hI : Inv g) (h00 : w 0 = srO G sv) (hL : kLog G w 3 g) (hP : kPlan G w 32 g nl) (hCt : kCht G w) : KX l G yX11_correct cX11_correct 3 (some (FieldType.int)) 8 8 48 [.ref (kad G 0), vI a, vI b] w fl (kOk ((0 ≤ a ∧ a ≤ 50) ∧ (-60 ≤ b ∧ b ≤ 60)) (vI (dipM (setM g 5 a 6 b))) fl (fun w1 => kLog G w1 3 (setM g 5 a 6 b) ∧ kHist G w1 (hsP hs nx g) (((nx + 1) % 10 : Nat) : Int) (min (cn + 1) 10) ∧ ∀ j, ((j < 3 ∨ 9 < j) ∧ (j < 44 ∨ 115 < j)) → w1 j = w j)) (kTh (False) (¬ ((0 ≤ a ∧ a ≤ 50) ∧ (-60 ≤ b ∧ b ≤ 60))) fl (fun w1 => w1 = w)) := by
  refine KX_of2 hls (by decide +kernel) rfl (lv0 := [(0, .ref (kad G 0)), (1, vI a), (2, vI b)]) rfl (Nat.le_of_ble_eq_true rfl) (fun p e R s m args below meth c Q hC hr htb hQ => ?_)
  subst hQ
  obtain ⟨⟨h10, h11⟩, hLn, hSh, hH, h14, h15⟩ := hCt
  have h0 := hI.c
  refine k_iload_n hC dX11_correct_0 rfl 1 rfl ?_
  refine k_if_lt hC 22 dX11_correct_1 rfl (by omega) (fun c_1 => ?_) (fun c_1 => ?_)
  · exact k_thrIW hC htb (List.mem_of_getElem? (i := 23) rfl) (by decide) ⟨by decide, by decide⟩ (Nat.le_of_ble_eq_true rfl) dX11_correct_22 dX11_correct_25 dX11_correct_26 dX11_correct_29 dX11_correct_32 (⟨Or.inr ⟨rfl, by omega⟩, rfl, rfl⟩)
  · refine k_iload_n hC dX11_correct_4 rfl 1 rfl ?_
    refine k_bipush hC dX11_correct_5 (by decide) ?_
    refine k_icmp_gt hC 22 dX11_correct_7 rfl (by omega) (by omega) (fun c_7 => ?_) (fun c_7 => ?_)
    · exact k_thrIW hC htb (List.mem_of_getElem? (i := 23) rfl) (by decide) ⟨by decide, by decide⟩ (Nat.le_of_ble_eq_true rfl) dX11_correct_22 dX11_correct_25 dX11_correct_26 dX11_correct_29 dX11_correct_32 (⟨Or.inr ⟨rfl, by omega⟩, rfl, rfl⟩)
    · refine k_iload_n hC dX11_correct_10 rfl 2 rfl ?_
      refine k_bipush hC dX11_correct_11 (by decide) ?_
      refine k_icmp_lt hC 22 dX11_correct_13 rfl (by omega) (by omega) (fun c_13 => ?_) (fun c_13 => ?_)
      · exact k_thrIW hC htb (List.mem_of_getElem? (i := 23) rfl) (by decide) ⟨by decide, by decide⟩ (Nat.le_of_ble_eq_true rfl) dX11_correct_22 dX11_correct_25 dX11_correct_26 dX11_correct_29 dX11_correct_32 (⟨Or.inr ⟨rfl, by omega⟩, rfl, rfl⟩)
      · refine k_iload_n hC dX11_correct_16 rfl 2 rfl ?_
        refine k_bipush hC dX11_correct_17 (by decide) ?_
        refine k_icmp_le hC 33 dX11_correct_19 rfl (by omega) (by omega) (fun c_19 => ?_) (fun c_19 => ?_)
        · refine k_aload_n hC dX11_correct_33 rfl 0 rfl ?_
          refine k_get hC fd_X11_39 (kl hN (by decide)) h00 rfl dX11_correct_34 ?_
          refine k_aload_n hC dX11_correct_37 rfl 0 rfl ?_
          refine k_get hC fd_X11_29 (kl hN (by decide)) h00 rfl dX11_correct_38 ?_
          have h44_1 : w 44 = hisO G (nx : Int) cn := hHi.1.1
          refine k_muvV hC (c_X2_remember l hls G hN w fl hs nx cn g hnx hcn hHi hL) yy_X2_remember wm_X11_378 (kl hN (by decide)) h44_1 rfl rfl rfl rfl (Nat.le_of_ble_eq_true rfl) (by decide) (by decide) ⟨by decide, by decide⟩ dX11_correct_41 (fun w1 hp1 => ?_)
          obtain ⟨hHi1, hf1⟩ := hp1
          refine k_aload_n hC dX11_correct_44 rfl 0 rfl ?_
          have h_2 : w1 0 = .inr (11, [.ref (kad G 1), .ref (kad G 32), .ref (kad G 3), .ref (kad G 37), vI sv, .ref (kad G 44), .ref (kad G 10), .ref (kad G 116), .ref (kad G 129), .ref (kad G 132)]) := (hf1 0 (by omega)).trans h00
          refine k_get hC fd_X11_29 (kl hN (by decide)) h_2 rfl dX11_correct_45 ?_
          refine k_iload_n hC dX11_correct_48 rfl 1 rfl ?_
          have hB_3 : kLog G w1 3 g := hL.fr (fun j q1 q2 => (hf1 j (by omega)))
          refine k_put hC fd_X11_174 (kl hN (by decide)) hB_3.1 [vI a, vI (g 6), vI (g 7), vI (g 8), vI (g 1), .ref (kad G 4), .ref (kad G 5), .ref (kad G 6), vI (g 2), .ref (kad G 7), .ref (kad G 8), .ref (kad G 9)] rfl (Nat.le_of_ble_eq_true rfl) rfl rfl dX11_correct_49 (fun w4 hw4 hf4 => ?_)
          refine k_aload_n hC dX11_correct_52 rfl 0 rfl ?_
          have h_5 : w4 0 = .inr (11, [.ref (kad G 1), .ref (kad G 32), .ref (kad G 3), .ref (kad G 37), vI sv, .ref (kad G 44), .ref (kad G 10), .ref (kad G 116), .ref (kad G 129), .ref (kad G 132)]) := (hf4 0 (by decide)).trans h_2
          refine k_get hC fd_X11_29 (kl hN (by decide)) h_5 rfl dX11_correct_53 ?_
          refine k_iload_n hC dX11_correct_56 rfl 2 rfl ?_
          refine k_put hC fd_X11_177 (kl hN (by decide)) hw4 [vI a, vI b, vI (g 7), vI (g 8), vI (g 1), .ref (kad G 4), .ref (kad G 5), .ref (kad G 6), vI (g 2), .ref (kad G 7), .ref (kad G 8), .ref (kad G 9)] rfl (Nat.le_of_ble_eq_true rfl) rfl rfl dX11_correct_57 (fun w6 hw6 hf6 => ?_)
          have h_8 : w6 4 = iA G 8 (fun j => g (33 + 3 * j)) := (hf6 4 (by decide)).trans ((hf4 4 (by decide)).trans hB_3.2.1)
          have h_9 : w6 5 = iA G 8 (fun j => g (34 + 3 * j)) := (hf6 5 (by decide)).trans ((hf4 5 (by decide)).trans hB_3.2.2.1)
          have h_10 : w6 6 = iA G 8 (fun j => g (35 + 3 * j)) := (hf6 6 (by decide)).trans ((hf4 6 (by decide)).trans hB_3.2.2.2.1)
          have h_11 : w6 7 = iA G 12 (fun j => g (57 + 3 * j)) := (hf6 7 (by decide)).trans ((hf4 7 (by decide)).trans hB_3.2.2.2.2.1)
          have h_12 : w6 8 = iA G 12 (fun j => g (58 + 3 * j)) := (hf6 8 (by decide)).trans ((hf4 8 (by decide)).trans hB_3.2.2.2.2.2.1)
          have h_13 : w6 9 = iA G 12 (fun j => g (59 + 3 * j)) := (hf6 9 (by decide)).trans ((hf4 9 (by decide)).trans hB_3.2.2.2.2.2.2)
          have hLx_7 : kLog G w6 3 (setM g 5 a 6 b) := ⟨logO_of hw6 (by simp only [setM, kup]; repeat (first | omega | rfl | split | (congr 1; omega))) (by simp only [setM, kup]; repeat (first | omega | rfl | split | (congr 1; omega))) (by simp only [setM, kup]; repeat (first | omega | rfl | split | (congr 1; omega))) (by simp only [setM, kup]; repeat (first | omega | rfl | split | (congr 1; omega))) (by simp only [setM, kup]; repeat (first | omega | rfl | split | (congr 1; omega))) (by simp only [setM, kup]; repeat (first | omega | rfl | split | (congr 1; omega))), h_8.trans (iA_congr (fun j hj => by simp only [setM, kup]; repeat (first | omega | rfl | split | (congr 1; omega)))), h_9.trans (iA_congr (fun j hj => by simp only [setM, kup]; repeat (first | omega | rfl | split | (congr 1; omega)))), h_10.trans (iA_congr (fun j hj => by simp only [setM, kup]; repeat (first | omega | rfl | split | (congr 1; omega)))), h_11.trans (iA_congr (fun j hj => by simp only [setM, kup]; repeat (first | omega | rfl | split | (congr 1; omega)))), h_12.trans (iA_congr (fun j hj => by simp only [setM, kup]; repeat (first | omega | rfl | split | (congr 1; omega)))), h_13.trans (iA_congr (fun j hj => by simp only [setM, kup]; repeat (first | omega | rfl | split | (congr 1; omega))))⟩
          refine k_aload_n hC dX11_correct_60 rfl 0 rfl ?_
          have h_14 : w6 0 = .inr (11, [.ref (kad G 1), .ref (kad G 32), .ref (kad G 3), .ref (kad G 37), vI sv, .ref (kad G 44), .ref (kad G 10), .ref (kad G 116), .ref (kad G 129), .ref (kad G 132)]) := (hf6 0 (by decide)).trans h_5
          refine k_get hC fd_X11_29 (kl hN (by decide)) h_14 rfl dX11_correct_61 ?_
          refine k_pureV hC (c_X4_dip l hls G hN w6 fl 3 (setM g 5 a 6 b) (by omega) (by show 0 ≤ a ∧ a ≤ 50; omega) hLx_7) yy_X4_dip wm_X11_402 (kl hN (by decide)) hLx_7.1 rfl rfl rfl rfl (Nat.le_of_ble_eq_true rfl) (by decide) (by decide) ⟨by decide, by decide⟩ dX11_correct_64 ?_
          have hB_15 : kHist G w6 (hsP hs nx g) (((nx + 1) % 10 : Nat) : Int) (min (cn + 1) 10) := hHi1.fr (fun j q1 q2 => (hf6 j (by omega)).trans (hf4 j (by omega)))
          exact k_iretX hC hr ⟨by decide, by decide⟩ (⟨(by omega), congrArg (fun z => some (vI z)) (show ((dipM (setM g 5 a 6 b) : _) = dipM (setM g 5 a 6 b)) from rfl), rfl, ⟨hLx_7, hB_15, fun j hj => (hf6 j (by omega)).trans ((hf4 j (by omega)).trans (hf1 j (by omega)))⟩⟩) dX11_correct_67
        · exact k_thrIW hC htb (List.mem_of_getElem? (i := 23) rfl) (by decide) ⟨by decide, by decide⟩ (Nat.le_of_ble_eq_true rfl) dX11_correct_22 dX11_correct_25 dX11_correct_26 dX11_correct_29 dX11_correct_32 (⟨Or.inr ⟨rfl, by omega⟩, rfl, rfl⟩)

set_option maxRecDepth 100000 in
set_option maxHeartbeats 4000000 in
theorem c_X11_undoCount (l : Launch) (hls : l.stackTraces = false) (G : kG) (hN : 133 ≤ kN G) (w : Nat → va_E) (fl : va_W) (g nl : Nat → Int) (sv : Int) (hs : Nat → Nat → Int) (nx : Nat) (cn : Int) (hnx : nx < 10) (hcn : 0 ≤ cn ∧ cn ≤ 10) (hHi : kHist G w hs (nx : Int) cn) (hI : Inv g) (h00 : w 0 = srO G sv) (hL : kLog G w 3 g) (hP : kPlan G w 32 g nl) (hCt : kCht G w) : KM l G yX11_undoCount cX11_undoCount 1 (some (FieldType.int)) 0 0 0 [.ref (kad G 0)] w fl (kOk (True) (vI (cn)) fl (fun w1 => w1 = w)) := by
  refine KM_of2 hls (by decide +kernel) rfl (lv0 := [(0, .ref (kad G 0))]) rfl (Nat.le_of_ble_eq_true rfl) (fun p e R s m args below meth c Q hC hr hQ => ?_)
  obtain ⟨⟨h10, h11⟩, hLn, hSh, hH, h14, h15⟩ := hCt
  have h0 := hI.c
  refine k_aload_n hC dX11_undoCount_0 rfl 0 rfl ?_
  refine k_get hC fd_X11_39 (kl hN (by decide)) h00 rfl dX11_undoCount_1 ?_
  refine k_get hC fd_X11_430 (kl hN (by decide)) hHi.1.1 rfl dX11_undoCount_4 ?_
  subst hQ
  exact k_iret hC hr ⟨by decide, by decide⟩ (⟨trivial, congrArg (fun z => some (vI z)) (show ((cn : _) = cn) from rfl), rfl, rfl⟩) dX11_undoCount_7

set_option maxRecDepth 100000 in
set_option maxHeartbeats 4000000 in
theorem c_X11_undo (l : Launch) (hls : l.stackTraces = false) (G : kG) (hN : 133 ≤ kN G) (w : Nat → va_E) (fl : va_W) (g nl : Nat → Int) (sv : Int) (hs : Nat → Nat → Int) (nx : Nat) (cn : Int) (hnx : nx < 10) (hcn : 0 ≤ cn ∧ cn ≤ 10) (hHi : kHist G w hs (nx : Int) cn) (hI : Inv g) (h00 : w 0 = srO G sv) (hL : kLog G w 3 g) (hP : kPlan G w 32 g nl) (hCt : kCht G w) : KM l G yX11_undo cX11_undo 1 (some (FieldType.int)) 6 0 0 [.ref (kad G 0)] w fl (kOk (True) (vI (cn - 1)) fl (fun w1 => (cn = 0 ∧ w1 = w) ∨ (¬ cn = 0 ∧ kLog G w1 3 (copyLM g (hs ((nx + 9) % 10))) ∧ kHist G w1 hs (((nx + 9) % 10 : Nat) : Int) (cn - 1) ∧ ∀ j, ((j < 3 ∨ 9 < j) ∧ (j < 44 ∨ 115 < j)) → w1 j = w j))) := by
  refine KM_of2 hls (by decide +kernel) rfl (lv0 := [(0, .ref (kad G 0))]) rfl (Nat.le_of_ble_eq_true rfl) (fun p e R s m args below meth c Q hC hr hQ => ?_)
  obtain ⟨⟨h10, h11⟩, hLn, hSh, hH, h14, h15⟩ := hCt
  have h0 := hI.c
  refine k_aload_n hC dX11_undo_0 rfl 0 rfl ?_
  refine k_get hC fd_X11_39 (kl hN (by decide)) h00 rfl dX11_undo_1 ?_
  refine k_get hC fd_X11_430 (kl hN (by decide)) hHi.1.1 rfl dX11_undo_4 ?_
  refine k_if_ne hC 12 dX11_undo_7 rfl (by omega) (fun c_7 => ?_) (fun c_7 => ?_)
  · refine k_aload_n hC dX11_undo_12 rfl 0 rfl ?_
    refine k_get hC fd_X11_39 (kl hN (by decide)) h00 rfl dX11_undo_13 ?_
    refine k_aload_n hC dX11_undo_16 rfl 0 rfl ?_
    refine k_get hC fd_X11_29 (kl hN (by decide)) h00 rfl dX11_undo_17 ?_
    refine k_muvV hC (c_X2_bringBack l hls G hN w fl hs nx cn g hnx (by omega) hHi hL) yy_X2_bringBack wm_X11_431 (kl hN (by decide)) hHi.1.1 rfl rfl rfl rfl (Nat.le_of_ble_eq_true rfl) (by decide) (by decide) ⟨by decide, by decide⟩ dX11_undo_20 (fun w1 hp1 => ?_)
    obtain ⟨hL1, hHi1, hf1⟩ := hp1
    refine k_aload_n hC dX11_undo_23 rfl 0 rfl ?_
    have h_2 : w1 0 = .inr (11, [.ref (kad G 1), .ref (kad G 32), .ref (kad G 3), .ref (kad G 37), vI sv, .ref (kad G 44), .ref (kad G 10), .ref (kad G 116), .ref (kad G 129), .ref (kad G 132)]) := (hf1 0 (by omega)).trans h00
    refine k_get hC fd_X11_39 (kl hN (by decide)) h_2 rfl dX11_undo_24 ?_
    refine k_get hC fd_X11_430 (kl hN (by decide)) hHi1.1.1 rfl dX11_undo_27 ?_
    subst hQ
    exact k_iret hC hr ⟨by decide, by decide⟩ (⟨trivial, congrArg (fun z => some (vI z)) (show ((cn - 1 : _) = cn - 1) from rfl), rfl, Or.inr ⟨by omega, hL1, hHi1, fun j hj => hf1 j (by omega)⟩⟩) dX11_undo_30
  · refine k_iconst hC dX11_undo_10 ?_
    subst hQ
    exact k_iret hC hr ⟨by decide, by decide⟩ (⟨trivial, congrArg (fun z => some (vI z)) (show ((cn - 1 : _) = -1) from (by omega)), rfl, Or.inl ⟨by omega, rfl⟩⟩) dX11_undo_11

set_option maxRecDepth 100000 in
set_option maxHeartbeats 4000000 in
theorem c_X11_saveSnapshot (l : Launch) (hls : l.stackTraces = false) (G : kG) (hN : 133 ≤ kN G) (w : Nat → va_E) (fl : va_W) (g nl : Nat → Int) (sv : Int) (hs : Nat → Nat → Int) (nx : Nat) (cn : Int) (gs : Nat → Int) (hL2 : kLog G w 37 gs) (hnx : nx < 10) (hcn : 0 ≤ cn ∧ cn ≤ 10) (hHi : kHist G w hs (nx : Int) cn) (hI : Inv g) (h00 : w 0 = srO G sv) (hL : kLog G w 3 g) (hP : kPlan G w 32 g nl) (hCt : kCht G w) : KM l G yX11_saveSnapshot cX11_saveSnapshot 1 (none) 4 0 0 [.ref (kad G 0)] w fl (kMuv fl (fun w1 => w1 0 = srO G 1 ∧ kLog G w1 37 g ∧ ∀ j, (j ≠ 0 ∧ (j < 37 ∨ 43 < j)) → w1 j = w j)) := by
  refine KM_of2 hls (by decide +kernel) rfl (lv0 := [(0, .ref (kad G 0))]) rfl (Nat.le_of_ble_eq_true rfl) (fun p e R s m args below meth c Q hC hr hQ => ?_)
  obtain ⟨⟨h10, h11⟩, hLn, hSh, hH, h14, h15⟩ := hCt
  have h0 := hI.c
  refine k_aload_n hC dX11_saveSnapshot_0 rfl 0 rfl ?_
  refine k_get hC fd_X11_33 (kl hN (by decide)) h00 rfl dX11_saveSnapshot_1 ?_
  refine k_aload_n hC dX11_saveSnapshot_4 rfl 0 rfl ?_
  refine k_get hC fd_X11_29 (kl hN (by decide)) h00 rfl dX11_saveSnapshot_5 ?_
  refine k_muvV hC (c_X4_copyFrom l hls G hN w fl 37 3 gs g (by omega) (by omega) (by omega) hL2 hL) yy_X4_copyFrom wm_X11_102 (kl hN (by decide)) hL2.1 rfl rfl rfl rfl (Nat.le_of_ble_eq_true rfl) (by decide) (by decide) ⟨by decide, by decide⟩ dX11_saveSnapshot_8 (fun w1 hp1 => ?_)
  obtain ⟨hl1, hf1⟩ := hp1
  refine k_aload_n hC dX11_saveSnapshot_11 rfl 0 rfl ?_
  refine k_iconst hC dX11_saveSnapshot_12 ?_
  have h_2 : w1 0 = .inr (11, [.ref (kad G 1), .ref (kad G 32), .ref (kad G 3), .ref (kad G 37), vI sv, .ref (kad G 44), .ref (kad G 10), .ref (kad G 116), .ref (kad G 129), .ref (kad G 132)]) := (hf1 0 (by omega)).trans h00
  refine k_put hC fd_X11_108 (kl hN (by decide)) h_2 [.ref (kad G 1), .ref (kad G 32), .ref (kad G 3), .ref (kad G 37), vI 1, .ref (kad G 44), .ref (kad G 10), .ref (kad G 116), .ref (kad G 129), .ref (kad G 132)] rfl (Nat.le_of_ble_eq_true rfl) rfl rfl dX11_saveSnapshot_13 (fun w3 hw3 hf3 => ?_)
  have hB_4 : kLog G w3 37 (copyLM gs g) := hl1.fr (fun j q1 q2 => (hf3 j (by omega)))
  subst hQ
  exact k_vret hC hr ⟨by decide, by decide⟩ (⟨rfl, rfl, hw3, kLog_copy hB_4, fun j hj => (hf3 j (by omega)).trans (hf1 j (by omega))⟩) dX11_saveSnapshot_16

set_option maxRecDepth 100000 in
set_option maxHeartbeats 4000000 in
theorem c_X11_restoreSnapshot (l : Launch) (hls : l.stackTraces = false) (G : kG) (hN : 133 ≤ kN G) (w : Nat → va_E) (fl : va_W) (g nl : Nat → Int) (sv : Int) (hs : Nat → Nat → Int) (nx : Nat) (cn : Int) (gs : Nat → Int) (hL2 : kLog G w 37 gs) (hsv : sv = 0 ∨ sv = 1) (hnx : nx < 10) (hcn : 0 ≤ cn ∧ cn ≤ 10) (hHi : kHist G w hs (nx : Int) cn) (hI : Inv g) (h00 : w 0 = srO G sv) (hL : kLog G w 3 g) (hP : kPlan G w 32 g nl) (hCt : kCht G w) : KM l G yX11_restoreSnapshot cX11_restoreSnapshot 1 (some (FieldType.boolean)) 4 0 0 [.ref (kad G 0)] w fl (kOk (True) (vI (sv)) fl (fun w1 => (sv = 0 ∧ w1 = w) ∨ (sv = 1 ∧ kLog G w1 3 (copyLM g gs) ∧ kHist G w1 hs 0 0 ∧ ∀ j, ((j < 3 ∨ 9 < j) ∧ j ≠ 44) → w1 j = w j))) := by
  refine KM_of2 hls (by decide +kernel) rfl (lv0 := [(0, .ref (kad G 0))]) rfl (Nat.le_of_ble_eq_true rfl) (fun p e R s m args below meth c Q hC hr hQ => ?_)
  obtain ⟨⟨h10, h11⟩, hLn, hSh, hH, h14, h15⟩ := hCt
  have h0 := hI.c
  refine k_aload_n hC dX11_restoreSnapshot_0 rfl 0 rfl ?_
  refine k_get hC fd_X11_108 (kl hN (by decide)) h00 rfl dX11_restoreSnapshot_1 ?_
  refine k_if_ne hC 9 dX11_restoreSnapshot_4 rfl (by omega) (fun c_4 => ?_) (fun c_4 => ?_)
  · refine k_aload_n hC dX11_restoreSnapshot_9 rfl 0 rfl ?_
    refine k_get hC fd_X11_29 (kl hN (by decide)) h00 rfl dX11_restoreSnapshot_10 ?_
    refine k_aload_n hC dX11_restoreSnapshot_13 rfl 0 rfl ?_
    refine k_get hC fd_X11_33 (kl hN (by decide)) h00 rfl dX11_restoreSnapshot_14 ?_
    refine k_muvV hC (c_X4_copyFrom l hls G hN w fl 3 37 g gs (by omega) (by omega) (by omega) hL hL2) yy_X4_copyFrom wm_X11_102 (kl hN (by decide)) hL.1 rfl rfl rfl rfl (Nat.le_of_ble_eq_true rfl) (by decide) (by decide) ⟨by decide, by decide⟩ dX11_restoreSnapshot_17 (fun w1 hp1 => ?_)
    obtain ⟨hl1, hf1⟩ := hp1
    refine k_aload_n hC dX11_restoreSnapshot_20 rfl 0 rfl ?_
    have h_2 : w1 0 = .inr (11, [.ref (kad G 1), .ref (kad G 32), .ref (kad G 3), .ref (kad G 37), vI sv, .ref (kad G 44), .ref (kad G 10), .ref (kad G 116), .ref (kad G 129), .ref (kad G 132)]) := (hf1 0 (by omega)).trans h00
    refine k_get hC fd_X11_39 (kl hN (by decide)) h_2 rfl dX11_restoreSnapshot_21 ?_
    have hB_3 : kHist G w1 hs (nx : Int) cn := hHi.fr (fun j q1 q2 => (hf1 j (by omega)))
    refine k_muvV hC (c_X2_clear l hls G hN w1 fl hs (nx : Int) cn hB_3) yy_X2_clear wm_X11_105 (kl hN (by decide)) hB_3.1.1 rfl rfl rfl rfl (Nat.le_of_ble_eq_true rfl) (by decide) (by decide) ⟨by decide, by decide⟩ dX11_restoreSnapshot_24 (fun w4 hp4 => ?_)
    obtain ⟨hHi4, hf4⟩ := hp4
    refine k_iconst hC dX11_restoreSnapshot_27 ?_
    have hB_5 : kLog G w4 3 (copyLM g gs) := hl1.fr (fun j q1 q2 => (hf4 j (by omega)))
    subst hQ
    exact k_zret hC (by omega) hr ⟨by decide, by decide⟩ (⟨trivial, congrArg (fun z => some (vI z)) (show ((sv : _) = 1) from (by omega)), rfl, Or.inr ⟨by omega, hB_5, hHi4, fun j hj => (hf4 j (by omega)).trans (hf1 j (by omega))⟩⟩) dX11_restoreSnapshot_28
  · refine k_iconst hC dX11_restoreSnapshot_7 ?_
    subst hQ
    exact k_zret hC (by omega) hr ⟨by decide, by decide⟩ (⟨trivial, congrArg (fun z => some (vI z)) (show ((sv : _) = 0) from (by omega)), rfl, Or.inl ⟨by omega, rfl⟩⟩) dX11_restoreSnapshot_8

