theorem KM_ofX {l : Launch} {G : kG} {y : MethodName} {cc : ByteArray} {maxL d mc ms : Nat} {ret : Option FieldType} {av : List Value} {w : Nat → va_E} {fl : va_W} {post : Option Value → (Nat → va_E) → va_W → Prop} {px : String → (Nat → va_E) → va_W → Prop} (h : KX l G y cc maxL ret d mc ms av w fl post px) (hn : ∀ E w1 fl1, ¬ px E w1 fl1) : KM l G y cc maxL ret d mc ms av w fl post := by
  intro p e ha hf hc s m args below h1 h2 h3 h4
  obtain ⟨n, o, a1, a2, a3, a4⟩ := h p e ha hf hc s m args below h1 h2 h3 h4
  refine ⟨n, o, a1, a2, a3, ?_⟩
  rcases a4 with q | ⟨q, -, E, ce, L, ⟨w1, fl1, hp, -⟩, -⟩
  · exact q
  · exact absurd hp (hn _ _ _)
theorem kTh_no {ci : Prop} {fl : va_W} {P : (Nat → va_E) → Prop} (h : ¬ ci) (E : String) (w1 : Nat → va_E) (fl1 : va_W) : ¬ kTh False ci fl P E w1 fl1 := fun q => by
  obtain ⟨⟨-, q⟩ | ⟨-, q⟩, -⟩ := q
  · exact q
  · exact h q
theorem kLog.cg {G : kG} {w : Nat → va_E} {b : Nat} {g h : Nat → Int} (hl : kLog G w b g) (e : ∀ j, (j = 1 ∨ j = 2 ∨ (5 ≤ j ∧ j ≤ 8) ∨ 33 ≤ j) → h j = g j) : kLog G w b h := by
  have : copyLM g h = copyLM g g := by
    funext j
    by_cases hj : j = 1 ∨ j = 2 ∨ (5 ≤ j ∧ j ≤ 8) ∨ 33 ≤ j
    · rw [copyLM_l hj, copyLM_l hj, e j hj]
    · rw [copyLM_p hj, copyLM_p hj]
  refine kLog_copy (h := g) ?_
  rw [this, show copyLM g g = g by funext j; unfold copyLM; split <;> rfl]
  exact hl
theorem kPlan.cg {G : kG} {w : Nat → va_E} {b : Nat} {g h nl : Nat → Int} (hl : kPlan G w b g nl) (e : ∀ j, (j = 0 ∨ j = 3 ∨ j = 4 ∨ (9 ≤ j ∧ j ≤ 32)) → h j = g j) : kPlan G w b h nl := by
  obtain ⟨h0, h1, h2, h3, h4⟩ := hl
  refine ⟨?_, h1.trans (iA_congr (fun j hj => (e _ (by omega)).symm)), h2.trans (iA_congr (fun j hj => (e _ (by omega)).symm)), h3.trans (iA_congr (fun j hj => (e _ (by omega)).symm)), h4⟩
  rw [h0]
  show planO G b g = planO G b h
  unfold planO
  rw [e 3 (by omega), e 4 (by omega), e 0 (by omega)]
theorem hdT_len (g : Nat → Int) : (hdT g).length ≤ 66 := by
  have h3 := sgL_len (g 3); have h4 := sgL_len (g 4); have h5 := sgL_len (g 5); have h6 := sgL_len (g 6); have h7 := sgL_len (g 7); have h8 := sgL_len (g 8)
  have s8 : stL 8 = 6 := by decide
  have s24 : stL 24 = 1 := by decide
  have s25 : stL 25 = 5 := by decide
  have s26 : stL 26 = 7 := by decide
  have s27 : stL 27 = 9 := by decide
  unfold hdT
  simp only [List.length_append, List.length_cons, List.length_nil, stW_len]
  omega
theorem bT_len {g : Nat → Int} {k : Nat} (h : g (11 + 4 * k) ≤ 8) : (bT g k).length ≤ 28 := by
  have h3 := sgL_len (g (9 + 4 * k)); have h4 := sgL_len (g (10 + 4 * k))
  have s28 : stL 28 = 5 := by decide
  have s24 : stL 24 = 1 := by decide
  unfold bT
  simp only [List.length_append, List.length_cons, List.length_nil, stW_len, nmL_len]
  omega
theorem lT_len (g : Nat → Int) (k : Nat) : (lT g k).length ≤ 25 := by
  have h3 := sgL_len (g (33 + 3 * k)); have h4 := sgL_len (g (34 + 3 * k)); have h5 := sgL_len (g (35 + 3 * k))
  have s39 : stL 39 = 4 := by decide
  have s24 : stL 24 = 1 := by decide
  unfold lT
  simp only [List.length_append, List.length_cons, List.length_nil, stW_len]
  omega
theorem sT_len {g : Nat → Int} {k : Nat} (h : g (11 + 4 * (g (57 + 3 * k)).toNat) ≤ 8) : (sT g k).length ≤ 29 := by
  have h4 := sgL_len (g (58 + 3 * k)); have h5 := sgL_len (g (59 + 3 * k))
  have s40 : stL 40 = 6 := by decide
  have s24 : stL 24 = 1 := by decide
  unfold sT
  simp only [List.length_append, List.length_cons, List.length_nil, stW_len, nmL_len]
  omega
theorem clN_len {f : Nat → List Int} {c : Nat} : ∀ k : Nat, (∀ i, i < k → (f i).length ≤ c) → (clN f k).length ≤ c * k := by
  intro k
  induction k with
  | zero => intro _; exact Nat.zero_le _
  | succ k ih =>
    intro h
    have h1 := ih (fun i hi => h i (by omega))
    have h2 := h k (by omega)
    show (clN f k ++ f k).length ≤ c * (k + 1)
    rw [List.length_append, Nat.mul_succ]
    omega
set_option maxRecDepth 100000 in
set_option maxHeartbeats 4000000 in
theorem c_L_tell (l : Launch) (hls : l.stackTraces = false) (G : kG) (hM : 138 ≤ kN G) (w : Nat → va_E) (fl : va_W) (sv : Int) (g g0 nl0 gp0 nl9 gl0 : Nat → Int) (hs : Nat → Nat → Int) (nx9 : Nat) (cn9 : Int) (hI : Inv g) (hg4 : -10799 ≤ g 4) (hg1 : g 1 ≤ 4) (hg2 : g 2 ≤ 5) (hE : owR G w fl g) (hS : saR G w []) (h00 : w 0 = srO G sv) (h116 : w 116 = trO G) (hLg : kLog G w 3 g0) (hP0 : kPlan G w 32 g0 nl0) (hP2 : kPlan G w 117 gp0 nl9) (hL2 : kLog G w 122 gl0) (hHi : kHist G w hs (nx9 : Int) cn9) : KM l G yL_tell cL_tell 4 (some (FieldType.int)) 9 8 48 [.ref (kad G 0), .ref (kad G 133), .ref (kad G 134)] w fl (kMut (vI (g 2)) fl (fun w1 => saR G w1 [] ∧ w1 0 = srO G 0 ∧ (∃ gp1 gl1 nl1 : Nat → Int, kPlan G w1 117 gp1 nl1 ∧ kLog G w1 122 gl1) ∧ (∃ g1 nl1 : Nat → Int, gE g1 g ∧ Inv g1 ∧ kLog G w1 3 g1 ∧ kPlan G w1 32 g1 nl1) ∧ kHist G w1 hs 0 0 ∧ ∀ j, (10 ≤ j ∧ (j < 32 ∨ 36 < j) ∧ (j < 117 ∨ 128 < j) ∧ j ≠ 44 ∧ j ≠ 133) → w1 j = w j)) := by
  refine KM_of2 hls (by decide +kernel) rfl (lv0 := [(0, .ref (kad G 0)), (1, .ref (kad G 133)), (2, .ref (kad G 134))]) rfl (Nat.le_of_ble_eq_true rfl) (fun p e R s m args below meth c Q hC hr hQ => ?_)
  have hN : 133 ≤ kN G := by omega
  have hI0 := hI.c
  have hsl : stL 8 = 6 ∧ stL 24 = 1 ∧ stL 25 = 5 ∧ stL 26 = 7 ∧ stL 27 = 9 ∧ stL 28 = 5 ∧ stL 39 = 4 ∧ stL 40 = 6 := by decide
  have hs3 := sgL_len (g 3)
  have hs4 := sgL_len (g 4)
  have hs5 := sgL_len (g 5)
  have hs6 := sgL_len (g 6)
  have hs7 := sgL_len (g 7)
  have hs8 := sgL_len (g 8)
  have hhd := hdT_len g
  have hbl : ∀ k : Nat, (k : Int) ≤ g 0 → (clN (bT g) k).length ≤ 28 * k := fun k hk => clN_len k (fun i hi => bT_len (by have := hI.body i (by omega); omega))
  have hll : ∀ k : Nat, (clN (lT g) k).length ≤ 25 * k := fun k => clN_len k (fun i hi => lT_len g i)
  have hsn : ∀ k : Nat, (k : Int) ≤ g 2 → (clN (sT g) k).length ≤ 29 * k := fun k hk => clN_len k (fun i hi => sT_len (by have h1 := hI.sight i (by omega); have h2 := hI.body (g (57 + 3 * i)).toNat (by omega); omega))
  obtain ⟨h134, ⟨F5, h135, hF5⟩, ⟨F6, h136, hF6⟩, F7, h137, hF7⟩ := hE
  refine k_aload_n hC dL_tell_0 rfl 0 rfl ?_
  refine k_aload_n hC dL_tell_1 rfl 1 rfl ?_
  refine k_ldcs hC (List.mem_of_getElem? (i := 8) rfl) dL_tell_2 ?_
  refine k_aload_n hC dL_tell_4 rfl 2 rfl ?_
  refine k_getN hC fd_L_31 (kl2 hM (by decide)) h134 rfl dL_tell_5 ?_
  refine k_callS hC (c_L_with l hls G hM w fl ([]) sv 8 (g 3) (by decide) (by omega) (by (try simp only [List.length_append, List.length_cons, List.length_nil, List.length_replicate, List.length_map, List.length_range, stW_len, nmL_len]); omega) hS h00) yy_L_with wm_L_97 rfl rfl (Nat.le_of_ble_eq_true rfl) (by decide) (by decide) ⟨by decide, by decide⟩ dL_tell_8 (fun v1 w1 fl1 hp1 => ?_)
  obtain ⟨q1, q2, hS1, hf1⟩ := hp1
  subst q1
  subst q2
  show KW p l e R s m args below meth c 4 G Q w1 fl 0 0 11 [(0, .ref (kad G 0)), (1, .ref (kad G 133)), (2, .ref (kad G 134))] []
  refine k_aload_n hC dL_tell_11 rfl 0 rfl ?_
  refine k_aload_n hC dL_tell_12 rfl 1 rfl ?_
  refine k_ldcs hC (List.mem_of_getElem? (i := 24) rfl) dL_tell_13 ?_
  refine k_aload_n hC dL_tell_15 rfl 2 rfl ?_
  have h_2 : w1 134 = .inr (12, [vI (g 0), vI (g 1), vI (g 2), vI (g 3), vI (g 4), vI (g 5), vI (g 6), vI (g 7), vI (g 8), .ref (kad G 135), .ref (kad G 136), .ref (kad G 137)]) := (hf1 134 (by omega)).trans h134
  refine k_getN hC fd_L_35 (kl2 hM (by decide)) h_2 rfl dL_tell_16 ?_
  have h_4 : w1 0 = .inr (11, [.ref (kad G 1), .ref (kad G 32), .ref (kad G 3), .ref (kad G 37), vI sv, .ref (kad G 44), .ref (kad G 10), .ref (kad G 116), .ref (kad G 129), .ref (kad G 132)]) := (hf1 0 (by omega)).trans h00
  refine k_callS hC (c_L_with l hls G hM w1 fl ([] ++ stW 8 ++ sgL (g 3)) sv 24 (g 4) (by decide) (by omega) (by (try simp only [List.length_append, List.length_cons, List.length_nil, List.length_replicate, List.length_map, List.length_range, stW_len, nmL_len]); omega) hS1 h_4) yy_L_with wm_L_97 rfl rfl (Nat.le_of_ble_eq_true rfl) (by decide) (by decide) ⟨by decide, by decide⟩ dL_tell_19 (fun v3 w3 fl3 hp3 => ?_)
  obtain ⟨q1, q2, hS3, hf3⟩ := hp3
  subst q1
  subst q2
  show KW p l e R s m args below meth c 4 G Q w3 fl 0 0 22 [(0, .ref (kad G 0)), (1, .ref (kad G 133)), (2, .ref (kad G 134))] []
  refine k_aload_n hC dL_tell_22 rfl 0 rfl ?_
  refine k_aload_n hC dL_tell_23 rfl 1 rfl ?_
  refine k_ldcs hC (List.mem_of_getElem? (i := 25) rfl) dL_tell_24 ?_
  refine k_aload_n hC dL_tell_26 rfl 2 rfl ?_
  have h_5 : w3 134 = .inr (12, [vI (g 0), vI (g 1), vI (g 2), vI (g 3), vI (g 4), vI (g 5), vI (g 6), vI (g 7), vI (g 8), .ref (kad G 135), .ref (kad G 136), .ref (kad G 137)]) := (hf3 134 (by omega)).trans h_2
  refine k_getN hC fd_L_38 (kl2 hM (by decide)) h_5 rfl dL_tell_27 ?_
  have h_7 : w3 0 = .inr (11, [.ref (kad G 1), .ref (kad G 32), .ref (kad G 3), .ref (kad G 37), vI sv, .ref (kad G 44), .ref (kad G 10), .ref (kad G 116), .ref (kad G 129), .ref (kad G 132)]) := (hf3 0 (by omega)).trans h_4
  refine k_callS hC (c_L_with l hls G hM w3 fl ([] ++ stW 8 ++ sgL (g 3) ++ stW 24 ++ sgL (g 4)) sv 25 (g 5) (by decide) (by omega) (by (try simp only [List.length_append, List.length_cons, List.length_nil, List.length_replicate, List.length_map, List.length_range, stW_len, nmL_len]); omega) hS3 h_7) yy_L_with wm_L_97 rfl rfl (Nat.le_of_ble_eq_true rfl) (by decide) (by decide) ⟨by decide, by decide⟩ dL_tell_30 (fun v6 w6 fl6 hp6 => ?_)
  obtain ⟨q1, q2, hS6, hf6⟩ := hp6
  subst q1
  subst q2
  show KW p l e R s m args below meth c 4 G Q w6 fl 0 0 33 [(0, .ref (kad G 0)), (1, .ref (kad G 133)), (2, .ref (kad G 134))] []
  refine k_aload_n hC dL_tell_33 rfl 0 rfl ?_
  refine k_aload_n hC dL_tell_34 rfl 1 rfl ?_
  refine k_ldcs hC (List.mem_of_getElem? (i := 26) rfl) dL_tell_35 ?_
  refine k_aload_n hC dL_tell_37 rfl 2 rfl ?_
  have h_8 : w6 134 = .inr (12, [vI (g 0), vI (g 1), vI (g 2), vI (g 3), vI (g 4), vI (g 5), vI (g 6), vI (g 7), vI (g 8), .ref (kad G 135), .ref (kad G 136), .ref (kad G 137)]) := (hf6 134 (by omega)).trans h_5
  refine k_getN hC fd_L_41 (kl2 hM (by decide)) h_8 rfl dL_tell_38 ?_
  have h_10 : w6 0 = .inr (11, [.ref (kad G 1), .ref (kad G 32), .ref (kad G 3), .ref (kad G 37), vI sv, .ref (kad G 44), .ref (kad G 10), .ref (kad G 116), .ref (kad G 129), .ref (kad G 132)]) := (hf6 0 (by omega)).trans h_7
  refine k_callS hC (c_L_with l hls G hM w6 fl ([] ++ stW 8 ++ sgL (g 3) ++ stW 24 ++ sgL (g 4) ++ stW 25 ++ sgL (g 5)) sv 26 (g 6) (by decide) (by omega) (by (try simp only [List.length_append, List.length_cons, List.length_nil, List.length_replicate, List.length_map, List.length_range, stW_len, nmL_len]); omega) hS6 h_10) yy_L_with wm_L_97 rfl rfl (Nat.le_of_ble_eq_true rfl) (by decide) (by decide) ⟨by decide, by decide⟩ dL_tell_41 (fun v9 w9 fl9 hp9 => ?_)
  obtain ⟨q1, q2, hS9, hf9⟩ := hp9
  subst q1
  subst q2
  show KW p l e R s m args below meth c 4 G Q w9 fl 0 0 44 [(0, .ref (kad G 0)), (1, .ref (kad G 133)), (2, .ref (kad G 134))] []
  refine k_aload_n hC dL_tell_44 rfl 0 rfl ?_
  refine k_aload_n hC dL_tell_45 rfl 1 rfl ?_
  refine k_ldcs hC (List.mem_of_getElem? (i := 27) rfl) dL_tell_46 ?_
  refine k_aload_n hC dL_tell_48 rfl 2 rfl ?_
  have h_11 : w9 134 = .inr (12, [vI (g 0), vI (g 1), vI (g 2), vI (g 3), vI (g 4), vI (g 5), vI (g 6), vI (g 7), vI (g 8), .ref (kad G 135), .ref (kad G 136), .ref (kad G 137)]) := (hf9 134 (by omega)).trans h_8
  refine k_getN hC fd_L_44 (kl2 hM (by decide)) h_11 rfl dL_tell_49 ?_
  have h_13 : w9 0 = .inr (11, [.ref (kad G 1), .ref (kad G 32), .ref (kad G 3), .ref (kad G 37), vI sv, .ref (kad G 44), .ref (kad G 10), .ref (kad G 116), .ref (kad G 129), .ref (kad G 132)]) := (hf9 0 (by omega)).trans h_10
  refine k_callS hC (c_L_with l hls G hM w9 fl ([] ++ stW 8 ++ sgL (g 3) ++ stW 24 ++ sgL (g 4) ++ stW 25 ++ sgL (g 5) ++ stW 26 ++ sgL (g 6)) sv 27 (g 7) (by decide) (by omega) (by (try simp only [List.length_append, List.length_cons, List.length_nil, List.length_replicate, List.length_map, List.length_range, stW_len, nmL_len]); omega) hS9 h_13) yy_L_with wm_L_97 rfl rfl (Nat.le_of_ble_eq_true rfl) (by decide) (by decide) ⟨by decide, by decide⟩ dL_tell_52 (fun v12 w12 fl12 hp12 => ?_)
  obtain ⟨q1, q2, hS12, hf12⟩ := hp12
  subst q1
  subst q2
  show KW p l e R s m args below meth c 4 G Q w12 fl 0 0 55 [(0, .ref (kad G 0)), (1, .ref (kad G 133)), (2, .ref (kad G 134))] []
  refine k_aload_n hC dL_tell_55 rfl 0 rfl ?_
  refine k_aload_n hC dL_tell_56 rfl 1 rfl ?_
  refine k_ldcs hC (List.mem_of_getElem? (i := 24) rfl) dL_tell_57 ?_
  refine k_aload_n hC dL_tell_59 rfl 2 rfl ?_
  have h_14 : w12 134 = .inr (12, [vI (g 0), vI (g 1), vI (g 2), vI (g 3), vI (g 4), vI (g 5), vI (g 6), vI (g 7), vI (g 8), .ref (kad G 135), .ref (kad G 136), .ref (kad G 137)]) := (hf12 134 (by omega)).trans h_11
  refine k_getN hC fd_L_47 (kl2 hM (by decide)) h_14 rfl dL_tell_60 ?_
  have h_16 : w12 0 = .inr (11, [.ref (kad G 1), .ref (kad G 32), .ref (kad G 3), .ref (kad G 37), vI sv, .ref (kad G 44), .ref (kad G 10), .ref (kad G 116), .ref (kad G 129), .ref (kad G 132)]) := (hf12 0 (by omega)).trans h_13
  refine k_callS hC (c_L_with l hls G hM w12 fl ([] ++ stW 8 ++ sgL (g 3) ++ stW 24 ++ sgL (g 4) ++ stW 25 ++ sgL (g 5) ++ stW 26 ++ sgL (g 6) ++ stW 27 ++ sgL (g 7)) sv 24 (g 8) (by decide) (by omega) (by (try simp only [List.length_append, List.length_cons, List.length_nil, List.length_replicate, List.length_map, List.length_range, stW_len, nmL_len]); omega) hS12 h_16) yy_L_with wm_L_97 rfl rfl (Nat.le_of_ble_eq_true rfl) (by decide) (by decide) ⟨by decide, by decide⟩ dL_tell_63 (fun v15 w15 fl15 hp15 => ?_)
  obtain ⟨q1, q2, hS15, hf15⟩ := hp15
  subst q1
  subst q2
  show KW p l e R s m args below meth c 4 G Q w15 fl 0 0 66 [(0, .ref (kad G 0)), (1, .ref (kad G 133)), (2, .ref (kad G 134))] []
  refine k_aload_n hC dL_tell_66 rfl 0 rfl ?_
  refine k_aload_n hC dL_tell_67 rfl 1 rfl ?_
  refine k_bipush hC dL_tell_68 (by decide) ?_
  have h_18 : w15 0 = .inr (11, [.ref (kad G 1), .ref (kad G 32), .ref (kad G 3), .ref (kad G 37), vI sv, .ref (kad G 44), .ref (kad G 10), .ref (kad G 116), .ref (kad G 129), .ref (kad G 132)]) := (hf15 0 (by omega)).trans h_16
  refine k_callS hC (c_L_add l hls G hM w15 fl ([] ++ stW 8 ++ sgL (g 3) ++ stW 24 ++ sgL (g 4) ++ stW 25 ++ sgL (g 5) ++ stW 26 ++ sgL (g 6) ++ stW 27 ++ sgL (g 7) ++ stW 24 ++ sgL (g 8)) 59 sv hS15 (by (try simp only [List.length_append, List.length_cons, List.length_nil, List.length_replicate, List.length_map, List.length_range, stW_len, nmL_len]); omega) (by decide) h_18) yy_L_add wm_L_14 rfl rfl (Nat.le_of_ble_eq_true rfl) (by decide) (by decide) ⟨by decide, by decide⟩ dL_tell_70 (fun v17 w17 fl17 hp17 => ?_)
  obtain ⟨q1, q2, hS17, hf17⟩ := hp17
  subst q1
  subst q2
  show KW p l e R s m args below meth c 4 G Q w17 fl 0 0 73 [(0, .ref (kad G 0)), (1, .ref (kad G 133)), (2, .ref (kad G 134))] []
  refine k_iconst hC dL_tell_73 ?_
  refine k_istore_n hC [(3, vI 0), (0, .ref (kad G 0)), (1, .ref (kad G 133)), (2, .ref (kad G 134))] dL_tell_74 rfl (by decide) rfl ?_
  have loop1 : ∀ (n1 : Nat) (k : Nat) (u1 : Nat → va_E), ((g 0).toNat < n1 + k) → ((k : Int) ≤ g 0) → (saR G u1 (hdT g ++ clN (bT g) k)) → (u1 0 = .inr (11, [.ref (kad G 1), .ref (kad G 32), .ref (kad G 3), .ref (kad G 37), vI sv, .ref (kad G 44), .ref (kad G 10), .ref (kad G 116), .ref (kad G 129), .ref (kad G 132)])) → (u1 134 = .inr (12, [vI (g 0), vI (g 1), vI (g 2), vI (g 3), vI (g 4), vI (g 5), vI (g 6), vI (g 7), vI (g 8), .ref (kad G 135), .ref (kad G 136), .ref (kad G 137)])) → (u1 135 = rA G 6 6 F5) → (u1 136 = rA G 6 8 F6) → (u1 137 = rA G 6 12 F7) → ((∀ j, (j ≠ 1 ∧ j ≠ 2 ∧ j ≠ 133) → u1 j = w j)) → KW p l e R s m args below meth c 4 G Q u1 fl 0 0 75 [(3, vI (k : Int)), (0, .ref (kad G 0)), (1, .ref (kad G 133)), (2, .ref (kad G 134))] [] := by
    intro n1
    induction n1 with
    | zero =>
      intro k u1 hn_1 hk1 hSx1 h0x h4x h5x h6x h7x hfr1
      exact absurd hn_1 (by omega)
    | succ n1 ih1 =>
      intro k u1 hn_1 hk1 hSx1 h0x h4x h5x h6x h7x hfr1
      have hb9 := hbl k (by omega)
      have ha1 := sgL_len (g (9 + 4 * k))
      have ha2 := sgL_len (g (10 + 4 * k))
      refine k_iload_n hC dL_tell_75 rfl 0 rfl ?_
      refine k_aload_n hC dL_tell_76 rfl 3 rfl ?_
      refine k_getN hC fd_L_50 (kl2 hM (by decide)) h4x rfl dL_tell_77 ?_
      refine k_icmp_ge hC 140 dL_tell_80 rfl (by omega) (by omega) (fun c_80 => ?_) (fun c_80 => ?_)
      · refine k_iconst hC dL_tell_140 ?_
        refine k_istore_n hC [(3, vI 0), (0, .ref (kad G 0)), (1, .ref (kad G 133)), (2, .ref (kad G 134))] dL_tell_141 rfl (by decide) rfl ?_
        have loop2 : ∀ (n2 : Nat) (k : Nat) (u2 : Nat → va_E), ((g 1).toNat < n2 + k) → ((k : Int) ≤ g 1) → (saR G u2 (hdT g ++ clN (bT g) (g 0).toNat ++ clN (lT g) k)) → (u2 0 = .inr (11, [.ref (kad G 1), .ref (kad G 32), .ref (kad G 3), .ref (kad G 37), vI sv, .ref (kad G 44), .ref (kad G 10), .ref (kad G 116), .ref (kad G 129), .ref (kad G 132)])) → (u2 134 = .inr (12, [vI (g 0), vI (g 1), vI (g 2), vI (g 3), vI (g 4), vI (g 5), vI (g 6), vI (g 7), vI (g 8), .ref (kad G 135), .ref (kad G 136), .ref (kad G 137)])) → (u2 135 = rA G 6 6 F5) → (u2 136 = rA G 6 8 F6) → (u2 137 = rA G 6 12 F7) → ((∀ j, (j ≠ 1 ∧ j ≠ 2 ∧ j ≠ 133) → u2 j = w j)) → KW p l e R s m args below meth c 4 G Q u2 fl 0 0 142 [(3, vI (k : Int)), (0, .ref (kad G 0)), (1, .ref (kad G 133)), (2, .ref (kad G 134))] [] := by
          intro n2
          induction n2 with
          | zero =>
            intro k u2 hn_2 hk2 hSx2 h0x h4x h5x h6x h7x hfr2
            exact absurd hn_2 (by omega)
          | succ n2 ih2 =>
            intro k u2 hn_2 hk2 hSx2 h0x h4x h5x h6x h7x hfr2
            have hb9 := hbl (g 0).toNat (by omega)
            have hb8 := hll k
            have ha1 := sgL_len (g (33 + 3 * k))
            have ha2 := sgL_len (g (34 + 3 * k))
            have ha3 := sgL_len (g (35 + 3 * k))
            refine k_iload_n hC dL_tell_142 rfl 0 rfl ?_
            refine k_aload_n hC dL_tell_143 rfl 3 rfl ?_
            refine k_getN hC fd_L_57 (kl2 hM (by decide)) h4x rfl dL_tell_144 ?_
            refine k_icmp_ge hC 208 dL_tell_147 rfl (by omega) (by omega) (fun c_147 => ?_) (fun c_147 => ?_)
            · refine k_iconst hC dL_tell_208 ?_
              refine k_istore_n hC [(3, vI 0), (0, .ref (kad G 0)), (1, .ref (kad G 133)), (2, .ref (kad G 134))] dL_tell_209 rfl (by decide) rfl ?_
              have loop3 : ∀ (n3 : Nat) (k : Nat) (u3 : Nat → va_E), ((g 2).toNat < n3 + k) → ((k : Int) ≤ g 2) → (saR G u3 (hdT g ++ clN (bT g) (g 0).toNat ++ clN (lT g) (g 1).toNat ++ clN (sT g) k)) → (u3 0 = .inr (11, [.ref (kad G 1), .ref (kad G 32), .ref (kad G 3), .ref (kad G 37), vI sv, .ref (kad G 44), .ref (kad G 10), .ref (kad G 116), .ref (kad G 129), .ref (kad G 132)])) → (u3 134 = .inr (12, [vI (g 0), vI (g 1), vI (g 2), vI (g 3), vI (g 4), vI (g 5), vI (g 6), vI (g 7), vI (g 8), .ref (kad G 135), .ref (kad G 136), .ref (kad G 137)])) → (u3 135 = rA G 6 6 F5) → (u3 136 = rA G 6 8 F6) → (u3 137 = rA G 6 12 F7) → ((∀ j, (j ≠ 1 ∧ j ≠ 2 ∧ j ≠ 133) → u3 j = w j)) → KW p l e R s m args below meth c 4 G Q u3 fl 0 0 210 [(3, vI (k : Int)), (0, .ref (kad G 0)), (1, .ref (kad G 133)), (2, .ref (kad G 134))] [] := by
                intro n3
                induction n3 with
                | zero =>
                  intro k u3 hn_3 hk3 hSx3 h0x h4x h5x h6x h7x hfr3
                  exact absurd hn_3 (by omega)
                | succ n3 ih3 =>
                  intro k u3 hn_3 hk3 hSx3 h0x h4x h5x h6x h7x hfr3
                  have hb9 := hbl (g 0).toNat (by omega)
                  have hb8 := hll (g 1).toNat
                  have hb7 := hsn k (by omega)
                  have ha2 := sgL_len (g (58 + 3 * k))
                  have ha3 := sgL_len (g (59 + 3 * k))
                  refine k_iload_n hC dL_tell_210 rfl 0 rfl ?_
                  refine k_aload_n hC dL_tell_211 rfl 3 rfl ?_
                  refine k_getN hC fd_L_63 (kl2 hM (by decide)) h4x rfl dL_tell_212 ?_
                  refine k_icmp_ge hC 282 dL_tell_215 rfl (by omega) (by omega) (fun c_215 => ?_) (fun c_215 => ?_)
                  · have hSf : saR G u3 (tlT g) := hSx3.eq (by unfold tlT; rw [show (g 2).toNat = k by omega])
                    have htl : (tlT g).length ≤ 680 := by unfold tlT; rw [show (g 2).toNat = k by omega]; simp only [List.length_append]; omega
                    refine k_aload_n hC dL_tell_282 rfl 1 rfl ?_
                    refine k_aload_n hC dL_tell_283 rfl 1 rfl ?_
                    refine k_aload_n hC dL_tell_284 rfl 2 rfl ?_
                    refine k_callS hC (c_L_end l hls G hM u3 fl (tlT g) sv (by (try simp only [List.length_append, List.length_cons, List.length_nil, List.length_replicate, List.length_map, List.length_range, stW_len, nmL_len]); omega) hSf h0x) yy_L_end wm_L_119 rfl rfl (Nat.le_of_ble_eq_true rfl) (by decide) (by decide) ⟨by decide, by decide⟩ dL_tell_285 (fun v19 w19 fl19 hp19 => ?_)
                    obtain ⟨q1, q2, hE19, hf19⟩ := hp19
                    subst q1
                    subst q2
                    show KW p l e R s m args below meth c 4 G Q w19 fl 0 0 288 [(3, vI (k : Int)), (0, .ref (kad G 0)), (1, .ref (kad G 133)), (2, .ref (kad G 134))] [vI ((tlT g).length : Int), .ref (kad G 0)]
                    have hfr9 : ∀ j, (j ≠ 1 ∧ j ≠ 2 ∧ j ≠ 133) → w19 j = w j := fun j hj => (hf19 j (by omega)).trans (hfr3 j (by omega))
                    have h_21 : w19 0 = .inr (11, [.ref (kad G 1), .ref (kad G 32), .ref (kad G 3), .ref (kad G 37), vI sv, .ref (kad G 44), .ref (kad G 10), .ref (kad G 116), .ref (kad G 129), .ref (kad G 132)]) := (hf19 0 (by omega)).trans h0x
                    obtain ⟨z133, c0, bt, cd, ea, kd, nm, sa, nx, en, hlc, hc7, z1, z2, hbk, hbt⟩ := hE19
                    have hat : atT bt (tlT g).length 0 (tlT g) := ⟨Nat.zero_add _, fun j hj => by rw [Nat.zero_add]; exact hbt j hj⟩
                    obtain ⟨hz0, hgE⟩ := ld_all hI hg4 (by omega) hat
                    refine k_callV hC (KM_ofX (c_X11_load l hls G hN w19 fl bt c0 cd ea kd nm sa nx en sv ((tlT g).length : Int) (tlT g).length g0 nl0 gp0 gl0 nl9 hs nx9 cn9 (by omega) rfl hc7 hbk h_21 z2 ((hfr9 116 (by decide)).trans h116) (hLg.fr (fun j q1 q2 => hfr9 j (by omega))) (hP0.fr (fun j q1 q2 => hfr9 j (by omega))) (hP2.fr (fun j q1 q2 => hfr9 j (by omega))) (hL2.fr (fun j q1 q2 => hfr9 j (by omega))) (hHi.fr (fun j q1 q2 => hfr9 j (by omega))) z1) (kTh_no (by omega))) yy_X11_load wm_L_123 (kl hN (by decide)) h_21 rfl rfl rfl rfl (Nat.le_of_ble_eq_true rfl) (by decide) (by decide) ⟨by decide, by decide⟩ dL_tell_288 (fun v20 w20 fl20 hp20 => ?_)
                    obtain ⟨-, q1, q2, hT9, gp1, gl1, nl1, k117, k122, hor⟩ := hp20
                    subst q1
                    subst q2
                    obtain ⟨-, ⟨kE, -⟩, k0, k32, k3, kh, kf⟩ := hor.resolve_left (fun q => q.1 hz0)
                    obtain ⟨cn1, ea1, kd1, nm1, sa1, nx1, k1, k1c, -⟩ := hT9
                    subst k1c
                    refine k_topv (vI (g 2)) (congrArg vI ((selI_1 hz0).trans (hgE.1 2 (by decide)))) ?_
                    show KW p l e R s m args below meth c 4 G Q w20 fl 8 48 291 [(3, vI (k : Int)), (0, .ref (kad G 0)), (1, .ref (kad G 133)), (2, .ref (kad G 134))] [vI (g 2)]
                    have hgE2 := kE.tr hgE
                    subst hQ
                    exact k_iret hC hr ⟨by decide, by decide⟩ (⟨rfl, rfl, sa_new ((kf 133 (by omega)).trans z133) k1 ((kf 2 (by omega)).trans z2) hbk, k0, ⟨gp1, gl1, nl1, k117, k122⟩, ⟨copyLM gp1 gl1, nl1, hgE2, hgE2.sy.inv hI, k3.cg (fun j hj => by rw [copyLM_l hj, copyLM_l hj]), k32.cg (fun j hj => copyLM_p (by omega))⟩, kh, fun j hj => (kf j (by omega)).trans (hfr9 j (by omega))⟩) dL_tell_291
                  · have hbs := hI.sight k (by omega)
                    have hbd := hI.body (g (57 + 3 * k)).toNat (by omega)
                    refine k_aload_n hC dL_tell_218 rfl 1 rfl ?_
                    refine k_aload_n hC dL_tell_219 rfl 2 rfl ?_
                    refine k_ldcs hC (List.mem_of_getElem? (i := 42) rfl) dL_tell_220 ?_
                    refine k_callS hC (c_L_word l hls G hM u3 fl (hdT g ++ clN (bT g) (g 0).toNat ++ clN (lT g) (g 1).toNat ++ clN (sT g) k) sv 40 (by decide) (by (try simp only [List.length_append, List.length_cons, List.length_nil, List.length_replicate, List.length_map, List.length_range, stW_len, nmL_len]); omega) hSx3 h0x) yy_L_word wm_L_82 rfl rfl (Nat.le_of_ble_eq_true rfl) (by decide) (by decide) ⟨by decide, by decide⟩ dL_tell_222 (fun v22 w22 fl22 hp22 => ?_)
                    obtain ⟨q1, q2, hS22, hf22⟩ := hp22
                    subst q1
                    subst q2
                    show KW p l e R s m args below meth c 4 G Q w22 fl 0 0 225 [(3, vI (k : Int)), (0, .ref (kad G 0)), (1, .ref (kad G 133)), (2, .ref (kad G 134))] []
                    refine k_aload_n hC dL_tell_225 rfl 1 rfl ?_
                    refine k_aload_n hC dL_tell_226 rfl 2 rfl ?_
                    refine k_aload_n hC dL_tell_227 rfl 3 rfl ?_
                    refine k_aload_n hC dL_tell_228 rfl 3 rfl ?_
                    have h_23 : w22 134 = .inr (12, [vI (g 0), vI (g 1), vI (g 2), vI (g 3), vI (g 4), vI (g 5), vI (g 6), vI (g 7), vI (g 8), .ref (kad G 135), .ref (kad G 136), .ref (kad G 137)]) := (hf22 134 (by omega)).trans h4x
                    refine k_getN hC fd_L_66 (kl2 hM (by decide)) h_23 rfl dL_tell_229 ?_
                    refine k_iload_n hC dL_tell_232 rfl 0 rfl ?_
                    have h_24 : w22 137 = rA G 6 12 F7 := (hf22 137 (by omega)).trans h7x
                    obtain ⟨q25, j25, f25, hq25, hj25, ha25, hb25, hc25⟩ := hF7 k (by omega)
                    refine k_aaldA hC (v := .ref q25) (kl2 hM (by decide)) h_24 (by omega) (by decide) (congrArg va_rf hq25) dL_tell_233 ?_
                    refine k_iconst hC dL_tell_234 ?_
                    refine k_ialdF hC j25 hj25 (by decide) (by decide) dL_tell_235 ?_
                    refine k_topv (vI (g (57 + 3 * k))) (congrArg vI ha25) ?_
                    refine k_topv (vI ((((g (57 + 3 * k)).toNat : Nat) : Int))) (congrArg vI (by omega)) ?_
                    have h_27 : w22 135 = rA G 6 6 F5 := (hf22 135 (by omega)).trans h5x
                    have h_28 : w22 136 = rA G 6 8 F6 := (hf22 136 (by omega)).trans h6x
                    have h_29 : w22 0 = .inr (11, [.ref (kad G 1), .ref (kad G 32), .ref (kad G 3), .ref (kad G 37), vI sv, .ref (kad G 44), .ref (kad G 10), .ref (kad G 116), .ref (kad G 129), .ref (kad G 132)]) := (hf22 0 (by omega)).trans h0x
                    refine k_callS hC (c_L_name l hls G hM w22 fl (hdT g ++ clN (bT g) (g 0).toNat ++ clN (lT g) (g 1).toNat ++ clN (sT g) k ++ stW 40) sv g ((g (57 + 3 * k)).toNat) hI (by omega) (by (try simp only [List.length_append, List.length_cons, List.length_nil, List.length_replicate, List.length_map, List.length_range, stW_len, nmL_len]); omega) ⟨h_23, ⟨F5, h_27, hF5⟩, ⟨F6, h_28, hF6⟩, F7, h_24, hF7⟩ hS22 h_29) yy_L_name wm_L_111 rfl rfl (Nat.le_of_ble_eq_true rfl) (by decide) (by decide) ⟨by decide, by decide⟩ dL_tell_236 (fun v26 w26 fl26 hp26 => ?_)
                    obtain ⟨q1, q2, hS26, hf26⟩ := hp26
                    subst q1
                    subst q2
                    show KW p l e R s m args below meth c 4 G Q w26 fl 0 0 239 [(3, vI (k : Int)), (0, .ref (kad G 0)), (1, .ref (kad G 133)), (2, .ref (kad G 134))] []
                    refine k_aload_n hC dL_tell_239 rfl 1 rfl ?_
                    refine k_aload_n hC dL_tell_240 rfl 2 rfl ?_
                    refine k_ldcs hC (List.mem_of_getElem? (i := 24) rfl) dL_tell_241 ?_
                    refine k_aload_n hC dL_tell_243 rfl 3 rfl ?_
                    have h_30 : w26 134 = .inr (12, [vI (g 0), vI (g 1), vI (g 2), vI (g 3), vI (g 4), vI (g 5), vI (g 6), vI (g 7), vI (g 8), .ref (kad G 135), .ref (kad G 136), .ref (kad G 137)]) := (hf26 134 (by omega)).trans h_23
                    refine k_getN hC fd_L_66 (kl2 hM (by decide)) h_30 rfl dL_tell_244 ?_
                    refine k_iload_n hC dL_tell_247 rfl 0 rfl ?_
                    have h_31 : w26 137 = rA G 6 12 F7 := (hf26 137 (by omega)).trans h_24
                    obtain ⟨q32, j32, f32, hq32, hj32, ha32, hb32, hc32⟩ := hF7 k (by omega)
                    refine k_aaldA hC (v := .ref q32) (kl2 hM (by decide)) h_31 (by omega) (by decide) (congrArg va_rf hq32) dL_tell_248 ?_
                    refine k_iconst hC dL_tell_249 ?_
                    refine k_ialdF hC j32 hj32 (by decide) (by decide) dL_tell_250 ?_
                    refine k_topv (vI (g (58 + 3 * k))) (congrArg vI hb32) ?_
                    have h_34 : w26 0 = .inr (11, [.ref (kad G 1), .ref (kad G 32), .ref (kad G 3), .ref (kad G 37), vI sv, .ref (kad G 44), .ref (kad G 10), .ref (kad G 116), .ref (kad G 129), .ref (kad G 132)]) := (hf26 0 (by omega)).trans h_29
                    refine k_callS hC (c_L_with l hls G hM w26 fl (hdT g ++ clN (bT g) (g 0).toNat ++ clN (lT g) (g 1).toNat ++ clN (sT g) k ++ stW 40 ++ nmL ((g (57 + 3 * k)).toNat) (g (11 + 4 * (g (57 + 3 * k)).toNat)).toNat) sv 24 (g (58 + 3 * k)) (by decide) (by omega) (by (try simp only [List.length_append, List.length_cons, List.length_nil, List.length_replicate, List.length_map, List.length_range, stW_len, nmL_len]); omega) hS26 h_34) yy_L_with wm_L_97 rfl rfl (Nat.le_of_ble_eq_true rfl) (by decide) (by decide) ⟨by decide, by decide⟩ dL_tell_251 (fun v33 w33 fl33 hp33 => ?_)
                    obtain ⟨q1, q2, hS33, hf33⟩ := hp33
                    subst q1
                    subst q2
                    show KW p l e R s m args below meth c 4 G Q w33 fl 0 0 254 [(3, vI (k : Int)), (0, .ref (kad G 0)), (1, .ref (kad G 133)), (2, .ref (kad G 134))] []
                    refine k_aload_n hC dL_tell_254 rfl 1 rfl ?_
                    refine k_aload_n hC dL_tell_255 rfl 2 rfl ?_
                    refine k_ldcs hC (List.mem_of_getElem? (i := 24) rfl) dL_tell_256 ?_
                    refine k_aload_n hC dL_tell_258 rfl 3 rfl ?_
                    have h_35 : w33 134 = .inr (12, [vI (g 0), vI (g 1), vI (g 2), vI (g 3), vI (g 4), vI (g 5), vI (g 6), vI (g 7), vI (g 8), .ref (kad G 135), .ref (kad G 136), .ref (kad G 137)]) := (hf33 134 (by omega)).trans h_30
                    refine k_getN hC fd_L_66 (kl2 hM (by decide)) h_35 rfl dL_tell_259 ?_
                    refine k_iload_n hC dL_tell_262 rfl 0 rfl ?_
                    have h_36 : w33 137 = rA G 6 12 F7 := (hf33 137 (by omega)).trans h_31
                    obtain ⟨q37, j37, f37, hq37, hj37, ha37, hb37, hc37⟩ := hF7 k (by omega)
                    refine k_aaldA hC (v := .ref q37) (kl2 hM (by decide)) h_36 (by omega) (by decide) (congrArg va_rf hq37) dL_tell_263 ?_
                    refine k_iconst hC dL_tell_264 ?_
                    refine k_ialdF hC j37 hj37 (by decide) (by decide) dL_tell_265 ?_
                    refine k_topv (vI (g (59 + 3 * k))) (congrArg vI hc37) ?_
                    have h_39 : w33 0 = .inr (11, [.ref (kad G 1), .ref (kad G 32), .ref (kad G 3), .ref (kad G 37), vI sv, .ref (kad G 44), .ref (kad G 10), .ref (kad G 116), .ref (kad G 129), .ref (kad G 132)]) := (hf33 0 (by omega)).trans h_34
                    refine k_callS hC (c_L_with l hls G hM w33 fl (hdT g ++ clN (bT g) (g 0).toNat ++ clN (lT g) (g 1).toNat ++ clN (sT g) k ++ stW 40 ++ nmL ((g (57 + 3 * k)).toNat) (g (11 + 4 * (g (57 + 3 * k)).toNat)).toNat ++ stW 24 ++ sgL (g (58 + 3 * k))) sv 24 (g (59 + 3 * k)) (by decide) (by omega) (by (try simp only [List.length_append, List.length_cons, List.length_nil, List.length_replicate, List.length_map, List.length_range, stW_len, nmL_len]); omega) hS33 h_39) yy_L_with wm_L_97 rfl rfl (Nat.le_of_ble_eq_true rfl) (by decide) (by decide) ⟨by decide, by decide⟩ dL_tell_266 (fun v38 w38 fl38 hp38 => ?_)
                    obtain ⟨q1, q2, hS38, hf38⟩ := hp38
                    subst q1
                    subst q2
                    show KW p l e R s m args below meth c 4 G Q w38 fl 0 0 269 [(3, vI (k : Int)), (0, .ref (kad G 0)), (1, .ref (kad G 133)), (2, .ref (kad G 134))] []
                    refine k_aload_n hC dL_tell_269 rfl 1 rfl ?_
                    refine k_aload_n hC dL_tell_270 rfl 2 rfl ?_
                    refine k_bipush hC dL_tell_271 (by decide) ?_
                    have h_41 : w38 0 = .inr (11, [.ref (kad G 1), .ref (kad G 32), .ref (kad G 3), .ref (kad G 37), vI sv, .ref (kad G 44), .ref (kad G 10), .ref (kad G 116), .ref (kad G 129), .ref (kad G 132)]) := (hf38 0 (by omega)).trans h_39
                    refine k_callS hC (c_L_add l hls G hM w38 fl (hdT g ++ clN (bT g) (g 0).toNat ++ clN (lT g) (g 1).toNat ++ clN (sT g) k ++ stW 40 ++ nmL ((g (57 + 3 * k)).toNat) (g (11 + 4 * (g (57 + 3 * k)).toNat)).toNat ++ stW 24 ++ sgL (g (58 + 3 * k)) ++ stW 24 ++ sgL (g (59 + 3 * k))) 59 sv hS38 (by (try simp only [List.length_append, List.length_cons, List.length_nil, List.length_replicate, List.length_map, List.length_range, stW_len, nmL_len]); omega) (by decide) h_41) yy_L_add wm_L_14 rfl rfl (Nat.le_of_ble_eq_true rfl) (by decide) (by decide) ⟨by decide, by decide⟩ dL_tell_273 (fun v40 w40 fl40 hp40 => ?_)
                    obtain ⟨q1, q2, hS40, hf40⟩ := hp40
                    subst q1
                    subst q2
                    show KW p l e R s m args below meth c 4 G Q w40 fl 0 0 276 [(3, vI (k : Int)), (0, .ref (kad G 0)), (1, .ref (kad G 133)), (2, .ref (kad G 134))] []
                    refine k_iinc hC (y := (k : Int) + 1) [(3, vI ((k : Int) + 1)), (0, .ref (kad G 0)), (1, .ref (kad G 133)), (2, .ref (kad G 134))] (j := 0) dL_tell_276 rfl (by omega) (by decide) rfl ?_
                    refine k_goto hC 210 dL_tell_279 rfl ?_
                    refine k_lvs (ls := [0, 1, 2, 3]) [(3, vI ((k + 1 : Nat) : Int)), (0, .ref (kad G 0)), (1, .ref (kad G 133)), (2, .ref (kad G 134))] (by simp only [lv_pick]; rfl) ?_
                    have h_42 : w40 0 = .inr (11, [.ref (kad G 1), .ref (kad G 32), .ref (kad G 3), .ref (kad G 37), vI sv, .ref (kad G 44), .ref (kad G 10), .ref (kad G 116), .ref (kad G 129), .ref (kad G 132)]) := (hf40 0 (by omega)).trans h_41
                    have h_43 : w40 134 = .inr (12, [vI (g 0), vI (g 1), vI (g 2), vI (g 3), vI (g 4), vI (g 5), vI (g 6), vI (g 7), vI (g 8), .ref (kad G 135), .ref (kad G 136), .ref (kad G 137)]) := (hf40 134 (by omega)).trans ((hf38 134 (by omega)).trans h_35)
                    have h_44 : w40 135 = rA G 6 6 F5 := (hf40 135 (by omega)).trans ((hf38 135 (by omega)).trans ((hf33 135 (by omega)).trans ((hf26 135 (by omega)).trans h_27)))
                    have h_45 : w40 136 = rA G 6 8 F6 := (hf40 136 (by omega)).trans ((hf38 136 (by omega)).trans ((hf33 136 (by omega)).trans ((hf26 136 (by omega)).trans h_28)))
                    have h_46 : w40 137 = rA G 6 12 F7 := (hf40 137 (by omega)).trans ((hf38 137 (by omega)).trans h_36)
                    exact ih3 (k + 1) w40 (by omega) (by omega) (hS40.eq (by show _ = hdT g ++ clN (bT g) (g 0).toNat ++ clN (lT g) (g 1).toNat ++ (clN (sT g) k ++ sT g k); unfold sT; simp only [List.append_assoc, List.cons_append, List.nil_append])) h_42 h_43 h_44 h_45 h_46 (fun j hj => (hf40 j (by omega)).trans ((hf38 j (by omega)).trans ((hf33 j (by omega)).trans ((hf26 j (by omega)).trans ((hf22 j (by omega)).trans (hfr3 j (by omega)))))))
              refine k_lvs (ls := [0, 1, 2, 3]) [(3, vI ((0 : Nat) : Int)), (0, .ref (kad G 0)), (1, .ref (kad G 133)), (2, .ref (kad G 134))] (by simp only [lv_pick]; rfl) ?_
              exact loop3 13 0 u2 (by omega) (by omega) (hSx2.eq (by rw [show k = (g 1).toNat by omega]; exact (List.append_nil _).symm)) h0x h4x h5x h6x h7x (fun j hj => hfr2 j (by omega))
            · have hbd := hI.leg k (by omega)
              refine k_aload_n hC dL_tell_150 rfl 1 rfl ?_
              refine k_aload_n hC dL_tell_151 rfl 2 rfl ?_
              refine k_ldcs hC (List.mem_of_getElem? (i := 41) rfl) dL_tell_152 ?_
              refine k_aload_n hC dL_tell_154 rfl 3 rfl ?_
              refine k_getN hC fd_L_60 (kl2 hM (by decide)) h4x rfl dL_tell_155 ?_
              refine k_iload_n hC dL_tell_158 rfl 0 rfl ?_
              obtain ⟨q47, j47, f47, hq47, hj47, ha47, hb47, hc47⟩ := hF6 k (by omega)
              refine k_aaldA hC (v := .ref q47) (kl2 hM (by decide)) h6x (by omega) (by decide) (congrArg va_rf hq47) dL_tell_159 ?_
              refine k_iconst hC dL_tell_160 ?_
              refine k_ialdF hC j47 hj47 (by decide) (by decide) dL_tell_161 ?_
              refine k_topv (vI (g (33 + 3 * k))) (congrArg vI ha47) ?_
              refine k_callS hC (c_L_with l hls G hM u2 fl (hdT g ++ clN (bT g) (g 0).toNat ++ clN (lT g) k) sv 39 (g (33 + 3 * k)) (by decide) (by omega) (by (try simp only [List.length_append, List.length_cons, List.length_nil, List.length_replicate, List.length_map, List.length_range, stW_len, nmL_len]); omega) hSx2 h0x) yy_L_with wm_L_97 rfl rfl (Nat.le_of_ble_eq_true rfl) (by decide) (by decide) ⟨by decide, by decide⟩ dL_tell_162 (fun v48 w48 fl48 hp48 => ?_)
              obtain ⟨q1, q2, hS48, hf48⟩ := hp48
              subst q1
              subst q2
              show KW p l e R s m args below meth c 4 G Q w48 fl 0 0 165 [(3, vI (k : Int)), (0, .ref (kad G 0)), (1, .ref (kad G 133)), (2, .ref (kad G 134))] []
              refine k_aload_n hC dL_tell_165 rfl 1 rfl ?_
              refine k_aload_n hC dL_tell_166 rfl 2 rfl ?_
              refine k_ldcs hC (List.mem_of_getElem? (i := 24) rfl) dL_tell_167 ?_
              refine k_aload_n hC dL_tell_169 rfl 3 rfl ?_
              have h_49 : w48 134 = .inr (12, [vI (g 0), vI (g 1), vI (g 2), vI (g 3), vI (g 4), vI (g 5), vI (g 6), vI (g 7), vI (g 8), .ref (kad G 135), .ref (kad G 136), .ref (kad G 137)]) := (hf48 134 (by omega)).trans h4x
              refine k_getN hC fd_L_60 (kl2 hM (by decide)) h_49 rfl dL_tell_170 ?_
              refine k_iload_n hC dL_tell_173 rfl 0 rfl ?_
              have h_50 : w48 136 = rA G 6 8 F6 := (hf48 136 (by omega)).trans h6x
              obtain ⟨q51, j51, f51, hq51, hj51, ha51, hb51, hc51⟩ := hF6 k (by omega)
              refine k_aaldA hC (v := .ref q51) (kl2 hM (by decide)) h_50 (by omega) (by decide) (congrArg va_rf hq51) dL_tell_174 ?_
              refine k_iconst hC dL_tell_175 ?_
              refine k_ialdF hC j51 hj51 (by decide) (by decide) dL_tell_176 ?_
              refine k_topv (vI (g (34 + 3 * k))) (congrArg vI hb51) ?_
              have h_53 : w48 0 = .inr (11, [.ref (kad G 1), .ref (kad G 32), .ref (kad G 3), .ref (kad G 37), vI sv, .ref (kad G 44), .ref (kad G 10), .ref (kad G 116), .ref (kad G 129), .ref (kad G 132)]) := (hf48 0 (by omega)).trans h0x
              refine k_callS hC (c_L_with l hls G hM w48 fl (hdT g ++ clN (bT g) (g 0).toNat ++ clN (lT g) k ++ stW 39 ++ sgL (g (33 + 3 * k))) sv 24 (g (34 + 3 * k)) (by decide) (by omega) (by (try simp only [List.length_append, List.length_cons, List.length_nil, List.length_replicate, List.length_map, List.length_range, stW_len, nmL_len]); omega) hS48 h_53) yy_L_with wm_L_97 rfl rfl (Nat.le_of_ble_eq_true rfl) (by decide) (by decide) ⟨by decide, by decide⟩ dL_tell_177 (fun v52 w52 fl52 hp52 => ?_)
              obtain ⟨q1, q2, hS52, hf52⟩ := hp52
              subst q1
              subst q2
              show KW p l e R s m args below meth c 4 G Q w52 fl 0 0 180 [(3, vI (k : Int)), (0, .ref (kad G 0)), (1, .ref (kad G 133)), (2, .ref (kad G 134))] []
              refine k_aload_n hC dL_tell_180 rfl 1 rfl ?_
              refine k_aload_n hC dL_tell_181 rfl 2 rfl ?_
              refine k_ldcs hC (List.mem_of_getElem? (i := 24) rfl) dL_tell_182 ?_
              refine k_aload_n hC dL_tell_184 rfl 3 rfl ?_
              have h_54 : w52 134 = .inr (12, [vI (g 0), vI (g 1), vI (g 2), vI (g 3), vI (g 4), vI (g 5), vI (g 6), vI (g 7), vI (g 8), .ref (kad G 135), .ref (kad G 136), .ref (kad G 137)]) := (hf52 134 (by omega)).trans h_49
              refine k_getN hC fd_L_60 (kl2 hM (by decide)) h_54 rfl dL_tell_185 ?_
              refine k_iload_n hC dL_tell_188 rfl 0 rfl ?_
              have h_55 : w52 136 = rA G 6 8 F6 := (hf52 136 (by omega)).trans h_50
              obtain ⟨q56, j56, f56, hq56, hj56, ha56, hb56, hc56⟩ := hF6 k (by omega)
              refine k_aaldA hC (v := .ref q56) (kl2 hM (by decide)) h_55 (by omega) (by decide) (congrArg va_rf hq56) dL_tell_189 ?_
              refine k_iconst hC dL_tell_190 ?_
              refine k_ialdF hC j56 hj56 (by decide) (by decide) dL_tell_191 ?_
              refine k_topv (vI (g (35 + 3 * k))) (congrArg vI hc56) ?_
              have h_58 : w52 0 = .inr (11, [.ref (kad G 1), .ref (kad G 32), .ref (kad G 3), .ref (kad G 37), vI sv, .ref (kad G 44), .ref (kad G 10), .ref (kad G 116), .ref (kad G 129), .ref (kad G 132)]) := (hf52 0 (by omega)).trans h_53
              refine k_callS hC (c_L_with l hls G hM w52 fl (hdT g ++ clN (bT g) (g 0).toNat ++ clN (lT g) k ++ stW 39 ++ sgL (g (33 + 3 * k)) ++ stW 24 ++ sgL (g (34 + 3 * k))) sv 24 (g (35 + 3 * k)) (by decide) (by omega) (by (try simp only [List.length_append, List.length_cons, List.length_nil, List.length_replicate, List.length_map, List.length_range, stW_len, nmL_len]); omega) hS52 h_58) yy_L_with wm_L_97 rfl rfl (Nat.le_of_ble_eq_true rfl) (by decide) (by decide) ⟨by decide, by decide⟩ dL_tell_192 (fun v57 w57 fl57 hp57 => ?_)
              obtain ⟨q1, q2, hS57, hf57⟩ := hp57
              subst q1
              subst q2
              show KW p l e R s m args below meth c 4 G Q w57 fl 0 0 195 [(3, vI (k : Int)), (0, .ref (kad G 0)), (1, .ref (kad G 133)), (2, .ref (kad G 134))] []
              refine k_aload_n hC dL_tell_195 rfl 1 rfl ?_
              refine k_aload_n hC dL_tell_196 rfl 2 rfl ?_
              refine k_bipush hC dL_tell_197 (by decide) ?_
              have h_60 : w57 0 = .inr (11, [.ref (kad G 1), .ref (kad G 32), .ref (kad G 3), .ref (kad G 37), vI sv, .ref (kad G 44), .ref (kad G 10), .ref (kad G 116), .ref (kad G 129), .ref (kad G 132)]) := (hf57 0 (by omega)).trans h_58
              refine k_callS hC (c_L_add l hls G hM w57 fl (hdT g ++ clN (bT g) (g 0).toNat ++ clN (lT g) k ++ stW 39 ++ sgL (g (33 + 3 * k)) ++ stW 24 ++ sgL (g (34 + 3 * k)) ++ stW 24 ++ sgL (g (35 + 3 * k))) 59 sv hS57 (by (try simp only [List.length_append, List.length_cons, List.length_nil, List.length_replicate, List.length_map, List.length_range, stW_len, nmL_len]); omega) (by decide) h_60) yy_L_add wm_L_14 rfl rfl (Nat.le_of_ble_eq_true rfl) (by decide) (by decide) ⟨by decide, by decide⟩ dL_tell_199 (fun v59 w59 fl59 hp59 => ?_)
              obtain ⟨q1, q2, hS59, hf59⟩ := hp59
              subst q1
              subst q2
              show KW p l e R s m args below meth c 4 G Q w59 fl 0 0 202 [(3, vI (k : Int)), (0, .ref (kad G 0)), (1, .ref (kad G 133)), (2, .ref (kad G 134))] []
              refine k_iinc hC (y := (k : Int) + 1) [(3, vI ((k : Int) + 1)), (0, .ref (kad G 0)), (1, .ref (kad G 133)), (2, .ref (kad G 134))] (j := 0) dL_tell_202 rfl (by omega) (by decide) rfl ?_
              refine k_goto hC 142 dL_tell_205 rfl ?_
              refine k_lvs (ls := [0, 1, 2, 3]) [(3, vI ((k + 1 : Nat) : Int)), (0, .ref (kad G 0)), (1, .ref (kad G 133)), (2, .ref (kad G 134))] (by simp only [lv_pick]; rfl) ?_
              have h_61 : w59 0 = .inr (11, [.ref (kad G 1), .ref (kad G 32), .ref (kad G 3), .ref (kad G 37), vI sv, .ref (kad G 44), .ref (kad G 10), .ref (kad G 116), .ref (kad G 129), .ref (kad G 132)]) := (hf59 0 (by omega)).trans h_60
              have h_62 : w59 134 = .inr (12, [vI (g 0), vI (g 1), vI (g 2), vI (g 3), vI (g 4), vI (g 5), vI (g 6), vI (g 7), vI (g 8), .ref (kad G 135), .ref (kad G 136), .ref (kad G 137)]) := (hf59 134 (by omega)).trans ((hf57 134 (by omega)).trans h_54)
              have h_63 : w59 135 = rA G 6 6 F5 := (hf59 135 (by omega)).trans ((hf57 135 (by omega)).trans ((hf52 135 (by omega)).trans ((hf48 135 (by omega)).trans h5x)))
              have h_64 : w59 136 = rA G 6 8 F6 := (hf59 136 (by omega)).trans ((hf57 136 (by omega)).trans h_55)
              have h_65 : w59 137 = rA G 6 12 F7 := (hf59 137 (by omega)).trans ((hf57 137 (by omega)).trans ((hf52 137 (by omega)).trans ((hf48 137 (by omega)).trans h7x)))
              exact ih2 (k + 1) w59 (by omega) (by omega) (hS59.eq (by show _ = hdT g ++ clN (bT g) (g 0).toNat ++ (clN (lT g) k ++ lT g k); unfold lT; simp only [List.append_assoc, List.cons_append, List.nil_append])) h_61 h_62 h_63 h_64 h_65 (fun j hj => (hf59 j (by omega)).trans ((hf57 j (by omega)).trans ((hf52 j (by omega)).trans ((hf48 j (by omega)).trans (hfr2 j (by omega))))))
        refine k_lvs (ls := [0, 1, 2, 3]) [(3, vI ((0 : Nat) : Int)), (0, .ref (kad G 0)), (1, .ref (kad G 133)), (2, .ref (kad G 134))] (by simp only [lv_pick]; rfl) ?_
        exact loop2 9 0 u1 (by omega) (by omega) (hSx1.eq (by rw [show k = (g 0).toNat by omega]; exact (List.append_nil _).symm)) h0x h4x h5x h6x h7x (fun j hj => hfr1 j (by omega))
      · have hbd := hI.body k (by omega)
        refine k_aload_n hC dL_tell_83 rfl 1 rfl ?_
        refine k_aload_n hC dL_tell_84 rfl 2 rfl ?_
        refine k_ldcs hC (List.mem_of_getElem? (i := 28) rfl) dL_tell_85 ?_
        refine k_callS hC (c_L_word l hls G hM u1 fl (hdT g ++ clN (bT g) k) sv 28 (by decide) (by (try simp only [List.length_append, List.length_cons, List.length_nil, List.length_replicate, List.length_map, List.length_range, stW_len, nmL_len]); omega) hSx1 h0x) yy_L_word wm_L_82 rfl rfl (Nat.le_of_ble_eq_true rfl) (by decide) (by decide) ⟨by decide, by decide⟩ dL_tell_87 (fun v66 w66 fl66 hp66 => ?_)
        obtain ⟨q1, q2, hS66, hf66⟩ := hp66
        subst q1
        subst q2
        show KW p l e R s m args below meth c 4 G Q w66 fl 0 0 90 [(3, vI (k : Int)), (0, .ref (kad G 0)), (1, .ref (kad G 133)), (2, .ref (kad G 134))] []
        refine k_aload_n hC dL_tell_90 rfl 1 rfl ?_
        refine k_aload_n hC dL_tell_91 rfl 2 rfl ?_
        refine k_aload_n hC dL_tell_92 rfl 3 rfl ?_
        refine k_iload_n hC dL_tell_93 rfl 0 rfl ?_
        have h_68 : w66 134 = .inr (12, [vI (g 0), vI (g 1), vI (g 2), vI (g 3), vI (g 4), vI (g 5), vI (g 6), vI (g 7), vI (g 8), .ref (kad G 135), .ref (kad G 136), .ref (kad G 137)]) := (hf66 134 (by omega)).trans h4x
        have h_69 : w66 135 = rA G 6 6 F5 := (hf66 135 (by omega)).trans h5x
        have h_70 : w66 136 = rA G 6 8 F6 := (hf66 136 (by omega)).trans h6x
        have h_71 : w66 137 = rA G 6 12 F7 := (hf66 137 (by omega)).trans h7x
        have h_72 : w66 0 = .inr (11, [.ref (kad G 1), .ref (kad G 32), .ref (kad G 3), .ref (kad G 37), vI sv, .ref (kad G 44), .ref (kad G 10), .ref (kad G 116), .ref (kad G 129), .ref (kad G 132)]) := (hf66 0 (by omega)).trans h0x
        refine k_callS hC (c_L_name l hls G hM w66 fl (hdT g ++ clN (bT g) k ++ stW 28) sv g k hI (by omega) (by (try simp only [List.length_append, List.length_cons, List.length_nil, List.length_replicate, List.length_map, List.length_range, stW_len, nmL_len]); omega) ⟨h_68, ⟨F5, h_69, hF5⟩, ⟨F6, h_70, hF6⟩, F7, h_71, hF7⟩ hS66 h_72) yy_L_name wm_L_111 rfl rfl (Nat.le_of_ble_eq_true rfl) (by decide) (by decide) ⟨by decide, by decide⟩ dL_tell_94 (fun v67 w67 fl67 hp67 => ?_)
        obtain ⟨q1, q2, hS67, hf67⟩ := hp67
        subst q1
        subst q2
        show KW p l e R s m args below meth c 4 G Q w67 fl 0 0 97 [(3, vI (k : Int)), (0, .ref (kad G 0)), (1, .ref (kad G 133)), (2, .ref (kad G 134))] []
        refine k_aload_n hC dL_tell_97 rfl 1 rfl ?_
        refine k_aload_n hC dL_tell_98 rfl 2 rfl ?_
        refine k_ldcs hC (List.mem_of_getElem? (i := 24) rfl) dL_tell_99 ?_
        refine k_aload_n hC dL_tell_101 rfl 3 rfl ?_
        have h_73 : w67 134 = .inr (12, [vI (g 0), vI (g 1), vI (g 2), vI (g 3), vI (g 4), vI (g 5), vI (g 6), vI (g 7), vI (g 8), .ref (kad G 135), .ref (kad G 136), .ref (kad G 137)]) := (hf67 134 (by omega)).trans h_68
        refine k_getN hC fd_L_53 (kl2 hM (by decide)) h_73 rfl dL_tell_102 ?_
        refine k_iload_n hC dL_tell_105 rfl 0 rfl ?_
        have h_74 : w67 135 = rA G 6 6 F5 := (hf67 135 (by omega)).trans h_69
        obtain ⟨q75, j75, f75, hq75, hj75, ha75, hb75, hc75⟩ := hF5 k (by omega)
        refine k_aaldA hC (v := .ref q75) (kl2 hM (by decide)) h_74 (by omega) (by decide) (congrArg va_rf hq75) dL_tell_106 ?_
        refine k_iconst hC dL_tell_107 ?_
        refine k_ialdF hC j75 hj75 (by decide) (by decide) dL_tell_108 ?_
        refine k_topv (vI (g (9 + 4 * k))) (congrArg vI ha75) ?_
        have h_77 : w67 0 = .inr (11, [.ref (kad G 1), .ref (kad G 32), .ref (kad G 3), .ref (kad G 37), vI sv, .ref (kad G 44), .ref (kad G 10), .ref (kad G 116), .ref (kad G 129), .ref (kad G 132)]) := (hf67 0 (by omega)).trans h_72
        refine k_callS hC (c_L_with l hls G hM w67 fl (hdT g ++ clN (bT g) k ++ stW 28 ++ nmL k (g (11 + 4 * k)).toNat) sv 24 (g (9 + 4 * k)) (by decide) (by omega) (by (try simp only [List.length_append, List.length_cons, List.length_nil, List.length_replicate, List.length_map, List.length_range, stW_len, nmL_len]); omega) hS67 h_77) yy_L_with wm_L_97 rfl rfl (Nat.le_of_ble_eq_true rfl) (by decide) (by decide) ⟨by decide, by decide⟩ dL_tell_109 (fun v76 w76 fl76 hp76 => ?_)
        obtain ⟨q1, q2, hS76, hf76⟩ := hp76
        subst q1
        subst q2
        show KW p l e R s m args below meth c 4 G Q w76 fl 0 0 112 [(3, vI (k : Int)), (0, .ref (kad G 0)), (1, .ref (kad G 133)), (2, .ref (kad G 134))] []
        refine k_aload_n hC dL_tell_112 rfl 1 rfl ?_
        refine k_aload_n hC dL_tell_113 rfl 2 rfl ?_
        refine k_ldcs hC (List.mem_of_getElem? (i := 24) rfl) dL_tell_114 ?_
        refine k_aload_n hC dL_tell_116 rfl 3 rfl ?_
        have h_78 : w76 134 = .inr (12, [vI (g 0), vI (g 1), vI (g 2), vI (g 3), vI (g 4), vI (g 5), vI (g 6), vI (g 7), vI (g 8), .ref (kad G 135), .ref (kad G 136), .ref (kad G 137)]) := (hf76 134 (by omega)).trans h_73
        refine k_getN hC fd_L_53 (kl2 hM (by decide)) h_78 rfl dL_tell_117 ?_
        refine k_iload_n hC dL_tell_120 rfl 0 rfl ?_
        have h_79 : w76 135 = rA G 6 6 F5 := (hf76 135 (by omega)).trans h_74
        obtain ⟨q80, j80, f80, hq80, hj80, ha80, hb80, hc80⟩ := hF5 k (by omega)
        refine k_aaldA hC (v := .ref q80) (kl2 hM (by decide)) h_79 (by omega) (by decide) (congrArg va_rf hq80) dL_tell_121 ?_
        refine k_iconst hC dL_tell_122 ?_
        refine k_ialdF hC j80 hj80 (by decide) (by decide) dL_tell_123 ?_
        refine k_topv (vI (g (10 + 4 * k))) (congrArg vI hb80) ?_
        have h_82 : w76 0 = .inr (11, [.ref (kad G 1), .ref (kad G 32), .ref (kad G 3), .ref (kad G 37), vI sv, .ref (kad G 44), .ref (kad G 10), .ref (kad G 116), .ref (kad G 129), .ref (kad G 132)]) := (hf76 0 (by omega)).trans h_77
        refine k_callS hC (c_L_with l hls G hM w76 fl (hdT g ++ clN (bT g) k ++ stW 28 ++ nmL k (g (11 + 4 * k)).toNat ++ stW 24 ++ sgL (g (9 + 4 * k))) sv 24 (g (10 + 4 * k)) (by decide) (by omega) (by (try simp only [List.length_append, List.length_cons, List.length_nil, List.length_replicate, List.length_map, List.length_range, stW_len, nmL_len]); omega) hS76 h_82) yy_L_with wm_L_97 rfl rfl (Nat.le_of_ble_eq_true rfl) (by decide) (by decide) ⟨by decide, by decide⟩ dL_tell_124 (fun v81 w81 fl81 hp81 => ?_)
        obtain ⟨q1, q2, hS81, hf81⟩ := hp81
        subst q1
        subst q2
        show KW p l e R s m args below meth c 4 G Q w81 fl 0 0 127 [(3, vI (k : Int)), (0, .ref (kad G 0)), (1, .ref (kad G 133)), (2, .ref (kad G 134))] []
        refine k_aload_n hC dL_tell_127 rfl 1 rfl ?_
        refine k_aload_n hC dL_tell_128 rfl 2 rfl ?_
        refine k_bipush hC dL_tell_129 (by decide) ?_
        have h_84 : w81 0 = .inr (11, [.ref (kad G 1), .ref (kad G 32), .ref (kad G 3), .ref (kad G 37), vI sv, .ref (kad G 44), .ref (kad G 10), .ref (kad G 116), .ref (kad G 129), .ref (kad G 132)]) := (hf81 0 (by omega)).trans h_82
        refine k_callS hC (c_L_add l hls G hM w81 fl (hdT g ++ clN (bT g) k ++ stW 28 ++ nmL k (g (11 + 4 * k)).toNat ++ stW 24 ++ sgL (g (9 + 4 * k)) ++ stW 24 ++ sgL (g (10 + 4 * k))) 59 sv hS81 (by (try simp only [List.length_append, List.length_cons, List.length_nil, List.length_replicate, List.length_map, List.length_range, stW_len, nmL_len]); omega) (by decide) h_84) yy_L_add wm_L_14 rfl rfl (Nat.le_of_ble_eq_true rfl) (by decide) (by decide) ⟨by decide, by decide⟩ dL_tell_131 (fun v83 w83 fl83 hp83 => ?_)
        obtain ⟨q1, q2, hS83, hf83⟩ := hp83
        subst q1
        subst q2
        show KW p l e R s m args below meth c 4 G Q w83 fl 0 0 134 [(3, vI (k : Int)), (0, .ref (kad G 0)), (1, .ref (kad G 133)), (2, .ref (kad G 134))] []
        refine k_iinc hC (y := (k : Int) + 1) [(3, vI ((k : Int) + 1)), (0, .ref (kad G 0)), (1, .ref (kad G 133)), (2, .ref (kad G 134))] (j := 0) dL_tell_134 rfl (by omega) (by decide) rfl ?_
        refine k_goto hC 75 dL_tell_137 rfl ?_
        refine k_lvs (ls := [0, 1, 2, 3]) [(3, vI ((k + 1 : Nat) : Int)), (0, .ref (kad G 0)), (1, .ref (kad G 133)), (2, .ref (kad G 134))] (by simp only [lv_pick]; rfl) ?_
        have h_85 : w83 0 = .inr (11, [.ref (kad G 1), .ref (kad G 32), .ref (kad G 3), .ref (kad G 37), vI sv, .ref (kad G 44), .ref (kad G 10), .ref (kad G 116), .ref (kad G 129), .ref (kad G 132)]) := (hf83 0 (by omega)).trans h_84
        have h_86 : w83 134 = .inr (12, [vI (g 0), vI (g 1), vI (g 2), vI (g 3), vI (g 4), vI (g 5), vI (g 6), vI (g 7), vI (g 8), .ref (kad G 135), .ref (kad G 136), .ref (kad G 137)]) := (hf83 134 (by omega)).trans ((hf81 134 (by omega)).trans h_78)
        have h_87 : w83 135 = rA G 6 6 F5 := (hf83 135 (by omega)).trans ((hf81 135 (by omega)).trans h_79)
        have h_88 : w83 136 = rA G 6 8 F6 := (hf83 136 (by omega)).trans ((hf81 136 (by omega)).trans ((hf76 136 (by omega)).trans ((hf67 136 (by omega)).trans h_70)))
        have h_89 : w83 137 = rA G 6 12 F7 := (hf83 137 (by omega)).trans ((hf81 137 (by omega)).trans ((hf76 137 (by omega)).trans ((hf67 137 (by omega)).trans h_71)))
        exact ih1 (k + 1) w83 (by omega) (by omega) (hS83.eq (by show _ = hdT g ++ (clN (bT g) k ++ bT g k); unfold bT; simp only [List.append_assoc, List.cons_append, List.nil_append])) h_85 h_86 h_87 h_88 h_89 (fun j hj => (hf83 j (by omega)).trans ((hf81 j (by omega)).trans ((hf76 j (by omega)).trans ((hf67 j (by omega)).trans ((hf66 j (by omega)).trans (hfr1 j (by omega)))))))
  refine k_lvs (ls := [0, 1, 2, 3]) [(3, vI ((0 : Nat) : Int)), (0, .ref (kad G 0)), (1, .ref (kad G 133)), (2, .ref (kad G 134))] (by simp only [lv_pick]; rfl) ?_
  have h_90 : w17 0 = .inr (11, [.ref (kad G 1), .ref (kad G 32), .ref (kad G 3), .ref (kad G 37), vI sv, .ref (kad G 44), .ref (kad G 10), .ref (kad G 116), .ref (kad G 129), .ref (kad G 132)]) := (hf17 0 (by omega)).trans h_18
  have h_91 : w17 134 = .inr (12, [vI (g 0), vI (g 1), vI (g 2), vI (g 3), vI (g 4), vI (g 5), vI (g 6), vI (g 7), vI (g 8), .ref (kad G 135), .ref (kad G 136), .ref (kad G 137)]) := (hf17 134 (by omega)).trans ((hf15 134 (by omega)).trans h_14)
  have h_92 : w17 135 = rA G 6 6 F5 := (hf17 135 (by omega)).trans ((hf15 135 (by omega)).trans ((hf12 135 (by omega)).trans ((hf9 135 (by omega)).trans ((hf6 135 (by omega)).trans ((hf3 135 (by omega)).trans ((hf1 135 (by omega)).trans h135))))))
  have h_93 : w17 136 = rA G 6 8 F6 := (hf17 136 (by omega)).trans ((hf15 136 (by omega)).trans ((hf12 136 (by omega)).trans ((hf9 136 (by omega)).trans ((hf6 136 (by omega)).trans ((hf3 136 (by omega)).trans ((hf1 136 (by omega)).trans h136))))))
  have h_94 : w17 137 = rA G 6 12 F7 := (hf17 137 (by omega)).trans ((hf15 137 (by omega)).trans ((hf12 137 (by omega)).trans ((hf9 137 (by omega)).trans ((hf6 137 (by omega)).trans ((hf3 137 (by omega)).trans ((hf1 137 (by omega)).trans h137))))))
  exact loop1 7 0 w17 (by omega) (by omega) (hS17.eq (by show hdT g = _; exact (List.append_nil _).symm)) h_90 h_91 h_92 h_93 h_94 (fun j hj => (hf17 j (by omega)).trans ((hf15 j (by omega)).trans ((hf12 j (by omega)).trans ((hf9 j (by omega)).trans ((hf6 j (by omega)).trans ((hf3 j (by omega)).trans (hf1 j (by omega))))))))

