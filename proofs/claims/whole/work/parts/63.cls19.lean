set_option maxRecDepth 100000 in
set_option maxHeartbeats 4000000 in
theorem c_J6_stringSize_1 (l : Launch) (hls : l.stackTraces = false) (G : kG) (hN : kN G = 150) (w : Nat → va_E) (fl : va_W) (x : Int) (hx : 0 ≤ x ∧ x < 10) : KM l G yJ6_stringSize_0f7a4 cJ6_stringSize_0f7a4 4 (some (FieldType.int)) 0 0 0 [vI x] w fl (kPure (vI 1) w fl) := by
  refine KM_ofF hls (by decide +kernel) rfl (lv0 := [(0, vI x)]) rfl (Nat.le_of_ble_eq_true rfl) (fun p e R s m args below meth c Q hC hr hQ => ?_)
  refine k_iconst hC dJ6_stringSize_0f7a4_0 ?_
  refine k_istore_n hC [(1, vI 1), (0, vI x)] dJ6_stringSize_0f7a4_1 rfl (by decide) rfl ?_
  refine k_iload_n hC dJ6_stringSize_0f7a4_2 rfl 1 rfl ?_
  refine k_if_lt hC 11 dJ6_stringSize_0f7a4_3 rfl (by omega) (fun c_3 => absurd c_3 (by omega)) (fun c_3 => ?_)
  refine k_iconst hC dJ6_stringSize_0f7a4_6 ?_
  refine k_istore_n hC [(1, vI 0), (0, vI x)] dJ6_stringSize_0f7a4_7 rfl (by decide) rfl ?_
  refine k_iload_n hC dJ6_stringSize_0f7a4_8 rfl 1 rfl ?_
  refine k_ineg hC dJ6_stringSize_0f7a4_9 ?_
  refine k_istore_n hC [(0, vI (-x)), (1, vI 0)] dJ6_stringSize_0f7a4_10 rfl (by decide) rfl ?_
  refine k_bipush hC dJ6_stringSize_0f7a4_11 (by decide) ?_
  refine k_istore_n hC [(2, vI (-10)), (0, vI (-x)), (1, vI 0)] dJ6_stringSize_0f7a4_13 rfl (by decide) rfl ?_
  refine k_iconst hC dJ6_stringSize_0f7a4_14 ?_
  refine k_istore_n hC [(3, vI 1), (2, vI (-10)), (0, vI (-x)), (1, vI 0)] dJ6_stringSize_0f7a4_15 rfl (by decide) rfl ?_
  refine k_iload_n hC dJ6_stringSize_0f7a4_16 rfl 0 rfl ?_
  refine k_bipush hC dJ6_stringSize_0f7a4_17 (by decide) ?_
  refine k_icmp_ge hC 42 dJ6_stringSize_0f7a4_19 rfl (by omega) (by omega) (fun c_19 => absurd c_19 (by omega)) (fun c_19 => ?_)
  refine k_iload_n hC dJ6_stringSize_0f7a4_22 rfl 2 rfl ?_
  refine k_iload_n hC dJ6_stringSize_0f7a4_23 rfl 1 rfl ?_
  refine k_icmp_le hC 31 dJ6_stringSize_0f7a4_24 rfl (by omega) (by omega) (fun c_24 => absurd c_24 (by omega)) (fun c_24 => ?_)
  refine k_iload_n hC dJ6_stringSize_0f7a4_27 rfl 0 rfl ?_
  refine k_iload_n hC dJ6_stringSize_0f7a4_28 rfl 3 rfl ?_
  refine k_iadd hC dJ6_stringSize_0f7a4_29 ?_
  subst hQ
  exact k_iret hC hr ⟨by decide, by decide⟩ (⟨congrArg (fun z => some (vI z)) (show (1 : Int) = 1 + 0 from by omega), rfl, rfl⟩) dJ6_stringSize_0f7a4_30

set_option maxRecDepth 100000 in
set_option maxHeartbeats 4000000 in
theorem c_J6_getChars_1 (l : Launch) (hls : l.stackTraces = false) (G : kG) (hN : kN G = 150) (w : Nat → va_E) (fl : va_W) (q n b0 : Nat) (f : Nat → Int) (x : Int) (hfl : fl = [(q, bA G n f)]) (hn : n ≤ 34) (hcn : b0 + 1 ≤ n) (hx : 0 ≤ x ∧ x < 10) : KM l G yJ6_getChars_ba4f3 cJ6_getChars_ba4f3 7 (some (FieldType.int)) 0 0 0 [vI x, vI ((b0 : Int) + 1), .ref q] w fl (fun v1 w1 fl1 => some (vI (b0 : Int)) = v1 ∧ w = w1 ∧ fl1 = [(q, bA G n (kup f b0 (48 + x)))]) := by
  refine KM_ofF hls (by decide +kernel) rfl (lv0 := [(0, vI x), (1, vI ((b0 : Int) + 1)), (2, .ref q)]) rfl (Nat.le_of_ble_eq_true rfl) (fun p e R s m args below meth c Q hC hr hQ => ?_)
  subst hfl
  refine k_iload_n hC dJ6_getChars_ba4f3_0 rfl 1 rfl ?_
  refine k_istore hC [(5, vI ((b0 : Int) + 1)), (0, vI x), (1, vI ((b0 : Int) + 1)), (2, .ref q)] dJ6_getChars_ba4f3_1 (by decide) rfl ?_
  refine k_iload_n hC dJ6_getChars_ba4f3_3 rfl 1 rfl ?_
  refine k_if_ge hC 11 dJ6_getChars_ba4f3_4 rfl (by omega) (fun c_4 => ?_) (fun c_4 => absurd c_4 (by omega))
  refine k_iconst hC dJ6_getChars_ba4f3_11 ?_
  refine k_istore hC [(6, vI 0), (5, vI ((b0 : Int) + 1)), (0, vI x), (1, vI ((b0 : Int) + 1)), (2, .ref q)] dJ6_getChars_ba4f3_12 (by decide) rfl ?_
  refine k_iload hC dJ6_getChars_ba4f3_14 0 rfl ?_
  refine k_if_ne hC 22 dJ6_getChars_ba4f3_16 rfl (by omega) (fun c_16 => absurd c_16 (by omega)) (fun c_16 => ?_)
  refine k_iload_n hC dJ6_getChars_ba4f3_19 rfl 2 rfl ?_
  refine k_ineg hC dJ6_getChars_ba4f3_20 ?_
  refine k_istore_n hC [(0, vI (-x)), (6, vI 0), (5, vI ((b0 : Int) + 1)), (1, vI ((b0 : Int) + 1)), (2, .ref q)] dJ6_getChars_ba4f3_21 rfl (by decide) rfl ?_
  refine k_iload_n hC dJ6_getChars_ba4f3_22 rfl 0 rfl ?_
  refine k_bipush hC dJ6_getChars_ba4f3_23 (by decide) ?_
  refine k_icmp_gt hC 72 dJ6_getChars_ba4f3_25 rfl (by omega) (by omega) (fun c_25 => ?_) (fun c_25 => absurd c_25 (by omega))
  refine k_aload_n hC dJ6_getChars_ba4f3_72 rfl 4 rfl ?_
  refine k_iinc hC (y := (b0 : Int) + 1 - 1) [(5, vI ((b0 : Int) + 1 - 1)), (0, vI (-x)), (6, vI 0), (1, vI ((b0 : Int) + 1)), (2, .ref q)] (j := 2) dJ6_getChars_ba4f3_73 rfl (by omega) (by decide) rfl ?_
  refine k_iload hC dJ6_getChars_ba4f3_76 0 rfl ?_
  refine k_dgs1 hC wf_J6_83 dJ6_getChars_ba4f3_78 ?_
  refine k_iload_n hC dJ6_getChars_ba4f3_81 rfl 1 rfl ?_
  refine k_ineg hC dJ6_getChars_ba4f3_82 ?_
  refine k_topv (vI (x)) (congrArg vI (by omega)) ?_
  refine k_bald1 hC (by omega) dJ6_getChars_ba4f3_83 ?_
  refine k_topv (vI (48 + x)) (congrArg vI (by omega)) ?_
  refine k_bastF hC 0 [(q, bA G n (kup f b0 (48 + x)))] rfl (by rw [show ((b0 : Int) + 1 - 1).toNat = b0 by omega]; rfl) (by omega) (by omega) (by omega) dJ6_getChars_ba4f3_84 ?_
  refine k_iload_n hC dJ6_getChars_ba4f3_85 rfl 1 rfl ?_
  refine k_bipush hC dJ6_getChars_ba4f3_86 (by decide) ?_
  refine k_icmp_ge hC 104 dJ6_getChars_ba4f3_88 rfl (by omega) (by omega) (fun c_88 => ?_) (fun c_88 => absurd c_88 (by omega))
  refine k_iload hC dJ6_getChars_ba4f3_104 2 rfl ?_
  refine k_if_eq hC 118 dJ6_getChars_ba4f3_106 rfl (by omega) (fun c_106 => ?_) (fun c_106 => absurd c_106 (by omega))
  refine k_iload hC dJ6_getChars_ba4f3_118 0 rfl ?_
  subst hQ
  exact k_iret hC hr ⟨by decide, by decide⟩ (⟨congrArg (fun z => some (vI z)) (show (b0 : Int) = (b0 : Int) + 1 - 1 from by omega), rfl, rfl⟩) dJ6_getChars_ba4f3_120

set_option maxRecDepth 100000 in
set_option maxHeartbeats 4000000 in
theorem c_J5_append_I1_in (l : Launch) (hls : l.stackTraces = false) (G : kG) (hN : kN G = 150) (w : Nat → va_E) (fl : va_W) (T : List Int) (cap : Nat) (x : Int) (hsb : sbC G w fl T cap) (hx : 0 ≤ x ∧ x < 10) (hlt : (T.length : Int) + ((dgN 10 48 4 x).length : Int) ≤ (cap : Int)) : KM l G yJ5_append_c97b9 cJ5_append_c97b9 4 (some ((FieldType.object "java/lang/AbstractStringBuilder"))) 1 0 0 [.ref (kad G 132), vI x] w fl (fun v1 w1 fl1 => some (.ref (kad G 132)) = v1 ∧ sbP G w (T ++ dgN 10 48 4 x) (fun z => z = cap) w1 fl1) := by
  refine KM_ofF hls (by decide +kernel) rfl (lv0 := [(0, .ref (kad G 132)), (1, vI x)]) rfl (Nat.le_of_ble_eq_true rfl) (fun p e R s m args below meth c Q hC hr hQ => ?_)
  have hsb0 := hsb
  obtain ⟨q, f, ml, hfl, h132, hcap, hlen, h8, hcd⟩ := hsb
  subst hfl
  have hL := dg4_1 hx
  rw [hL] at hlt
  have hlt2 : (T.length : Int) + 1 ≤ (cap : Int) := hlt
  refine k_aload_n hC dJ5_append_c97b9_0 rfl 0 rfl ?_
  refine k_get hC fd_J5_79 (kl hN (by decide)) h132 rfl dJ5_append_c97b9_1 ?_
  refine k_istore_n hC [(2, vI (T.length : Int)), (0, .ref (kad G 132)), (1, vI x)] dJ5_append_c97b9_4 rfl (by decide) rfl ?_
  refine k_iload_n hC dJ5_append_c97b9_5 rfl 0 rfl ?_
  refine k_iload_n hC dJ5_append_c97b9_6 rfl 2 rfl ?_
  refine k_pureS hC (c_J6_stringSize_1 l hls G hN w [(q, bA G cap f)] x hx) yy_J6_stringSize_0f7a4 wm_J5_245 rfl rfl (Nat.le_of_ble_eq_true rfl) (by decide) (by decide) ⟨by decide, by decide⟩ dJ5_append_c97b9_7 ?_
  refine k_iadd hC dJ5_append_c97b9_10 ?_
  refine k_istore_n hC [(3, vI ((T.length : Int) + 1)), (2, vI (T.length : Int)), (0, .ref (kad G 132)), (1, vI x)] dJ5_append_c97b9_11 rfl (by decide) rfl ?_
  refine k_aload_n hC dJ5_append_c97b9_12 rfl 2 rfl ?_
  refine k_iload_n hC dJ5_append_c97b9_13 rfl 0 rfl ?_
  refine k_callU hC (c_J5_ensure_in l hls G hN w [(q, bA G cap f)] T cap ((T.length : Int) + 1) hsb0 (by omega)) yu_J5_ensureCapacityInternal_d00df wm_J5_100 (kl hN (by decide)) h132 rfl rfl (Nat.le_of_ble_eq_true rfl) (by decide) (by decide) ⟨by decide, by decide⟩ dJ5_append_c97b9_14 (fun v1 w1 fl1 hp1 => ?_)
  obtain ⟨hp1a, hp1b, hp1c⟩ := hp1; subst hp1a; subst hp1b; subst hp1c
  show KW p l e R s m args below meth c 4 G Q w [(q, bA G cap f)] 0 0 17 [(3, vI ((T.length : Int) + 1)), (2, vI (T.length : Int)), (0, .ref (kad G 132)), (1, vI x)] []
  refine k_aload_n hC dJ5_append_c97b9_17 rfl 2 rfl ?_
  refine k_callU hC (c_J5_isLatin1_aae02 l hls G hN w [(q, bA G cap f)] q ml (T.length : Int) h132) yu_J5_isLatin1_aae02 wm_J5_83 (kl hN (by decide)) h132 rfl rfl (Nat.le_of_ble_eq_true rfl) (by decide) (by decide) ⟨by decide, by decide⟩ dJ5_append_c97b9_18 (fun v2 w2 fl2 hp2 => ?_)
  obtain ⟨hp2a, hp2b, hp2c⟩ := hp2; subst hp2a; subst hp2b; subst hp2c
  show KW p l e R s m args below meth c 4 G Q w [(q, bA G cap f)] 0 0 21 [(3, vI ((T.length : Int) + 1)), (2, vI (T.length : Int)), (0, .ref (kad G 132)), (1, vI x)] [vI 1]
  refine k_if_eq hC 37 dJ5_append_c97b9_21 rfl (by omega) (fun c_21 => absurd c_21 (by omega)) (fun c_21 => ?_)
  refine k_iload_n hC dJ5_append_c97b9_24 rfl 3 rfl ?_
  refine k_iload_n hC dJ5_append_c97b9_25 rfl 0 rfl ?_
  refine k_aload_n hC dJ5_append_c97b9_26 rfl 2 rfl ?_
  refine k_get hC fd_J5_15 (kl hN (by decide)) h132 rfl dJ5_append_c97b9_27 ?_
  refine k_callS hC (c_J6_getChars_1 l hls G hN w [(q, bA G cap f)] q cap T.length f x rfl (by omega) (by omega) hx) yy_J6_getChars_ba4f3 wm_J5_248 rfl rfl (Nat.le_of_ble_eq_true rfl) (by decide) (by decide) ⟨by decide, by decide⟩ dJ5_append_c97b9_30 (fun v3 w3 fl3 hp3 => ?_)
  obtain ⟨hp3a, hp3b, hp3c⟩ := hp3; subst hp3a; subst hp3b; subst hp3c
  show KW p l e R s m args below meth c 4 G Q w [(q, bA G cap (kup f T.length (48 + x)))] 0 0 33 [(3, vI ((T.length : Int) + 1)), (2, vI (T.length : Int)), (0, .ref (kad G 132)), (1, vI x)] [vI (T.length : Int)]
  refine k_pop hC dJ5_append_c97b9_33 rfl ?_
  refine k_goto hC 48 dJ5_append_c97b9_34 rfl ?_
  refine k_aload_n hC dJ5_append_c97b9_48 rfl 2 rfl ?_
  refine k_iload_n hC dJ5_append_c97b9_49 rfl 0 rfl ?_
  refine k_topv (vI (((T ++ [48 + x]).length : Int))) (congrArg vI (by rw [List.length_append]; show _ = ((T.length + 1 : Nat) : Int); omega)) ?_
  refine k_put hC fd_J5_79 (kl hN (by decide)) h132 [.ref q, vI 0, ml, vI ((T ++ [48 + x]).length : Int)] rfl (Nat.le_of_ble_eq_true rfl) rfl rfl dJ5_append_c97b9_50 (fun w4 hw4 hf4 => ?_)
  refine k_aload_n hC dJ5_append_c97b9_53 rfl 2 rfl ?_
  subst hQ
  exact k_aret hC hr (Or.inl ⟨_, rfl⟩) (Or.inr ⟨_, rfl⟩) ⟨by decide, by decide⟩ (by show _ ∧ sbP G w (T ++ dgN 10 48 4 x) _ _ _; rw [hL]; exact ⟨rfl, cap, ⟨q, _, ml, rfl, hw4, hcap, by rw [List.length_append]; show T.length + 1 ≤ _; omega, kup_8 (h8) (by omega), cdR_app hcd (fun j hj => kup_n (by omega)) (fun i hi => by match i, hi with | 0, _ => exact kup_s | k + 1, h => exact absurd h (by show ¬ (k + 1 < 1); omega))⟩, rfl, fun j hj => hf4 j (by omega)⟩) dJ5_append_c97b9_54

set_option maxRecDepth 100000 in
set_option maxHeartbeats 4000000 in
theorem c_J5_append_I1_any (l : Launch) (hls : l.stackTraces = false) (G : kG) (hN : kN G = 150) (w : Nat → va_E) (fl : va_W) (T : List Int) (cap : Nat) (x : Int) (hsb : sbC G w fl T cap) (hx : 0 ≤ x ∧ x < 10) (hlt : (T.length : Int) + ((dgN 10 48 4 x).length : Int) ≤ 34) : KM l G yJ5_append_c97b9 cJ5_append_c97b9 4 (some ((FieldType.object "java/lang/AbstractStringBuilder"))) 4 1 34 [.ref (kad G 132), vI x] w fl (fun v1 w1 fl1 => some (.ref (kad G 132)) = v1 ∧ sbP G w (T ++ dgN 10 48 4 x) (fun z => cap ≤ z) w1 fl1) := by
  refine KM_ofF hls (by decide +kernel) rfl (lv0 := [(0, .ref (kad G 132)), (1, vI x)]) rfl (Nat.le_of_ble_eq_true rfl) (fun p e R s m args below meth c Q hC hr hQ => ?_)
  have hsb0 := hsb
  obtain ⟨q, f, ml, hfl, h132, hcap, hlen, h8, hcd⟩ := hsb
  subst hfl
  have hL := dg4_1 hx
  rw [hL] at hlt
  have hlt2 : (T.length : Int) + 1 ≤ 34 := hlt
  refine k_aload_n hC dJ5_append_c97b9_0 rfl 0 rfl ?_
  refine k_get hC fd_J5_79 (kl hN (by decide)) h132 rfl dJ5_append_c97b9_1 ?_
  refine k_istore_n hC [(2, vI (T.length : Int)), (0, .ref (kad G 132)), (1, vI x)] dJ5_append_c97b9_4 rfl (by decide) rfl ?_
  refine k_iload_n hC dJ5_append_c97b9_5 rfl 0 rfl ?_
  refine k_iload_n hC dJ5_append_c97b9_6 rfl 2 rfl ?_
  refine k_pureS hC (c_J6_stringSize_1 l hls G hN w [(q, bA G cap f)] x hx) yy_J6_stringSize_0f7a4 wm_J5_245 rfl rfl (Nat.le_of_ble_eq_true rfl) (by decide) (by decide) ⟨by decide, by decide⟩ dJ5_append_c97b9_7 ?_
  refine k_iadd hC dJ5_append_c97b9_10 ?_
  refine k_istore_n hC [(3, vI ((T.length : Int) + 1)), (2, vI (T.length : Int)), (0, .ref (kad G 132)), (1, vI x)] dJ5_append_c97b9_11 rfl (by decide) rfl ?_
  refine k_aload_n hC dJ5_append_c97b9_12 rfl 2 rfl ?_
  refine k_iload_n hC dJ5_append_c97b9_13 rfl 0 rfl ?_
  refine k_callU hC (c_J5_ensure_any l hls G hN w [(q, bA G cap f)] T cap ((T.length : Int) + 1) hsb0 (by omega)) yu_J5_ensureCapacityInternal_d00df wm_J5_100 (kl hN (by decide)) h132 rfl rfl (Nat.le_of_ble_eq_true rfl) (by decide) (by decide) ⟨by decide, by decide⟩ dJ5_append_c97b9_14 (fun v1 w1 fl1 hp1 => ?_)
  obtain ⟨hp1a, cap1, hsb1, hcp1, hf1⟩ := hp1; subst hp1a
  have hsb0 := hsb1
  obtain ⟨q, f, ml, hfl, h132, hcap, hlen, h8, hcd⟩ := hsb1
  subst hfl
  show KW p l e R s m args below meth c 4 G Q w1 [(q, bA G cap1 f)] 1 34 17 [(3, vI ((T.length : Int) + 1)), (2, vI (T.length : Int)), (0, .ref (kad G 132)), (1, vI x)] []
  refine k_aload_n hC dJ5_append_c97b9_17 rfl 2 rfl ?_
  refine k_callU hC (c_J5_isLatin1_aae02 l hls G hN w1 [(q, bA G cap1 f)] q ml (T.length : Int) h132) yu_J5_isLatin1_aae02 wm_J5_83 (kl hN (by decide)) h132 rfl rfl (Nat.le_of_ble_eq_true rfl) (by decide) (by decide) ⟨by decide, by decide⟩ dJ5_append_c97b9_18 (fun v2 w2 fl2 hp2 => ?_)
  obtain ⟨hp2a, hp2b, hp2c⟩ := hp2; subst hp2a; subst hp2b; subst hp2c
  show KW p l e R s m args below meth c 4 G Q w1 [(q, bA G cap1 f)] 1 34 21 [(3, vI ((T.length : Int) + 1)), (2, vI (T.length : Int)), (0, .ref (kad G 132)), (1, vI x)] [vI 1]
  refine k_if_eq hC 37 dJ5_append_c97b9_21 rfl (by omega) (fun c_21 => absurd c_21 (by omega)) (fun c_21 => ?_)
  refine k_iload_n hC dJ5_append_c97b9_24 rfl 3 rfl ?_
  refine k_iload_n hC dJ5_append_c97b9_25 rfl 0 rfl ?_
  refine k_aload_n hC dJ5_append_c97b9_26 rfl 2 rfl ?_
  refine k_get hC fd_J5_15 (kl hN (by decide)) h132 rfl dJ5_append_c97b9_27 ?_
  refine k_callS hC (c_J6_getChars_1 l hls G hN w1 [(q, bA G cap1 f)] q cap1 T.length f x rfl (by omega) (by omega) hx) yy_J6_getChars_ba4f3 wm_J5_248 rfl rfl (Nat.le_of_ble_eq_true rfl) (by decide) (by decide) ⟨by decide, by decide⟩ dJ5_append_c97b9_30 (fun v3 w3 fl3 hp3 => ?_)
  obtain ⟨hp3a, hp3b, hp3c⟩ := hp3; subst hp3a; subst hp3b; subst hp3c
  show KW p l e R s m args below meth c 4 G Q w1 [(q, bA G cap1 (kup f T.length (48 + x)))] 1 34 33 [(3, vI ((T.length : Int) + 1)), (2, vI (T.length : Int)), (0, .ref (kad G 132)), (1, vI x)] [vI (T.length : Int)]
  refine k_pop hC dJ5_append_c97b9_33 rfl ?_
  refine k_goto hC 48 dJ5_append_c97b9_34 rfl ?_
  refine k_aload_n hC dJ5_append_c97b9_48 rfl 2 rfl ?_
  refine k_iload_n hC dJ5_append_c97b9_49 rfl 0 rfl ?_
  refine k_topv (vI (((T ++ [48 + x]).length : Int))) (congrArg vI (by rw [List.length_append]; show _ = ((T.length + 1 : Nat) : Int); omega)) ?_
  refine k_put hC fd_J5_79 (kl hN (by decide)) h132 [.ref q, vI 0, ml, vI ((T ++ [48 + x]).length : Int)] rfl (Nat.le_of_ble_eq_true rfl) rfl rfl dJ5_append_c97b9_50 (fun w4 hw4 hf4 => ?_)
  refine k_aload_n hC dJ5_append_c97b9_53 rfl 2 rfl ?_
  subst hQ
  exact k_aret hC hr (Or.inl ⟨_, rfl⟩) (Or.inr ⟨_, rfl⟩) ⟨by decide, by decide⟩ (by show _ ∧ sbP G w (T ++ dgN 10 48 4 x) _ _ _; rw [hL]; exact ⟨rfl, cap1, ⟨q, _, ml, rfl, hw4, hcap, by rw [List.length_append]; show T.length + 1 ≤ _; omega, kup_8 (h8) (by omega), cdR_app hcd (fun j hj => kup_n (by omega)) (fun i hi => by match i, hi with | 0, _ => exact kup_s | k + 1, h => exact absurd h (by show ¬ (k + 1 < 1); omega))⟩, by omega, fun j hj => (hf4 j (by omega)).trans (hf1 j (by omega))⟩) dJ5_append_c97b9_54

set_option maxRecDepth 100000 in
set_option maxHeartbeats 4000000 in
theorem c_J6_stringSize_2 (l : Launch) (hls : l.stackTraces = false) (G : kG) (hN : kN G = 150) (w : Nat → va_E) (fl : va_W) (x : Int) (hx : 10 ≤ x ∧ x < 100) : KM l G yJ6_stringSize_0f7a4 cJ6_stringSize_0f7a4 4 (some (FieldType.int)) 0 0 0 [vI x] w fl (kPure (vI 2) w fl) := by
  refine KM_ofF hls (by decide +kernel) rfl (lv0 := [(0, vI x)]) rfl (Nat.le_of_ble_eq_true rfl) (fun p e R s m args below meth c Q hC hr hQ => ?_)
  refine k_iconst hC dJ6_stringSize_0f7a4_0 ?_
  refine k_istore_n hC [(1, vI 1), (0, vI x)] dJ6_stringSize_0f7a4_1 rfl (by decide) rfl ?_
  refine k_iload_n hC dJ6_stringSize_0f7a4_2 rfl 1 rfl ?_
  refine k_if_lt hC 11 dJ6_stringSize_0f7a4_3 rfl (by omega) (fun c_3 => absurd c_3 (by omega)) (fun c_3 => ?_)
  refine k_iconst hC dJ6_stringSize_0f7a4_6 ?_
  refine k_istore_n hC [(1, vI 0), (0, vI x)] dJ6_stringSize_0f7a4_7 rfl (by decide) rfl ?_
  refine k_iload_n hC dJ6_stringSize_0f7a4_8 rfl 1 rfl ?_
  refine k_ineg hC dJ6_stringSize_0f7a4_9 ?_
  refine k_istore_n hC [(0, vI (-x)), (1, vI 0)] dJ6_stringSize_0f7a4_10 rfl (by decide) rfl ?_
  refine k_bipush hC dJ6_stringSize_0f7a4_11 (by decide) ?_
  refine k_istore_n hC [(2, vI (-10)), (0, vI (-x)), (1, vI 0)] dJ6_stringSize_0f7a4_13 rfl (by decide) rfl ?_
  refine k_iconst hC dJ6_stringSize_0f7a4_14 ?_
  refine k_istore_n hC [(3, vI 1), (2, vI (-10)), (0, vI (-x)), (1, vI 0)] dJ6_stringSize_0f7a4_15 rfl (by decide) rfl ?_
  refine k_iload_n hC dJ6_stringSize_0f7a4_16 rfl 0 rfl ?_
  refine k_bipush hC dJ6_stringSize_0f7a4_17 (by decide) ?_
  refine k_icmp_ge hC 42 dJ6_stringSize_0f7a4_19 rfl (by omega) (by omega) (fun c_19 => absurd c_19 (by omega)) (fun c_19 => ?_)
  refine k_iload_n hC dJ6_stringSize_0f7a4_22 rfl 2 rfl ?_
  refine k_iload_n hC dJ6_stringSize_0f7a4_23 rfl 1 rfl ?_
  refine k_icmp_le hC 31 dJ6_stringSize_0f7a4_24 rfl (by omega) (by omega) (fun c_24 => ?_) (fun c_24 => absurd c_24 (by omega))
  refine k_bipush hC dJ6_stringSize_0f7a4_31 (by decide) ?_
  refine k_iload_n hC dJ6_stringSize_0f7a4_33 rfl 1 rfl ?_
  refine k_imul hC dJ6_stringSize_0f7a4_34 ?_
  refine k_topv (vI (-100)) rfl ?_
  refine k_istore_n hC [(2, vI (-100)), (3, vI 1), (0, vI (-x)), (1, vI 0)] dJ6_stringSize_0f7a4_35 rfl (by decide) rfl ?_
  refine k_iinc hC (y := 2) [(3, vI 2), (2, vI (-100)), (0, vI (-x)), (1, vI 0)] (j := 1) dJ6_stringSize_0f7a4_36 rfl (by decide) (by decide) rfl ?_
  refine k_goto hC 16 dJ6_stringSize_0f7a4_39 rfl ?_
  refine k_iload_n hC dJ6_stringSize_0f7a4_16 rfl 0 rfl ?_
  refine k_bipush hC dJ6_stringSize_0f7a4_17 (by decide) ?_
  refine k_icmp_ge hC 42 dJ6_stringSize_0f7a4_19 rfl (by omega) (by omega) (fun c_19 => absurd c_19 (by omega)) (fun c_19 => ?_)
  refine k_iload_n hC dJ6_stringSize_0f7a4_22 rfl 2 rfl ?_
  refine k_iload_n hC dJ6_stringSize_0f7a4_23 rfl 1 rfl ?_
  refine k_icmp_le hC 31 dJ6_stringSize_0f7a4_24 rfl (by omega) (by omega) (fun c_24 => absurd c_24 (by omega)) (fun c_24 => ?_)
  refine k_iload_n hC dJ6_stringSize_0f7a4_27 rfl 0 rfl ?_
  refine k_iload_n hC dJ6_stringSize_0f7a4_28 rfl 3 rfl ?_
  refine k_iadd hC dJ6_stringSize_0f7a4_29 ?_
  subst hQ
  exact k_iret hC hr ⟨by decide, by decide⟩ (⟨congrArg (fun z => some (vI z)) (show (2 : Int) = 2 + 0 from by omega), rfl, rfl⟩) dJ6_stringSize_0f7a4_30

set_option maxRecDepth 100000 in
set_option maxHeartbeats 4000000 in
theorem c_J6_getChars_2 (l : Launch) (hls : l.stackTraces = false) (G : kG) (hN : kN G = 150) (w : Nat → va_E) (fl : va_W) (q n b0 : Nat) (f : Nat → Int) (x : Int) (hfl : fl = [(q, bA G n f)]) (hn : n ≤ 34) (hcn : b0 + 2 ≤ n) (hx : 10 ≤ x ∧ x < 100) : KM l G yJ6_getChars_ba4f3 cJ6_getChars_ba4f3 7 (some (FieldType.int)) 0 0 0 [vI x, vI ((b0 : Int) + 2), .ref q] w fl (fun v1 w1 fl1 => some (vI (b0 : Int)) = v1 ∧ w = w1 ∧ fl1 = [(q, bA G n (kup (kup f (b0 + 1) (48 + x % 10)) b0 (48 + x / 10)))]) := by
  refine KM_ofF hls (by decide +kernel) rfl (lv0 := [(0, vI x), (1, vI ((b0 : Int) + 2)), (2, .ref q)]) rfl (Nat.le_of_ble_eq_true rfl) (fun p e R s m args below meth c Q hC hr hQ => ?_)
  subst hfl
  refine k_iload_n hC dJ6_getChars_ba4f3_0 rfl 1 rfl ?_
  refine k_istore hC [(5, vI ((b0 : Int) + 2)), (0, vI x), (1, vI ((b0 : Int) + 2)), (2, .ref q)] dJ6_getChars_ba4f3_1 (by decide) rfl ?_
  refine k_iload_n hC dJ6_getChars_ba4f3_3 rfl 1 rfl ?_
  refine k_if_ge hC 11 dJ6_getChars_ba4f3_4 rfl (by omega) (fun c_4 => ?_) (fun c_4 => absurd c_4 (by omega))
  refine k_iconst hC dJ6_getChars_ba4f3_11 ?_
  refine k_istore hC [(6, vI 0), (5, vI ((b0 : Int) + 2)), (0, vI x), (1, vI ((b0 : Int) + 2)), (2, .ref q)] dJ6_getChars_ba4f3_12 (by decide) rfl ?_
  refine k_iload hC dJ6_getChars_ba4f3_14 0 rfl ?_
  refine k_if_ne hC 22 dJ6_getChars_ba4f3_16 rfl (by omega) (fun c_16 => absurd c_16 (by omega)) (fun c_16 => ?_)
  refine k_iload_n hC dJ6_getChars_ba4f3_19 rfl 2 rfl ?_
  refine k_ineg hC dJ6_getChars_ba4f3_20 ?_
  refine k_istore_n hC [(0, vI (-x)), (6, vI 0), (5, vI ((b0 : Int) + 2)), (1, vI ((b0 : Int) + 2)), (2, .ref q)] dJ6_getChars_ba4f3_21 rfl (by decide) rfl ?_
  refine k_iload_n hC dJ6_getChars_ba4f3_22 rfl 0 rfl ?_
  refine k_bipush hC dJ6_getChars_ba4f3_23 (by decide) ?_
  refine k_icmp_gt hC 72 dJ6_getChars_ba4f3_25 rfl (by omega) (by omega) (fun c_25 => ?_) (fun c_25 => absurd c_25 (by omega))
  refine k_aload_n hC dJ6_getChars_ba4f3_72 rfl 4 rfl ?_
  refine k_iinc hC (y := (b0 : Int) + 2 - 1) [(5, vI ((b0 : Int) + 2 - 1)), (0, vI (-x)), (6, vI 0), (1, vI ((b0 : Int) + 2)), (2, .ref q)] (j := 2) dJ6_getChars_ba4f3_73 rfl (by omega) (by decide) rfl ?_
  refine k_iload hC dJ6_getChars_ba4f3_76 0 rfl ?_
  refine k_dgs1 hC wf_J6_83 dJ6_getChars_ba4f3_78 ?_
  refine k_iload_n hC dJ6_getChars_ba4f3_81 rfl 1 rfl ?_
  refine k_ineg hC dJ6_getChars_ba4f3_82 ?_
  refine k_topv (vI (x)) (congrArg vI (by omega)) ?_
  refine k_bald1 hC (by omega) dJ6_getChars_ba4f3_83 ?_
  refine k_topv (vI (48 + x % 10)) (congrArg vI (by omega)) ?_
  refine k_bastF hC 0 [(q, bA G n (kup f (b0 + 1) (48 + x % 10)))] rfl (by rw [show ((b0 : Int) + 2 - 1).toNat = b0 + 1 by omega]; rfl) (by omega) (by omega) (by omega) dJ6_getChars_ba4f3_84 ?_
  refine k_iload_n hC dJ6_getChars_ba4f3_85 rfl 1 rfl ?_
  refine k_bipush hC dJ6_getChars_ba4f3_86 (by decide) ?_
  refine k_icmp_ge hC 104 dJ6_getChars_ba4f3_88 rfl (by omega) (by omega) (fun c_88 => absurd c_88 (by omega)) (fun c_88 => ?_)
  refine k_aload_n hC dJ6_getChars_ba4f3_91 rfl 4 rfl ?_
  refine k_iinc hC (y := (b0 : Int) + 2 - 1 - 1) [(5, vI ((b0 : Int) + 2 - 1 - 1)), (0, vI (-x)), (6, vI 0), (1, vI ((b0 : Int) + 2)), (2, .ref q)] (j := 0) dJ6_getChars_ba4f3_92 rfl (by omega) (by decide) rfl ?_
  refine k_iload hC dJ6_getChars_ba4f3_95 0 rfl ?_
  refine k_dgs2 hC wf_J6_87 dJ6_getChars_ba4f3_97 ?_
  refine k_iload_n hC dJ6_getChars_ba4f3_100 rfl 1 rfl ?_
  refine k_ineg hC dJ6_getChars_ba4f3_101 ?_
  refine k_topv (vI (x)) (congrArg vI (by omega)) ?_
  refine k_bald2 hC (by omega) dJ6_getChars_ba4f3_102 ?_
  refine k_topv (vI (48 + x / 10)) (congrArg vI (by omega)) ?_
  refine k_bastF hC 0 [(q, bA G n (kup (kup f (b0 + 1) (48 + x % 10)) b0 (48 + x / 10)))] rfl (by rw [show ((b0 : Int) + 2 - 1 - 1).toNat = b0 by omega]; rfl) (by omega) (by omega) (by omega) dJ6_getChars_ba4f3_103 ?_
  refine k_iload hC dJ6_getChars_ba4f3_104 2 rfl ?_
  refine k_if_eq hC 118 dJ6_getChars_ba4f3_106 rfl (by omega) (fun c_106 => ?_) (fun c_106 => absurd c_106 (by omega))
  refine k_iload hC dJ6_getChars_ba4f3_118 0 rfl ?_
  subst hQ
  exact k_iret hC hr ⟨by decide, by decide⟩ (⟨congrArg (fun z => some (vI z)) (show (b0 : Int) = (b0 : Int) + 2 - 1 - 1 from by omega), rfl, rfl⟩) dJ6_getChars_ba4f3_120

set_option maxRecDepth 100000 in
set_option maxHeartbeats 4000000 in
theorem c_J5_append_I2_in (l : Launch) (hls : l.stackTraces = false) (G : kG) (hN : kN G = 150) (w : Nat → va_E) (fl : va_W) (T : List Int) (cap : Nat) (x : Int) (hsb : sbC G w fl T cap) (hx : 10 ≤ x ∧ x < 100) (hlt : (T.length : Int) + ((dgN 10 48 4 x).length : Int) ≤ (cap : Int)) : KM l G yJ5_append_c97b9 cJ5_append_c97b9 4 (some ((FieldType.object "java/lang/AbstractStringBuilder"))) 1 0 0 [.ref (kad G 132), vI x] w fl (fun v1 w1 fl1 => some (.ref (kad G 132)) = v1 ∧ sbP G w (T ++ dgN 10 48 4 x) (fun z => z = cap) w1 fl1) := by
  refine KM_ofF hls (by decide +kernel) rfl (lv0 := [(0, .ref (kad G 132)), (1, vI x)]) rfl (Nat.le_of_ble_eq_true rfl) (fun p e R s m args below meth c Q hC hr hQ => ?_)
  have hsb0 := hsb
  obtain ⟨q, f, ml, hfl, h132, hcap, hlen, h8, hcd⟩ := hsb
  subst hfl
  have hL := dg4_2 hx
  rw [hL] at hlt
  have hlt2 : (T.length : Int) + 2 ≤ (cap : Int) := hlt
  refine k_aload_n hC dJ5_append_c97b9_0 rfl 0 rfl ?_
  refine k_get hC fd_J5_79 (kl hN (by decide)) h132 rfl dJ5_append_c97b9_1 ?_
  refine k_istore_n hC [(2, vI (T.length : Int)), (0, .ref (kad G 132)), (1, vI x)] dJ5_append_c97b9_4 rfl (by decide) rfl ?_
  refine k_iload_n hC dJ5_append_c97b9_5 rfl 0 rfl ?_
  refine k_iload_n hC dJ5_append_c97b9_6 rfl 2 rfl ?_
  refine k_pureS hC (c_J6_stringSize_2 l hls G hN w [(q, bA G cap f)] x hx) yy_J6_stringSize_0f7a4 wm_J5_245 rfl rfl (Nat.le_of_ble_eq_true rfl) (by decide) (by decide) ⟨by decide, by decide⟩ dJ5_append_c97b9_7 ?_
  refine k_iadd hC dJ5_append_c97b9_10 ?_
  refine k_istore_n hC [(3, vI ((T.length : Int) + 2)), (2, vI (T.length : Int)), (0, .ref (kad G 132)), (1, vI x)] dJ5_append_c97b9_11 rfl (by decide) rfl ?_
  refine k_aload_n hC dJ5_append_c97b9_12 rfl 2 rfl ?_
  refine k_iload_n hC dJ5_append_c97b9_13 rfl 0 rfl ?_
  refine k_callU hC (c_J5_ensure_in l hls G hN w [(q, bA G cap f)] T cap ((T.length : Int) + 2) hsb0 (by omega)) yu_J5_ensureCapacityInternal_d00df wm_J5_100 (kl hN (by decide)) h132 rfl rfl (Nat.le_of_ble_eq_true rfl) (by decide) (by decide) ⟨by decide, by decide⟩ dJ5_append_c97b9_14 (fun v1 w1 fl1 hp1 => ?_)
  obtain ⟨hp1a, hp1b, hp1c⟩ := hp1; subst hp1a; subst hp1b; subst hp1c
  show KW p l e R s m args below meth c 4 G Q w [(q, bA G cap f)] 0 0 17 [(3, vI ((T.length : Int) + 2)), (2, vI (T.length : Int)), (0, .ref (kad G 132)), (1, vI x)] []
  refine k_aload_n hC dJ5_append_c97b9_17 rfl 2 rfl ?_
  refine k_callU hC (c_J5_isLatin1_aae02 l hls G hN w [(q, bA G cap f)] q ml (T.length : Int) h132) yu_J5_isLatin1_aae02 wm_J5_83 (kl hN (by decide)) h132 rfl rfl (Nat.le_of_ble_eq_true rfl) (by decide) (by decide) ⟨by decide, by decide⟩ dJ5_append_c97b9_18 (fun v2 w2 fl2 hp2 => ?_)
  obtain ⟨hp2a, hp2b, hp2c⟩ := hp2; subst hp2a; subst hp2b; subst hp2c
  show KW p l e R s m args below meth c 4 G Q w [(q, bA G cap f)] 0 0 21 [(3, vI ((T.length : Int) + 2)), (2, vI (T.length : Int)), (0, .ref (kad G 132)), (1, vI x)] [vI 1]
  refine k_if_eq hC 37 dJ5_append_c97b9_21 rfl (by omega) (fun c_21 => absurd c_21 (by omega)) (fun c_21 => ?_)
  refine k_iload_n hC dJ5_append_c97b9_24 rfl 3 rfl ?_
  refine k_iload_n hC dJ5_append_c97b9_25 rfl 0 rfl ?_
  refine k_aload_n hC dJ5_append_c97b9_26 rfl 2 rfl ?_
  refine k_get hC fd_J5_15 (kl hN (by decide)) h132 rfl dJ5_append_c97b9_27 ?_
  refine k_callS hC (c_J6_getChars_2 l hls G hN w [(q, bA G cap f)] q cap T.length f x rfl (by omega) (by omega) hx) yy_J6_getChars_ba4f3 wm_J5_248 rfl rfl (Nat.le_of_ble_eq_true rfl) (by decide) (by decide) ⟨by decide, by decide⟩ dJ5_append_c97b9_30 (fun v3 w3 fl3 hp3 => ?_)
  obtain ⟨hp3a, hp3b, hp3c⟩ := hp3; subst hp3a; subst hp3b; subst hp3c
  show KW p l e R s m args below meth c 4 G Q w [(q, bA G cap (kup (kup f (T.length + 1) (48 + x % 10)) T.length (48 + x / 10)))] 0 0 33 [(3, vI ((T.length : Int) + 2)), (2, vI (T.length : Int)), (0, .ref (kad G 132)), (1, vI x)] [vI (T.length : Int)]
  refine k_pop hC dJ5_append_c97b9_33 rfl ?_
  refine k_goto hC 48 dJ5_append_c97b9_34 rfl ?_
  refine k_aload_n hC dJ5_append_c97b9_48 rfl 2 rfl ?_
  refine k_iload_n hC dJ5_append_c97b9_49 rfl 0 rfl ?_
  refine k_topv (vI (((T ++ [48 + x / 10, 48 + x % 10]).length : Int))) (congrArg vI (by rw [List.length_append]; show _ = ((T.length + 2 : Nat) : Int); omega)) ?_
  refine k_put hC fd_J5_79 (kl hN (by decide)) h132 [.ref q, vI 0, ml, vI ((T ++ [48 + x / 10, 48 + x % 10]).length : Int)] rfl (Nat.le_of_ble_eq_true rfl) rfl rfl dJ5_append_c97b9_50 (fun w4 hw4 hf4 => ?_)
  refine k_aload_n hC dJ5_append_c97b9_53 rfl 2 rfl ?_
  subst hQ
  exact k_aret hC hr (Or.inl ⟨_, rfl⟩) (Or.inr ⟨_, rfl⟩) ⟨by decide, by decide⟩ (by show _ ∧ sbP G w (T ++ dgN 10 48 4 x) _ _ _; rw [hL]; exact ⟨rfl, cap, ⟨q, _, ml, rfl, hw4, hcap, by rw [List.length_append]; show T.length + 2 ≤ _; omega, kup_8 (kup_8 (h8) (by omega)) (by omega), cdR_app hcd (fun j hj => (kup_n (by omega)).trans (kup_n (by omega))) (fun i hi => by match i, hi with | 0, _ => exact kup_s | 1, _ => exact (kup_n (by omega)).trans (kup_s) | k + 2, h => exact absurd h (by show ¬ (k + 2 < 2); omega))⟩, rfl, fun j hj => hf4 j (by omega)⟩) dJ5_append_c97b9_54

set_option maxRecDepth 100000 in
set_option maxHeartbeats 4000000 in
theorem c_J5_append_I2_any (l : Launch) (hls : l.stackTraces = false) (G : kG) (hN : kN G = 150) (w : Nat → va_E) (fl : va_W) (T : List Int) (cap : Nat) (x : Int) (hsb : sbC G w fl T cap) (hx : 10 ≤ x ∧ x < 100) (hlt : (T.length : Int) + ((dgN 10 48 4 x).length : Int) ≤ 34) : KM l G yJ5_append_c97b9 cJ5_append_c97b9 4 (some ((FieldType.object "java/lang/AbstractStringBuilder"))) 4 1 34 [.ref (kad G 132), vI x] w fl (fun v1 w1 fl1 => some (.ref (kad G 132)) = v1 ∧ sbP G w (T ++ dgN 10 48 4 x) (fun z => cap ≤ z) w1 fl1) := by
  refine KM_ofF hls (by decide +kernel) rfl (lv0 := [(0, .ref (kad G 132)), (1, vI x)]) rfl (Nat.le_of_ble_eq_true rfl) (fun p e R s m args below meth c Q hC hr hQ => ?_)
  have hsb0 := hsb
  obtain ⟨q, f, ml, hfl, h132, hcap, hlen, h8, hcd⟩ := hsb
  subst hfl
  have hL := dg4_2 hx
  rw [hL] at hlt
  have hlt2 : (T.length : Int) + 2 ≤ 34 := hlt
  refine k_aload_n hC dJ5_append_c97b9_0 rfl 0 rfl ?_
  refine k_get hC fd_J5_79 (kl hN (by decide)) h132 rfl dJ5_append_c97b9_1 ?_
  refine k_istore_n hC [(2, vI (T.length : Int)), (0, .ref (kad G 132)), (1, vI x)] dJ5_append_c97b9_4 rfl (by decide) rfl ?_
  refine k_iload_n hC dJ5_append_c97b9_5 rfl 0 rfl ?_
  refine k_iload_n hC dJ5_append_c97b9_6 rfl 2 rfl ?_
  refine k_pureS hC (c_J6_stringSize_2 l hls G hN w [(q, bA G cap f)] x hx) yy_J6_stringSize_0f7a4 wm_J5_245 rfl rfl (Nat.le_of_ble_eq_true rfl) (by decide) (by decide) ⟨by decide, by decide⟩ dJ5_append_c97b9_7 ?_
  refine k_iadd hC dJ5_append_c97b9_10 ?_
  refine k_istore_n hC [(3, vI ((T.length : Int) + 2)), (2, vI (T.length : Int)), (0, .ref (kad G 132)), (1, vI x)] dJ5_append_c97b9_11 rfl (by decide) rfl ?_
  refine k_aload_n hC dJ5_append_c97b9_12 rfl 2 rfl ?_
  refine k_iload_n hC dJ5_append_c97b9_13 rfl 0 rfl ?_
  refine k_callU hC (c_J5_ensure_any l hls G hN w [(q, bA G cap f)] T cap ((T.length : Int) + 2) hsb0 (by omega)) yu_J5_ensureCapacityInternal_d00df wm_J5_100 (kl hN (by decide)) h132 rfl rfl (Nat.le_of_ble_eq_true rfl) (by decide) (by decide) ⟨by decide, by decide⟩ dJ5_append_c97b9_14 (fun v1 w1 fl1 hp1 => ?_)
  obtain ⟨hp1a, cap1, hsb1, hcp1, hf1⟩ := hp1; subst hp1a
  have hsb0 := hsb1
  obtain ⟨q, f, ml, hfl, h132, hcap, hlen, h8, hcd⟩ := hsb1
  subst hfl
  show KW p l e R s m args below meth c 4 G Q w1 [(q, bA G cap1 f)] 1 34 17 [(3, vI ((T.length : Int) + 2)), (2, vI (T.length : Int)), (0, .ref (kad G 132)), (1, vI x)] []
  refine k_aload_n hC dJ5_append_c97b9_17 rfl 2 rfl ?_
  refine k_callU hC (c_J5_isLatin1_aae02 l hls G hN w1 [(q, bA G cap1 f)] q ml (T.length : Int) h132) yu_J5_isLatin1_aae02 wm_J5_83 (kl hN (by decide)) h132 rfl rfl (Nat.le_of_ble_eq_true rfl) (by decide) (by decide) ⟨by decide, by decide⟩ dJ5_append_c97b9_18 (fun v2 w2 fl2 hp2 => ?_)
  obtain ⟨hp2a, hp2b, hp2c⟩ := hp2; subst hp2a; subst hp2b; subst hp2c
  show KW p l e R s m args below meth c 4 G Q w1 [(q, bA G cap1 f)] 1 34 21 [(3, vI ((T.length : Int) + 2)), (2, vI (T.length : Int)), (0, .ref (kad G 132)), (1, vI x)] [vI 1]
  refine k_if_eq hC 37 dJ5_append_c97b9_21 rfl (by omega) (fun c_21 => absurd c_21 (by omega)) (fun c_21 => ?_)
  refine k_iload_n hC dJ5_append_c97b9_24 rfl 3 rfl ?_
  refine k_iload_n hC dJ5_append_c97b9_25 rfl 0 rfl ?_
  refine k_aload_n hC dJ5_append_c97b9_26 rfl 2 rfl ?_
  refine k_get hC fd_J5_15 (kl hN (by decide)) h132 rfl dJ5_append_c97b9_27 ?_
  refine k_callS hC (c_J6_getChars_2 l hls G hN w1 [(q, bA G cap1 f)] q cap1 T.length f x rfl (by omega) (by omega) hx) yy_J6_getChars_ba4f3 wm_J5_248 rfl rfl (Nat.le_of_ble_eq_true rfl) (by decide) (by decide) ⟨by decide, by decide⟩ dJ5_append_c97b9_30 (fun v3 w3 fl3 hp3 => ?_)
  obtain ⟨hp3a, hp3b, hp3c⟩ := hp3; subst hp3a; subst hp3b; subst hp3c
  show KW p l e R s m args below meth c 4 G Q w1 [(q, bA G cap1 (kup (kup f (T.length + 1) (48 + x % 10)) T.length (48 + x / 10)))] 1 34 33 [(3, vI ((T.length : Int) + 2)), (2, vI (T.length : Int)), (0, .ref (kad G 132)), (1, vI x)] [vI (T.length : Int)]
  refine k_pop hC dJ5_append_c97b9_33 rfl ?_
  refine k_goto hC 48 dJ5_append_c97b9_34 rfl ?_
  refine k_aload_n hC dJ5_append_c97b9_48 rfl 2 rfl ?_
  refine k_iload_n hC dJ5_append_c97b9_49 rfl 0 rfl ?_
  refine k_topv (vI (((T ++ [48 + x / 10, 48 + x % 10]).length : Int))) (congrArg vI (by rw [List.length_append]; show _ = ((T.length + 2 : Nat) : Int); omega)) ?_
  refine k_put hC fd_J5_79 (kl hN (by decide)) h132 [.ref q, vI 0, ml, vI ((T ++ [48 + x / 10, 48 + x % 10]).length : Int)] rfl (Nat.le_of_ble_eq_true rfl) rfl rfl dJ5_append_c97b9_50 (fun w4 hw4 hf4 => ?_)
  refine k_aload_n hC dJ5_append_c97b9_53 rfl 2 rfl ?_
  subst hQ
  exact k_aret hC hr (Or.inl ⟨_, rfl⟩) (Or.inr ⟨_, rfl⟩) ⟨by decide, by decide⟩ (by show _ ∧ sbP G w (T ++ dgN 10 48 4 x) _ _ _; rw [hL]; exact ⟨rfl, cap1, ⟨q, _, ml, rfl, hw4, hcap, by rw [List.length_append]; show T.length + 2 ≤ _; omega, kup_8 (kup_8 (h8) (by omega)) (by omega), cdR_app hcd (fun j hj => (kup_n (by omega)).trans (kup_n (by omega))) (fun i hi => by match i, hi with | 0, _ => exact kup_s | 1, _ => exact (kup_n (by omega)).trans (kup_s) | k + 2, h => exact absurd h (by show ¬ (k + 2 < 2); omega))⟩, by omega, fun j hj => (hf4 j (by omega)).trans (hf1 j (by omega))⟩) dJ5_append_c97b9_54

set_option maxRecDepth 100000 in
set_option maxHeartbeats 4000000 in
theorem c_J6_stringSize_3 (l : Launch) (hls : l.stackTraces = false) (G : kG) (hN : kN G = 150) (w : Nat → va_E) (fl : va_W) (x : Int) (hx : 100 ≤ x ∧ x < 1000) : KM l G yJ6_stringSize_0f7a4 cJ6_stringSize_0f7a4 4 (some (FieldType.int)) 0 0 0 [vI x] w fl (kPure (vI 3) w fl) := by
  refine KM_ofF hls (by decide +kernel) rfl (lv0 := [(0, vI x)]) rfl (Nat.le_of_ble_eq_true rfl) (fun p e R s m args below meth c Q hC hr hQ => ?_)
  refine k_iconst hC dJ6_stringSize_0f7a4_0 ?_
  refine k_istore_n hC [(1, vI 1), (0, vI x)] dJ6_stringSize_0f7a4_1 rfl (by decide) rfl ?_
  refine k_iload_n hC dJ6_stringSize_0f7a4_2 rfl 1 rfl ?_
  refine k_if_lt hC 11 dJ6_stringSize_0f7a4_3 rfl (by omega) (fun c_3 => absurd c_3 (by omega)) (fun c_3 => ?_)
  refine k_iconst hC dJ6_stringSize_0f7a4_6 ?_
  refine k_istore_n hC [(1, vI 0), (0, vI x)] dJ6_stringSize_0f7a4_7 rfl (by decide) rfl ?_
  refine k_iload_n hC dJ6_stringSize_0f7a4_8 rfl 1 rfl ?_
  refine k_ineg hC dJ6_stringSize_0f7a4_9 ?_
  refine k_istore_n hC [(0, vI (-x)), (1, vI 0)] dJ6_stringSize_0f7a4_10 rfl (by decide) rfl ?_
  refine k_bipush hC dJ6_stringSize_0f7a4_11 (by decide) ?_
  refine k_istore_n hC [(2, vI (-10)), (0, vI (-x)), (1, vI 0)] dJ6_stringSize_0f7a4_13 rfl (by decide) rfl ?_
  refine k_iconst hC dJ6_stringSize_0f7a4_14 ?_
  refine k_istore_n hC [(3, vI 1), (2, vI (-10)), (0, vI (-x)), (1, vI 0)] dJ6_stringSize_0f7a4_15 rfl (by decide) rfl ?_
  refine k_iload_n hC dJ6_stringSize_0f7a4_16 rfl 0 rfl ?_
  refine k_bipush hC dJ6_stringSize_0f7a4_17 (by decide) ?_
  refine k_icmp_ge hC 42 dJ6_stringSize_0f7a4_19 rfl (by omega) (by omega) (fun c_19 => absurd c_19 (by omega)) (fun c_19 => ?_)
  refine k_iload_n hC dJ6_stringSize_0f7a4_22 rfl 2 rfl ?_
  refine k_iload_n hC dJ6_stringSize_0f7a4_23 rfl 1 rfl ?_
  refine k_icmp_le hC 31 dJ6_stringSize_0f7a4_24 rfl (by omega) (by omega) (fun c_24 => ?_) (fun c_24 => absurd c_24 (by omega))
  refine k_bipush hC dJ6_stringSize_0f7a4_31 (by decide) ?_
  refine k_iload_n hC dJ6_stringSize_0f7a4_33 rfl 1 rfl ?_
  refine k_imul hC dJ6_stringSize_0f7a4_34 ?_
  refine k_topv (vI (-100)) rfl ?_
  refine k_istore_n hC [(2, vI (-100)), (3, vI 1), (0, vI (-x)), (1, vI 0)] dJ6_stringSize_0f7a4_35 rfl (by decide) rfl ?_
  refine k_iinc hC (y := 2) [(3, vI 2), (2, vI (-100)), (0, vI (-x)), (1, vI 0)] (j := 1) dJ6_stringSize_0f7a4_36 rfl (by decide) (by decide) rfl ?_
  refine k_goto hC 16 dJ6_stringSize_0f7a4_39 rfl ?_
  refine k_iload_n hC dJ6_stringSize_0f7a4_16 rfl 0 rfl ?_
  refine k_bipush hC dJ6_stringSize_0f7a4_17 (by decide) ?_
  refine k_icmp_ge hC 42 dJ6_stringSize_0f7a4_19 rfl (by omega) (by omega) (fun c_19 => absurd c_19 (by omega)) (fun c_19 => ?_)
  refine k_iload_n hC dJ6_stringSize_0f7a4_22 rfl 2 rfl ?_
  refine k_iload_n hC dJ6_stringSize_0f7a4_23 rfl 1 rfl ?_
  refine k_icmp_le hC 31 dJ6_stringSize_0f7a4_24 rfl (by omega) (by omega) (fun c_24 => ?_) (fun c_24 => absurd c_24 (by omega))
  refine k_bipush hC dJ6_stringSize_0f7a4_31 (by decide) ?_
  refine k_iload_n hC dJ6_stringSize_0f7a4_33 rfl 1 rfl ?_
  refine k_imul hC dJ6_stringSize_0f7a4_34 ?_
  refine k_topv (vI (-1000)) rfl ?_
  refine k_istore_n hC [(2, vI (-1000)), (3, vI 2), (0, vI (-x)), (1, vI 0)] dJ6_stringSize_0f7a4_35 rfl (by decide) rfl ?_
  refine k_iinc hC (y := 3) [(3, vI 3), (2, vI (-1000)), (0, vI (-x)), (1, vI 0)] (j := 1) dJ6_stringSize_0f7a4_36 rfl (by decide) (by decide) rfl ?_
  refine k_goto hC 16 dJ6_stringSize_0f7a4_39 rfl ?_
  refine k_iload_n hC dJ6_stringSize_0f7a4_16 rfl 0 rfl ?_
  refine k_bipush hC dJ6_stringSize_0f7a4_17 (by decide) ?_
  refine k_icmp_ge hC 42 dJ6_stringSize_0f7a4_19 rfl (by omega) (by omega) (fun c_19 => absurd c_19 (by omega)) (fun c_19 => ?_)
  refine k_iload_n hC dJ6_stringSize_0f7a4_22 rfl 2 rfl ?_
  refine k_iload_n hC dJ6_stringSize_0f7a4_23 rfl 1 rfl ?_
  refine k_icmp_le hC 31 dJ6_stringSize_0f7a4_24 rfl (by omega) (by omega) (fun c_24 => absurd c_24 (by omega)) (fun c_24 => ?_)
  refine k_iload_n hC dJ6_stringSize_0f7a4_27 rfl 0 rfl ?_
  refine k_iload_n hC dJ6_stringSize_0f7a4_28 rfl 3 rfl ?_
  refine k_iadd hC dJ6_stringSize_0f7a4_29 ?_
  subst hQ
  exact k_iret hC hr ⟨by decide, by decide⟩ (⟨congrArg (fun z => some (vI z)) (show (3 : Int) = 3 + 0 from by omega), rfl, rfl⟩) dJ6_stringSize_0f7a4_30

set_option maxRecDepth 100000 in
set_option maxHeartbeats 4000000 in
theorem c_J6_getChars_3 (l : Launch) (hls : l.stackTraces = false) (G : kG) (hN : kN G = 150) (w : Nat → va_E) (fl : va_W) (q n b0 : Nat) (f : Nat → Int) (x : Int) (hfl : fl = [(q, bA G n f)]) (hn : n ≤ 34) (hcn : b0 + 3 ≤ n) (hx : 100 ≤ x ∧ x < 1000) : KM l G yJ6_getChars_ba4f3 cJ6_getChars_ba4f3 7 (some (FieldType.int)) 0 0 0 [vI x, vI ((b0 : Int) + 3), .ref q] w fl (fun v1 w1 fl1 => some (vI (b0 : Int)) = v1 ∧ w = w1 ∧ fl1 = [(q, bA G n (kup (kup (kup f (b0 + 2) (48 + x % 10)) (b0 + 1) (48 + x / 10 % 10)) b0 (48 + x / 100)))]) := by
  refine KM_ofF hls (by decide +kernel) rfl (lv0 := [(0, vI x), (1, vI ((b0 : Int) + 3)), (2, .ref q)]) rfl (Nat.le_of_ble_eq_true rfl) (fun p e R s m args below meth c Q hC hr hQ => ?_)
  subst hfl
  refine k_iload_n hC dJ6_getChars_ba4f3_0 rfl 1 rfl ?_
  refine k_istore hC [(5, vI ((b0 : Int) + 3)), (0, vI x), (1, vI ((b0 : Int) + 3)), (2, .ref q)] dJ6_getChars_ba4f3_1 (by decide) rfl ?_
  refine k_iload_n hC dJ6_getChars_ba4f3_3 rfl 1 rfl ?_
  refine k_if_ge hC 11 dJ6_getChars_ba4f3_4 rfl (by omega) (fun c_4 => ?_) (fun c_4 => absurd c_4 (by omega))
  refine k_iconst hC dJ6_getChars_ba4f3_11 ?_
  refine k_istore hC [(6, vI 0), (5, vI ((b0 : Int) + 3)), (0, vI x), (1, vI ((b0 : Int) + 3)), (2, .ref q)] dJ6_getChars_ba4f3_12 (by decide) rfl ?_
  refine k_iload hC dJ6_getChars_ba4f3_14 0 rfl ?_
  refine k_if_ne hC 22 dJ6_getChars_ba4f3_16 rfl (by omega) (fun c_16 => absurd c_16 (by omega)) (fun c_16 => ?_)
  refine k_iload_n hC dJ6_getChars_ba4f3_19 rfl 2 rfl ?_
  refine k_ineg hC dJ6_getChars_ba4f3_20 ?_
  refine k_istore_n hC [(0, vI (-x)), (6, vI 0), (5, vI ((b0 : Int) + 3)), (1, vI ((b0 : Int) + 3)), (2, .ref q)] dJ6_getChars_ba4f3_21 rfl (by decide) rfl ?_
  refine k_iload_n hC dJ6_getChars_ba4f3_22 rfl 0 rfl ?_
  refine k_bipush hC dJ6_getChars_ba4f3_23 (by decide) ?_
  refine k_icmp_gt hC 72 dJ6_getChars_ba4f3_25 rfl (by omega) (by omega) (fun c_25 => absurd c_25 (by omega)) (fun c_25 => ?_)
  refine k_iload_n hC dJ6_getChars_ba4f3_28 rfl 0 rfl ?_
  refine k_bipush hC dJ6_getChars_ba4f3_29 (by decide) ?_
  refine k_idiv hC dJ6_getChars_ba4f3_31 (by omega) (by omega) ?_
  refine k_topv (vI (-(x / 100))) (congrArg vI (by rw [Int.neg_tdiv, Int.tdiv_eq_ediv_of_nonneg (by omega)])) ?_
  refine k_istore_n hC [(3, vI (-(x / 100))), (0, vI (-x)), (6, vI 0), (5, vI ((b0 : Int) + 3)), (1, vI ((b0 : Int) + 3)), (2, .ref q)] dJ6_getChars_ba4f3_32 rfl (by decide) rfl ?_
  refine k_iload_n hC dJ6_getChars_ba4f3_33 rfl 0 rfl ?_
  refine k_bipush hC dJ6_getChars_ba4f3_34 (by decide) ?_
  refine k_imul hC dJ6_getChars_ba4f3_36 ?_
  refine k_iload_n hC dJ6_getChars_ba4f3_37 rfl 1 rfl ?_
  refine k_isub hC dJ6_getChars_ba4f3_38 ?_
  refine k_topv (vI (x % 100)) (congrArg vI (by omega)) ?_
  refine k_istore hC [(4, vI (x % 100)), (3, vI (-(x / 100))), (0, vI (-x)), (6, vI 0), (5, vI ((b0 : Int) + 3)), (1, vI ((b0 : Int) + 3)), (2, .ref q)] dJ6_getChars_ba4f3_39 (by decide) rfl ?_
  refine k_iload_n hC dJ6_getChars_ba4f3_41 rfl 1 rfl ?_
  refine k_istore_n hC [(0, vI (-(x / 100))), (4, vI (x % 100)), (3, vI (-(x / 100))), (6, vI 0), (5, vI ((b0 : Int) + 3)), (1, vI ((b0 : Int) + 3)), (2, .ref q)] dJ6_getChars_ba4f3_42 rfl (by decide) rfl ?_
  refine k_aload_n hC dJ6_getChars_ba4f3_43 rfl 6 rfl ?_
  refine k_iinc hC (y := (b0 : Int) + 3 - 1) [(5, vI ((b0 : Int) + 3 - 1)), (0, vI (-(x / 100))), (4, vI (x % 100)), (3, vI (-(x / 100))), (6, vI 0), (1, vI ((b0 : Int) + 3)), (2, .ref q)] (j := 4) dJ6_getChars_ba4f3_44 rfl (by omega) (by decide) rfl ?_
  refine k_iload hC dJ6_getChars_ba4f3_47 0 rfl ?_
  refine k_dgs1 hC wf_J6_83 dJ6_getChars_ba4f3_49 ?_
  refine k_iload hC dJ6_getChars_ba4f3_52 2 rfl ?_
  refine k_bald1 hC (by omega) dJ6_getChars_ba4f3_54 ?_
  refine k_topv (vI (48 + x % 10)) (congrArg vI (by omega)) ?_
  refine k_bastF hC 0 [(q, bA G n (kup f (b0 + 2) (48 + x % 10)))] rfl (by rw [show ((b0 : Int) + 3 - 1).toNat = b0 + 2 by omega]; rfl) (by omega) (by omega) (by omega) dJ6_getChars_ba4f3_55 ?_
  refine k_aload_n hC dJ6_getChars_ba4f3_56 rfl 6 rfl ?_
  refine k_iinc hC (y := (b0 : Int) + 3 - 1 - 1) [(5, vI ((b0 : Int) + 3 - 1 - 1)), (0, vI (-(x / 100))), (4, vI (x % 100)), (3, vI (-(x / 100))), (6, vI 0), (1, vI ((b0 : Int) + 3)), (2, .ref q)] (j := 0) dJ6_getChars_ba4f3_57 rfl (by omega) (by decide) rfl ?_
  refine k_iload hC dJ6_getChars_ba4f3_60 0 rfl ?_
  refine k_dgs2 hC wf_J6_87 dJ6_getChars_ba4f3_62 ?_
  refine k_iload hC dJ6_getChars_ba4f3_65 2 rfl ?_
  refine k_bald2 hC (by omega) dJ6_getChars_ba4f3_67 ?_
  refine k_topv (vI (48 + x / 10 % 10)) (congrArg vI (by omega)) ?_
  refine k_bastF hC 0 [(q, bA G n (kup (kup f (b0 + 2) (48 + x % 10)) (b0 + 1) (48 + x / 10 % 10)))] rfl (by rw [show ((b0 : Int) + 3 - 1 - 1).toNat = b0 + 1 by omega]; rfl) (by omega) (by omega) (by omega) dJ6_getChars_ba4f3_68 ?_
  refine k_goto hC 22 dJ6_getChars_ba4f3_69 rfl ?_
  refine k_iload_n hC dJ6_getChars_ba4f3_22 rfl 1 rfl ?_
  refine k_bipush hC dJ6_getChars_ba4f3_23 (by decide) ?_
  refine k_icmp_gt hC 72 dJ6_getChars_ba4f3_25 rfl (by omega) (by omega) (fun c_25 => ?_) (fun c_25 => absurd c_25 (by omega))
  refine k_aload_n hC dJ6_getChars_ba4f3_72 rfl 6 rfl ?_
  refine k_iinc hC (y := (b0 : Int) + 3 - 1 - 1 - 1) [(5, vI ((b0 : Int) + 3 - 1 - 1 - 1)), (0, vI (-(x / 100))), (4, vI (x % 100)), (3, vI (-(x / 100))), (6, vI 0), (1, vI ((b0 : Int) + 3)), (2, .ref q)] (j := 0) dJ6_getChars_ba4f3_73 rfl (by omega) (by decide) rfl ?_
  refine k_iload hC dJ6_getChars_ba4f3_76 0 rfl ?_
  refine k_dgs1 hC wf_J6_83 dJ6_getChars_ba4f3_78 ?_
  refine k_iload_n hC dJ6_getChars_ba4f3_81 rfl 1 rfl ?_
  refine k_ineg hC dJ6_getChars_ba4f3_82 ?_
  refine k_topv (vI (x / 100)) (congrArg vI (by omega)) ?_
  refine k_bald1 hC (by omega) dJ6_getChars_ba4f3_83 ?_
  refine k_topv (vI (48 + x / 100)) (congrArg vI (by omega)) ?_
  refine k_bastF hC 0 [(q, bA G n (kup (kup (kup f (b0 + 2) (48 + x % 10)) (b0 + 1) (48 + x / 10 % 10)) b0 (48 + x / 100)))] rfl (by rw [show ((b0 : Int) + 3 - 1 - 1 - 1).toNat = b0 by omega]; rfl) (by omega) (by omega) (by omega) dJ6_getChars_ba4f3_84 ?_
  refine k_iload_n hC dJ6_getChars_ba4f3_85 rfl 1 rfl ?_
  refine k_bipush hC dJ6_getChars_ba4f3_86 (by decide) ?_
  refine k_icmp_ge hC 104 dJ6_getChars_ba4f3_88 rfl (by omega) (by omega) (fun c_88 => ?_) (fun c_88 => absurd c_88 (by omega))
  refine k_iload hC dJ6_getChars_ba4f3_104 4 rfl ?_
  refine k_if_eq hC 118 dJ6_getChars_ba4f3_106 rfl (by omega) (fun c_106 => ?_) (fun c_106 => absurd c_106 (by omega))
  refine k_iload hC dJ6_getChars_ba4f3_118 0 rfl ?_
  subst hQ
  exact k_iret hC hr ⟨by decide, by decide⟩ (⟨congrArg (fun z => some (vI z)) (show (b0 : Int) = (b0 : Int) + 3 - 1 - 1 - 1 from by omega), rfl, rfl⟩) dJ6_getChars_ba4f3_120

set_option maxRecDepth 100000 in
set_option maxHeartbeats 4000000 in
theorem c_J5_append_I3_in (l : Launch) (hls : l.stackTraces = false) (G : kG) (hN : kN G = 150) (w : Nat → va_E) (fl : va_W) (T : List Int) (cap : Nat) (x : Int) (hsb : sbC G w fl T cap) (hx : 100 ≤ x ∧ x < 1000) (hlt : (T.length : Int) + ((dgN 10 48 4 x).length : Int) ≤ (cap : Int)) : KM l G yJ5_append_c97b9 cJ5_append_c97b9 4 (some ((FieldType.object "java/lang/AbstractStringBuilder"))) 1 0 0 [.ref (kad G 132), vI x] w fl (fun v1 w1 fl1 => some (.ref (kad G 132)) = v1 ∧ sbP G w (T ++ dgN 10 48 4 x) (fun z => z = cap) w1 fl1) := by
  refine KM_ofF hls (by decide +kernel) rfl (lv0 := [(0, .ref (kad G 132)), (1, vI x)]) rfl (Nat.le_of_ble_eq_true rfl) (fun p e R s m args below meth c Q hC hr hQ => ?_)
  have hsb0 := hsb
  obtain ⟨q, f, ml, hfl, h132, hcap, hlen, h8, hcd⟩ := hsb
  subst hfl
  have hL := dg4_3 hx
  rw [hL] at hlt
  have hlt2 : (T.length : Int) + 3 ≤ (cap : Int) := hlt
  refine k_aload_n hC dJ5_append_c97b9_0 rfl 0 rfl ?_
  refine k_get hC fd_J5_79 (kl hN (by decide)) h132 rfl dJ5_append_c97b9_1 ?_
  refine k_istore_n hC [(2, vI (T.length : Int)), (0, .ref (kad G 132)), (1, vI x)] dJ5_append_c97b9_4 rfl (by decide) rfl ?_
  refine k_iload_n hC dJ5_append_c97b9_5 rfl 0 rfl ?_
  refine k_iload_n hC dJ5_append_c97b9_6 rfl 2 rfl ?_
  refine k_pureS hC (c_J6_stringSize_3 l hls G hN w [(q, bA G cap f)] x hx) yy_J6_stringSize_0f7a4 wm_J5_245 rfl rfl (Nat.le_of_ble_eq_true rfl) (by decide) (by decide) ⟨by decide, by decide⟩ dJ5_append_c97b9_7 ?_
  refine k_iadd hC dJ5_append_c97b9_10 ?_
  refine k_istore_n hC [(3, vI ((T.length : Int) + 3)), (2, vI (T.length : Int)), (0, .ref (kad G 132)), (1, vI x)] dJ5_append_c97b9_11 rfl (by decide) rfl ?_
  refine k_aload_n hC dJ5_append_c97b9_12 rfl 2 rfl ?_
  refine k_iload_n hC dJ5_append_c97b9_13 rfl 0 rfl ?_
  refine k_callU hC (c_J5_ensure_in l hls G hN w [(q, bA G cap f)] T cap ((T.length : Int) + 3) hsb0 (by omega)) yu_J5_ensureCapacityInternal_d00df wm_J5_100 (kl hN (by decide)) h132 rfl rfl (Nat.le_of_ble_eq_true rfl) (by decide) (by decide) ⟨by decide, by decide⟩ dJ5_append_c97b9_14 (fun v1 w1 fl1 hp1 => ?_)
  obtain ⟨hp1a, hp1b, hp1c⟩ := hp1; subst hp1a; subst hp1b; subst hp1c
  show KW p l e R s m args below meth c 4 G Q w [(q, bA G cap f)] 0 0 17 [(3, vI ((T.length : Int) + 3)), (2, vI (T.length : Int)), (0, .ref (kad G 132)), (1, vI x)] []
  refine k_aload_n hC dJ5_append_c97b9_17 rfl 2 rfl ?_
  refine k_callU hC (c_J5_isLatin1_aae02 l hls G hN w [(q, bA G cap f)] q ml (T.length : Int) h132) yu_J5_isLatin1_aae02 wm_J5_83 (kl hN (by decide)) h132 rfl rfl (Nat.le_of_ble_eq_true rfl) (by decide) (by decide) ⟨by decide, by decide⟩ dJ5_append_c97b9_18 (fun v2 w2 fl2 hp2 => ?_)
  obtain ⟨hp2a, hp2b, hp2c⟩ := hp2; subst hp2a; subst hp2b; subst hp2c
  show KW p l e R s m args below meth c 4 G Q w [(q, bA G cap f)] 0 0 21 [(3, vI ((T.length : Int) + 3)), (2, vI (T.length : Int)), (0, .ref (kad G 132)), (1, vI x)] [vI 1]
  refine k_if_eq hC 37 dJ5_append_c97b9_21 rfl (by omega) (fun c_21 => absurd c_21 (by omega)) (fun c_21 => ?_)
  refine k_iload_n hC dJ5_append_c97b9_24 rfl 3 rfl ?_
  refine k_iload_n hC dJ5_append_c97b9_25 rfl 0 rfl ?_
  refine k_aload_n hC dJ5_append_c97b9_26 rfl 2 rfl ?_
  refine k_get hC fd_J5_15 (kl hN (by decide)) h132 rfl dJ5_append_c97b9_27 ?_
  refine k_callS hC (c_J6_getChars_3 l hls G hN w [(q, bA G cap f)] q cap T.length f x rfl (by omega) (by omega) hx) yy_J6_getChars_ba4f3 wm_J5_248 rfl rfl (Nat.le_of_ble_eq_true rfl) (by decide) (by decide) ⟨by decide, by decide⟩ dJ5_append_c97b9_30 (fun v3 w3 fl3 hp3 => ?_)
  obtain ⟨hp3a, hp3b, hp3c⟩ := hp3; subst hp3a; subst hp3b; subst hp3c
  show KW p l e R s m args below meth c 4 G Q w [(q, bA G cap (kup (kup (kup f (T.length + 2) (48 + x % 10)) (T.length + 1) (48 + x / 10 % 10)) T.length (48 + x / 100)))] 0 0 33 [(3, vI ((T.length : Int) + 3)), (2, vI (T.length : Int)), (0, .ref (kad G 132)), (1, vI x)] [vI (T.length : Int)]
  refine k_pop hC dJ5_append_c97b9_33 rfl ?_
  refine k_goto hC 48 dJ5_append_c97b9_34 rfl ?_
  refine k_aload_n hC dJ5_append_c97b9_48 rfl 2 rfl ?_
  refine k_iload_n hC dJ5_append_c97b9_49 rfl 0 rfl ?_
  refine k_topv (vI (((T ++ [48 + x / 100, 48 + x / 10 % 10, 48 + x % 10]).length : Int))) (congrArg vI (by rw [List.length_append]; show _ = ((T.length + 3 : Nat) : Int); omega)) ?_
  refine k_put hC fd_J5_79 (kl hN (by decide)) h132 [.ref q, vI 0, ml, vI ((T ++ [48 + x / 100, 48 + x / 10 % 10, 48 + x % 10]).length : Int)] rfl (Nat.le_of_ble_eq_true rfl) rfl rfl dJ5_append_c97b9_50 (fun w4 hw4 hf4 => ?_)
  refine k_aload_n hC dJ5_append_c97b9_53 rfl 2 rfl ?_
  subst hQ
  exact k_aret hC hr (Or.inl ⟨_, rfl⟩) (Or.inr ⟨_, rfl⟩) ⟨by decide, by decide⟩ (by show _ ∧ sbP G w (T ++ dgN 10 48 4 x) _ _ _; rw [hL]; exact ⟨rfl, cap, ⟨q, _, ml, rfl, hw4, hcap, by rw [List.length_append]; show T.length + 3 ≤ _; omega, kup_8 (kup_8 (kup_8 (h8) (by omega)) (by omega)) (by omega), cdR_app hcd (fun j hj => (kup_n (by omega)).trans ((kup_n (by omega)).trans (kup_n (by omega)))) (fun i hi => by match i, hi with | 0, _ => exact kup_s | 1, _ => exact (kup_n (by omega)).trans (kup_s) | 2, _ => exact (kup_n (by omega)).trans ((kup_n (by omega)).trans (kup_s)) | k + 3, h => exact absurd h (by show ¬ (k + 3 < 3); omega))⟩, rfl, fun j hj => hf4 j (by omega)⟩) dJ5_append_c97b9_54

set_option maxRecDepth 100000 in
set_option maxHeartbeats 4000000 in
theorem c_J5_append_I3_any (l : Launch) (hls : l.stackTraces = false) (G : kG) (hN : kN G = 150) (w : Nat → va_E) (fl : va_W) (T : List Int) (cap : Nat) (x : Int) (hsb : sbC G w fl T cap) (hx : 100 ≤ x ∧ x < 1000) (hlt : (T.length : Int) + ((dgN 10 48 4 x).length : Int) ≤ 34) : KM l G yJ5_append_c97b9 cJ5_append_c97b9 4 (some ((FieldType.object "java/lang/AbstractStringBuilder"))) 4 1 34 [.ref (kad G 132), vI x] w fl (fun v1 w1 fl1 => some (.ref (kad G 132)) = v1 ∧ sbP G w (T ++ dgN 10 48 4 x) (fun z => cap ≤ z) w1 fl1) := by
  refine KM_ofF hls (by decide +kernel) rfl (lv0 := [(0, .ref (kad G 132)), (1, vI x)]) rfl (Nat.le_of_ble_eq_true rfl) (fun p e R s m args below meth c Q hC hr hQ => ?_)
  have hsb0 := hsb
  obtain ⟨q, f, ml, hfl, h132, hcap, hlen, h8, hcd⟩ := hsb
  subst hfl
  have hL := dg4_3 hx
  rw [hL] at hlt
  have hlt2 : (T.length : Int) + 3 ≤ 34 := hlt
  refine k_aload_n hC dJ5_append_c97b9_0 rfl 0 rfl ?_
  refine k_get hC fd_J5_79 (kl hN (by decide)) h132 rfl dJ5_append_c97b9_1 ?_
  refine k_istore_n hC [(2, vI (T.length : Int)), (0, .ref (kad G 132)), (1, vI x)] dJ5_append_c97b9_4 rfl (by decide) rfl ?_
  refine k_iload_n hC dJ5_append_c97b9_5 rfl 0 rfl ?_
  refine k_iload_n hC dJ5_append_c97b9_6 rfl 2 rfl ?_
  refine k_pureS hC (c_J6_stringSize_3 l hls G hN w [(q, bA G cap f)] x hx) yy_J6_stringSize_0f7a4 wm_J5_245 rfl rfl (Nat.le_of_ble_eq_true rfl) (by decide) (by decide) ⟨by decide, by decide⟩ dJ5_append_c97b9_7 ?_
  refine k_iadd hC dJ5_append_c97b9_10 ?_
  refine k_istore_n hC [(3, vI ((T.length : Int) + 3)), (2, vI (T.length : Int)), (0, .ref (kad G 132)), (1, vI x)] dJ5_append_c97b9_11 rfl (by decide) rfl ?_
  refine k_aload_n hC dJ5_append_c97b9_12 rfl 2 rfl ?_
  refine k_iload_n hC dJ5_append_c97b9_13 rfl 0 rfl ?_
  refine k_callU hC (c_J5_ensure_any l hls G hN w [(q, bA G cap f)] T cap ((T.length : Int) + 3) hsb0 (by omega)) yu_J5_ensureCapacityInternal_d00df wm_J5_100 (kl hN (by decide)) h132 rfl rfl (Nat.le_of_ble_eq_true rfl) (by decide) (by decide) ⟨by decide, by decide⟩ dJ5_append_c97b9_14 (fun v1 w1 fl1 hp1 => ?_)
  obtain ⟨hp1a, cap1, hsb1, hcp1, hf1⟩ := hp1; subst hp1a
  have hsb0 := hsb1
  obtain ⟨q, f, ml, hfl, h132, hcap, hlen, h8, hcd⟩ := hsb1
  subst hfl
  show KW p l e R s m args below meth c 4 G Q w1 [(q, bA G cap1 f)] 1 34 17 [(3, vI ((T.length : Int) + 3)), (2, vI (T.length : Int)), (0, .ref (kad G 132)), (1, vI x)] []
  refine k_aload_n hC dJ5_append_c97b9_17 rfl 2 rfl ?_
  refine k_callU hC (c_J5_isLatin1_aae02 l hls G hN w1 [(q, bA G cap1 f)] q ml (T.length : Int) h132) yu_J5_isLatin1_aae02 wm_J5_83 (kl hN (by decide)) h132 rfl rfl (Nat.le_of_ble_eq_true rfl) (by decide) (by decide) ⟨by decide, by decide⟩ dJ5_append_c97b9_18 (fun v2 w2 fl2 hp2 => ?_)
  obtain ⟨hp2a, hp2b, hp2c⟩ := hp2; subst hp2a; subst hp2b; subst hp2c
  show KW p l e R s m args below meth c 4 G Q w1 [(q, bA G cap1 f)] 1 34 21 [(3, vI ((T.length : Int) + 3)), (2, vI (T.length : Int)), (0, .ref (kad G 132)), (1, vI x)] [vI 1]
  refine k_if_eq hC 37 dJ5_append_c97b9_21 rfl (by omega) (fun c_21 => absurd c_21 (by omega)) (fun c_21 => ?_)
  refine k_iload_n hC dJ5_append_c97b9_24 rfl 3 rfl ?_
  refine k_iload_n hC dJ5_append_c97b9_25 rfl 0 rfl ?_
  refine k_aload_n hC dJ5_append_c97b9_26 rfl 2 rfl ?_
  refine k_get hC fd_J5_15 (kl hN (by decide)) h132 rfl dJ5_append_c97b9_27 ?_
  refine k_callS hC (c_J6_getChars_3 l hls G hN w1 [(q, bA G cap1 f)] q cap1 T.length f x rfl (by omega) (by omega) hx) yy_J6_getChars_ba4f3 wm_J5_248 rfl rfl (Nat.le_of_ble_eq_true rfl) (by decide) (by decide) ⟨by decide, by decide⟩ dJ5_append_c97b9_30 (fun v3 w3 fl3 hp3 => ?_)
  obtain ⟨hp3a, hp3b, hp3c⟩ := hp3; subst hp3a; subst hp3b; subst hp3c
  show KW p l e R s m args below meth c 4 G Q w1 [(q, bA G cap1 (kup (kup (kup f (T.length + 2) (48 + x % 10)) (T.length + 1) (48 + x / 10 % 10)) T.length (48 + x / 100)))] 1 34 33 [(3, vI ((T.length : Int) + 3)), (2, vI (T.length : Int)), (0, .ref (kad G 132)), (1, vI x)] [vI (T.length : Int)]
  refine k_pop hC dJ5_append_c97b9_33 rfl ?_
  refine k_goto hC 48 dJ5_append_c97b9_34 rfl ?_
  refine k_aload_n hC dJ5_append_c97b9_48 rfl 2 rfl ?_
  refine k_iload_n hC dJ5_append_c97b9_49 rfl 0 rfl ?_
  refine k_topv (vI (((T ++ [48 + x / 100, 48 + x / 10 % 10, 48 + x % 10]).length : Int))) (congrArg vI (by rw [List.length_append]; show _ = ((T.length + 3 : Nat) : Int); omega)) ?_
  refine k_put hC fd_J5_79 (kl hN (by decide)) h132 [.ref q, vI 0, ml, vI ((T ++ [48 + x / 100, 48 + x / 10 % 10, 48 + x % 10]).length : Int)] rfl (Nat.le_of_ble_eq_true rfl) rfl rfl dJ5_append_c97b9_50 (fun w4 hw4 hf4 => ?_)
  refine k_aload_n hC dJ5_append_c97b9_53 rfl 2 rfl ?_
  subst hQ
  exact k_aret hC hr (Or.inl ⟨_, rfl⟩) (Or.inr ⟨_, rfl⟩) ⟨by decide, by decide⟩ (by show _ ∧ sbP G w (T ++ dgN 10 48 4 x) _ _ _; rw [hL]; exact ⟨rfl, cap1, ⟨q, _, ml, rfl, hw4, hcap, by rw [List.length_append]; show T.length + 3 ≤ _; omega, kup_8 (kup_8 (kup_8 (h8) (by omega)) (by omega)) (by omega), cdR_app hcd (fun j hj => (kup_n (by omega)).trans ((kup_n (by omega)).trans (kup_n (by omega)))) (fun i hi => by match i, hi with | 0, _ => exact kup_s | 1, _ => exact (kup_n (by omega)).trans (kup_s) | 2, _ => exact (kup_n (by omega)).trans ((kup_n (by omega)).trans (kup_s)) | k + 3, h => exact absurd h (by show ¬ (k + 3 < 3); omega))⟩, by omega, fun j hj => (hf4 j (by omega)).trans (hf1 j (by omega))⟩) dJ5_append_c97b9_54

set_option maxRecDepth 100000 in
set_option maxHeartbeats 4000000 in
theorem c_J6_stringSize_4 (l : Launch) (hls : l.stackTraces = false) (G : kG) (hN : kN G = 150) (w : Nat → va_E) (fl : va_W) (x : Int) (hx : 1000 ≤ x ∧ x < 10000) : KM l G yJ6_stringSize_0f7a4 cJ6_stringSize_0f7a4 4 (some (FieldType.int)) 0 0 0 [vI x] w fl (kPure (vI 4) w fl) := by
  refine KM_ofF hls (by decide +kernel) rfl (lv0 := [(0, vI x)]) rfl (Nat.le_of_ble_eq_true rfl) (fun p e R s m args below meth c Q hC hr hQ => ?_)
  refine k_iconst hC dJ6_stringSize_0f7a4_0 ?_
  refine k_istore_n hC [(1, vI 1), (0, vI x)] dJ6_stringSize_0f7a4_1 rfl (by decide) rfl ?_
  refine k_iload_n hC dJ6_stringSize_0f7a4_2 rfl 1 rfl ?_
  refine k_if_lt hC 11 dJ6_stringSize_0f7a4_3 rfl (by omega) (fun c_3 => absurd c_3 (by omega)) (fun c_3 => ?_)
  refine k_iconst hC dJ6_stringSize_0f7a4_6 ?_
  refine k_istore_n hC [(1, vI 0), (0, vI x)] dJ6_stringSize_0f7a4_7 rfl (by decide) rfl ?_
  refine k_iload_n hC dJ6_stringSize_0f7a4_8 rfl 1 rfl ?_
  refine k_ineg hC dJ6_stringSize_0f7a4_9 ?_
  refine k_istore_n hC [(0, vI (-x)), (1, vI 0)] dJ6_stringSize_0f7a4_10 rfl (by decide) rfl ?_
  refine k_bipush hC dJ6_stringSize_0f7a4_11 (by decide) ?_
  refine k_istore_n hC [(2, vI (-10)), (0, vI (-x)), (1, vI 0)] dJ6_stringSize_0f7a4_13 rfl (by decide) rfl ?_
  refine k_iconst hC dJ6_stringSize_0f7a4_14 ?_
  refine k_istore_n hC [(3, vI 1), (2, vI (-10)), (0, vI (-x)), (1, vI 0)] dJ6_stringSize_0f7a4_15 rfl (by decide) rfl ?_
  refine k_iload_n hC dJ6_stringSize_0f7a4_16 rfl 0 rfl ?_
  refine k_bipush hC dJ6_stringSize_0f7a4_17 (by decide) ?_
  refine k_icmp_ge hC 42 dJ6_stringSize_0f7a4_19 rfl (by omega) (by omega) (fun c_19 => absurd c_19 (by omega)) (fun c_19 => ?_)
  refine k_iload_n hC dJ6_stringSize_0f7a4_22 rfl 2 rfl ?_
  refine k_iload_n hC dJ6_stringSize_0f7a4_23 rfl 1 rfl ?_
  refine k_icmp_le hC 31 dJ6_stringSize_0f7a4_24 rfl (by omega) (by omega) (fun c_24 => ?_) (fun c_24 => absurd c_24 (by omega))
  refine k_bipush hC dJ6_stringSize_0f7a4_31 (by decide) ?_
  refine k_iload_n hC dJ6_stringSize_0f7a4_33 rfl 1 rfl ?_
  refine k_imul hC dJ6_stringSize_0f7a4_34 ?_
  refine k_topv (vI (-100)) rfl ?_
  refine k_istore_n hC [(2, vI (-100)), (3, vI 1), (0, vI (-x)), (1, vI 0)] dJ6_stringSize_0f7a4_35 rfl (by decide) rfl ?_
  refine k_iinc hC (y := 2) [(3, vI 2), (2, vI (-100)), (0, vI (-x)), (1, vI 0)] (j := 1) dJ6_stringSize_0f7a4_36 rfl (by decide) (by decide) rfl ?_
  refine k_goto hC 16 dJ6_stringSize_0f7a4_39 rfl ?_
  refine k_iload_n hC dJ6_stringSize_0f7a4_16 rfl 0 rfl ?_
  refine k_bipush hC dJ6_stringSize_0f7a4_17 (by decide) ?_
  refine k_icmp_ge hC 42 dJ6_stringSize_0f7a4_19 rfl (by omega) (by omega) (fun c_19 => absurd c_19 (by omega)) (fun c_19 => ?_)
  refine k_iload_n hC dJ6_stringSize_0f7a4_22 rfl 2 rfl ?_
  refine k_iload_n hC dJ6_stringSize_0f7a4_23 rfl 1 rfl ?_
  refine k_icmp_le hC 31 dJ6_stringSize_0f7a4_24 rfl (by omega) (by omega) (fun c_24 => ?_) (fun c_24 => absurd c_24 (by omega))
  refine k_bipush hC dJ6_stringSize_0f7a4_31 (by decide) ?_
  refine k_iload_n hC dJ6_stringSize_0f7a4_33 rfl 1 rfl ?_
  refine k_imul hC dJ6_stringSize_0f7a4_34 ?_
  refine k_topv (vI (-1000)) rfl ?_
  refine k_istore_n hC [(2, vI (-1000)), (3, vI 2), (0, vI (-x)), (1, vI 0)] dJ6_stringSize_0f7a4_35 rfl (by decide) rfl ?_
  refine k_iinc hC (y := 3) [(3, vI 3), (2, vI (-1000)), (0, vI (-x)), (1, vI 0)] (j := 1) dJ6_stringSize_0f7a4_36 rfl (by decide) (by decide) rfl ?_
  refine k_goto hC 16 dJ6_stringSize_0f7a4_39 rfl ?_
  refine k_iload_n hC dJ6_stringSize_0f7a4_16 rfl 0 rfl ?_
  refine k_bipush hC dJ6_stringSize_0f7a4_17 (by decide) ?_
  refine k_icmp_ge hC 42 dJ6_stringSize_0f7a4_19 rfl (by omega) (by omega) (fun c_19 => absurd c_19 (by omega)) (fun c_19 => ?_)
  refine k_iload_n hC dJ6_stringSize_0f7a4_22 rfl 2 rfl ?_
  refine k_iload_n hC dJ6_stringSize_0f7a4_23 rfl 1 rfl ?_
  refine k_icmp_le hC 31 dJ6_stringSize_0f7a4_24 rfl (by omega) (by omega) (fun c_24 => ?_) (fun c_24 => absurd c_24 (by omega))
  refine k_bipush hC dJ6_stringSize_0f7a4_31 (by decide) ?_
  refine k_iload_n hC dJ6_stringSize_0f7a4_33 rfl 1 rfl ?_
  refine k_imul hC dJ6_stringSize_0f7a4_34 ?_
  refine k_topv (vI (-10000)) rfl ?_
  refine k_istore_n hC [(2, vI (-10000)), (3, vI 3), (0, vI (-x)), (1, vI 0)] dJ6_stringSize_0f7a4_35 rfl (by decide) rfl ?_
  refine k_iinc hC (y := 4) [(3, vI 4), (2, vI (-10000)), (0, vI (-x)), (1, vI 0)] (j := 1) dJ6_stringSize_0f7a4_36 rfl (by decide) (by decide) rfl ?_
  refine k_goto hC 16 dJ6_stringSize_0f7a4_39 rfl ?_
  refine k_iload_n hC dJ6_stringSize_0f7a4_16 rfl 0 rfl ?_
  refine k_bipush hC dJ6_stringSize_0f7a4_17 (by decide) ?_
  refine k_icmp_ge hC 42 dJ6_stringSize_0f7a4_19 rfl (by omega) (by omega) (fun c_19 => absurd c_19 (by omega)) (fun c_19 => ?_)
  refine k_iload_n hC dJ6_stringSize_0f7a4_22 rfl 2 rfl ?_
  refine k_iload_n hC dJ6_stringSize_0f7a4_23 rfl 1 rfl ?_
  refine k_icmp_le hC 31 dJ6_stringSize_0f7a4_24 rfl (by omega) (by omega) (fun c_24 => absurd c_24 (by omega)) (fun c_24 => ?_)
  refine k_iload_n hC dJ6_stringSize_0f7a4_27 rfl 0 rfl ?_
  refine k_iload_n hC dJ6_stringSize_0f7a4_28 rfl 3 rfl ?_
  refine k_iadd hC dJ6_stringSize_0f7a4_29 ?_
  subst hQ
  exact k_iret hC hr ⟨by decide, by decide⟩ (⟨congrArg (fun z => some (vI z)) (show (4 : Int) = 4 + 0 from by omega), rfl, rfl⟩) dJ6_stringSize_0f7a4_30

set_option maxRecDepth 100000 in
set_option maxHeartbeats 4000000 in
theorem c_J6_getChars_4 (l : Launch) (hls : l.stackTraces = false) (G : kG) (hN : kN G = 150) (w : Nat → va_E) (fl : va_W) (q n b0 : Nat) (f : Nat → Int) (x : Int) (hfl : fl = [(q, bA G n f)]) (hn : n ≤ 34) (hcn : b0 + 4 ≤ n) (hx : 1000 ≤ x ∧ x < 10000) : KM l G yJ6_getChars_ba4f3 cJ6_getChars_ba4f3 7 (some (FieldType.int)) 0 0 0 [vI x, vI ((b0 : Int) + 4), .ref q] w fl (fun v1 w1 fl1 => some (vI (b0 : Int)) = v1 ∧ w = w1 ∧ fl1 = [(q, bA G n (kup (kup (kup (kup f (b0 + 3) (48 + x % 10)) (b0 + 2) (48 + x / 10 % 10)) (b0 + 1) (48 + x / 100 % 10)) b0 (48 + x / 1000)))]) := by
  refine KM_ofF hls (by decide +kernel) rfl (lv0 := [(0, vI x), (1, vI ((b0 : Int) + 4)), (2, .ref q)]) rfl (Nat.le_of_ble_eq_true rfl) (fun p e R s m args below meth c Q hC hr hQ => ?_)
  subst hfl
  refine k_iload_n hC dJ6_getChars_ba4f3_0 rfl 1 rfl ?_
  refine k_istore hC [(5, vI ((b0 : Int) + 4)), (0, vI x), (1, vI ((b0 : Int) + 4)), (2, .ref q)] dJ6_getChars_ba4f3_1 (by decide) rfl ?_
  refine k_iload_n hC dJ6_getChars_ba4f3_3 rfl 1 rfl ?_
  refine k_if_ge hC 11 dJ6_getChars_ba4f3_4 rfl (by omega) (fun c_4 => ?_) (fun c_4 => absurd c_4 (by omega))
  refine k_iconst hC dJ6_getChars_ba4f3_11 ?_
  refine k_istore hC [(6, vI 0), (5, vI ((b0 : Int) + 4)), (0, vI x), (1, vI ((b0 : Int) + 4)), (2, .ref q)] dJ6_getChars_ba4f3_12 (by decide) rfl ?_
  refine k_iload hC dJ6_getChars_ba4f3_14 0 rfl ?_
  refine k_if_ne hC 22 dJ6_getChars_ba4f3_16 rfl (by omega) (fun c_16 => absurd c_16 (by omega)) (fun c_16 => ?_)
  refine k_iload_n hC dJ6_getChars_ba4f3_19 rfl 2 rfl ?_
  refine k_ineg hC dJ6_getChars_ba4f3_20 ?_
  refine k_istore_n hC [(0, vI (-x)), (6, vI 0), (5, vI ((b0 : Int) + 4)), (1, vI ((b0 : Int) + 4)), (2, .ref q)] dJ6_getChars_ba4f3_21 rfl (by decide) rfl ?_
  refine k_iload_n hC dJ6_getChars_ba4f3_22 rfl 0 rfl ?_
  refine k_bipush hC dJ6_getChars_ba4f3_23 (by decide) ?_
  refine k_icmp_gt hC 72 dJ6_getChars_ba4f3_25 rfl (by omega) (by omega) (fun c_25 => absurd c_25 (by omega)) (fun c_25 => ?_)
  refine k_iload_n hC dJ6_getChars_ba4f3_28 rfl 0 rfl ?_
  refine k_bipush hC dJ6_getChars_ba4f3_29 (by decide) ?_
  refine k_idiv hC dJ6_getChars_ba4f3_31 (by omega) (by omega) ?_
  refine k_topv (vI (-(x / 100))) (congrArg vI (by rw [Int.neg_tdiv, Int.tdiv_eq_ediv_of_nonneg (by omega)])) ?_
  refine k_istore_n hC [(3, vI (-(x / 100))), (0, vI (-x)), (6, vI 0), (5, vI ((b0 : Int) + 4)), (1, vI ((b0 : Int) + 4)), (2, .ref q)] dJ6_getChars_ba4f3_32 rfl (by decide) rfl ?_
  refine k_iload_n hC dJ6_getChars_ba4f3_33 rfl 0 rfl ?_
  refine k_bipush hC dJ6_getChars_ba4f3_34 (by decide) ?_
  refine k_imul hC dJ6_getChars_ba4f3_36 ?_
  refine k_iload_n hC dJ6_getChars_ba4f3_37 rfl 1 rfl ?_
  refine k_isub hC dJ6_getChars_ba4f3_38 ?_
  refine k_topv (vI (x % 100)) (congrArg vI (by omega)) ?_
  refine k_istore hC [(4, vI (x % 100)), (3, vI (-(x / 100))), (0, vI (-x)), (6, vI 0), (5, vI ((b0 : Int) + 4)), (1, vI ((b0 : Int) + 4)), (2, .ref q)] dJ6_getChars_ba4f3_39 (by decide) rfl ?_
  refine k_iload_n hC dJ6_getChars_ba4f3_41 rfl 1 rfl ?_
  refine k_istore_n hC [(0, vI (-(x / 100))), (4, vI (x % 100)), (3, vI (-(x / 100))), (6, vI 0), (5, vI ((b0 : Int) + 4)), (1, vI ((b0 : Int) + 4)), (2, .ref q)] dJ6_getChars_ba4f3_42 rfl (by decide) rfl ?_
  refine k_aload_n hC dJ6_getChars_ba4f3_43 rfl 6 rfl ?_
  refine k_iinc hC (y := (b0 : Int) + 4 - 1) [(5, vI ((b0 : Int) + 4 - 1)), (0, vI (-(x / 100))), (4, vI (x % 100)), (3, vI (-(x / 100))), (6, vI 0), (1, vI ((b0 : Int) + 4)), (2, .ref q)] (j := 4) dJ6_getChars_ba4f3_44 rfl (by omega) (by decide) rfl ?_
  refine k_iload hC dJ6_getChars_ba4f3_47 0 rfl ?_
  refine k_dgs1 hC wf_J6_83 dJ6_getChars_ba4f3_49 ?_
  refine k_iload hC dJ6_getChars_ba4f3_52 2 rfl ?_
  refine k_bald1 hC (by omega) dJ6_getChars_ba4f3_54 ?_
  refine k_topv (vI (48 + x % 10)) (congrArg vI (by omega)) ?_
  refine k_bastF hC 0 [(q, bA G n (kup f (b0 + 3) (48 + x % 10)))] rfl (by rw [show ((b0 : Int) + 4 - 1).toNat = b0 + 3 by omega]; rfl) (by omega) (by omega) (by omega) dJ6_getChars_ba4f3_55 ?_
  refine k_aload_n hC dJ6_getChars_ba4f3_56 rfl 6 rfl ?_
  refine k_iinc hC (y := (b0 : Int) + 4 - 1 - 1) [(5, vI ((b0 : Int) + 4 - 1 - 1)), (0, vI (-(x / 100))), (4, vI (x % 100)), (3, vI (-(x / 100))), (6, vI 0), (1, vI ((b0 : Int) + 4)), (2, .ref q)] (j := 0) dJ6_getChars_ba4f3_57 rfl (by omega) (by decide) rfl ?_
  refine k_iload hC dJ6_getChars_ba4f3_60 0 rfl ?_
  refine k_dgs2 hC wf_J6_87 dJ6_getChars_ba4f3_62 ?_
  refine k_iload hC dJ6_getChars_ba4f3_65 2 rfl ?_
  refine k_bald2 hC (by omega) dJ6_getChars_ba4f3_67 ?_
  refine k_topv (vI (48 + x / 10 % 10)) (congrArg vI (by omega)) ?_
  refine k_bastF hC 0 [(q, bA G n (kup (kup f (b0 + 3) (48 + x % 10)) (b0 + 2) (48 + x / 10 % 10)))] rfl (by rw [show ((b0 : Int) + 4 - 1 - 1).toNat = b0 + 2 by omega]; rfl) (by omega) (by omega) (by omega) dJ6_getChars_ba4f3_68 ?_
  refine k_goto hC 22 dJ6_getChars_ba4f3_69 rfl ?_
  refine k_iload_n hC dJ6_getChars_ba4f3_22 rfl 1 rfl ?_
  refine k_bipush hC dJ6_getChars_ba4f3_23 (by decide) ?_
  refine k_icmp_gt hC 72 dJ6_getChars_ba4f3_25 rfl (by omega) (by omega) (fun c_25 => ?_) (fun c_25 => absurd c_25 (by omega))
  refine k_aload_n hC dJ6_getChars_ba4f3_72 rfl 6 rfl ?_
  refine k_iinc hC (y := (b0 : Int) + 4 - 1 - 1 - 1) [(5, vI ((b0 : Int) + 4 - 1 - 1 - 1)), (0, vI (-(x / 100))), (4, vI (x % 100)), (3, vI (-(x / 100))), (6, vI 0), (1, vI ((b0 : Int) + 4)), (2, .ref q)] (j := 0) dJ6_getChars_ba4f3_73 rfl (by omega) (by decide) rfl ?_
  refine k_iload hC dJ6_getChars_ba4f3_76 0 rfl ?_
  refine k_dgs1 hC wf_J6_83 dJ6_getChars_ba4f3_78 ?_
  refine k_iload_n hC dJ6_getChars_ba4f3_81 rfl 1 rfl ?_
  refine k_ineg hC dJ6_getChars_ba4f3_82 ?_
  refine k_topv (vI (x / 100)) (congrArg vI (by omega)) ?_
  refine k_bald1 hC (by omega) dJ6_getChars_ba4f3_83 ?_
  refine k_topv (vI (48 + x / 100 % 10)) (congrArg vI (by omega)) ?_
  refine k_bastF hC 0 [(q, bA G n (kup (kup (kup f (b0 + 3) (48 + x % 10)) (b0 + 2) (48 + x / 10 % 10)) (b0 + 1) (48 + x / 100 % 10)))] rfl (by rw [show ((b0 : Int) + 4 - 1 - 1 - 1).toNat = b0 + 1 by omega]; rfl) (by omega) (by omega) (by omega) dJ6_getChars_ba4f3_84 ?_
  refine k_iload_n hC dJ6_getChars_ba4f3_85 rfl 1 rfl ?_
  refine k_bipush hC dJ6_getChars_ba4f3_86 (by decide) ?_
  refine k_icmp_ge hC 104 dJ6_getChars_ba4f3_88 rfl (by omega) (by omega) (fun c_88 => absurd c_88 (by omega)) (fun c_88 => ?_)
  refine k_aload_n hC dJ6_getChars_ba4f3_91 rfl 6 rfl ?_
  refine k_iinc hC (y := (b0 : Int) + 4 - 1 - 1 - 1 - 1) [(5, vI ((b0 : Int) + 4 - 1 - 1 - 1 - 1)), (0, vI (-(x / 100))), (4, vI (x % 100)), (3, vI (-(x / 100))), (6, vI 0), (1, vI ((b0 : Int) + 4)), (2, .ref q)] (j := 0) dJ6_getChars_ba4f3_92 rfl (by omega) (by decide) rfl ?_
  refine k_iload hC dJ6_getChars_ba4f3_95 0 rfl ?_
  refine k_dgs2 hC wf_J6_87 dJ6_getChars_ba4f3_97 ?_
  refine k_iload_n hC dJ6_getChars_ba4f3_100 rfl 1 rfl ?_
  refine k_ineg hC dJ6_getChars_ba4f3_101 ?_
  refine k_topv (vI (x / 100)) (congrArg vI (by omega)) ?_
  refine k_bald2 hC (by omega) dJ6_getChars_ba4f3_102 ?_
  refine k_topv (vI (48 + x / 1000)) (congrArg vI (by omega)) ?_
  refine k_bastF hC 0 [(q, bA G n (kup (kup (kup (kup f (b0 + 3) (48 + x % 10)) (b0 + 2) (48 + x / 10 % 10)) (b0 + 1) (48 + x / 100 % 10)) b0 (48 + x / 1000)))] rfl (by rw [show ((b0 : Int) + 4 - 1 - 1 - 1 - 1).toNat = b0 by omega]; rfl) (by omega) (by omega) (by omega) dJ6_getChars_ba4f3_103 ?_
  refine k_iload hC dJ6_getChars_ba4f3_104 4 rfl ?_
  refine k_if_eq hC 118 dJ6_getChars_ba4f3_106 rfl (by omega) (fun c_106 => ?_) (fun c_106 => absurd c_106 (by omega))
  refine k_iload hC dJ6_getChars_ba4f3_118 0 rfl ?_
  subst hQ
  exact k_iret hC hr ⟨by decide, by decide⟩ (⟨congrArg (fun z => some (vI z)) (show (b0 : Int) = (b0 : Int) + 4 - 1 - 1 - 1 - 1 from by omega), rfl, rfl⟩) dJ6_getChars_ba4f3_120

set_option maxRecDepth 100000 in
set_option maxHeartbeats 4000000 in
theorem c_J5_append_I4_in (l : Launch) (hls : l.stackTraces = false) (G : kG) (hN : kN G = 150) (w : Nat → va_E) (fl : va_W) (T : List Int) (cap : Nat) (x : Int) (hsb : sbC G w fl T cap) (hx : 1000 ≤ x ∧ x < 10000) (hlt : (T.length : Int) + ((dgN 10 48 4 x).length : Int) ≤ (cap : Int)) : KM l G yJ5_append_c97b9 cJ5_append_c97b9 4 (some ((FieldType.object "java/lang/AbstractStringBuilder"))) 1 0 0 [.ref (kad G 132), vI x] w fl (fun v1 w1 fl1 => some (.ref (kad G 132)) = v1 ∧ sbP G w (T ++ dgN 10 48 4 x) (fun z => z = cap) w1 fl1) := by
  refine KM_ofF hls (by decide +kernel) rfl (lv0 := [(0, .ref (kad G 132)), (1, vI x)]) rfl (Nat.le_of_ble_eq_true rfl) (fun p e R s m args below meth c Q hC hr hQ => ?_)
  have hsb0 := hsb
  obtain ⟨q, f, ml, hfl, h132, hcap, hlen, h8, hcd⟩ := hsb
  subst hfl
  have hL := dg4_4 hx
  rw [hL] at hlt
  have hlt2 : (T.length : Int) + 4 ≤ (cap : Int) := hlt
  refine k_aload_n hC dJ5_append_c97b9_0 rfl 0 rfl ?_
  refine k_get hC fd_J5_79 (kl hN (by decide)) h132 rfl dJ5_append_c97b9_1 ?_
  refine k_istore_n hC [(2, vI (T.length : Int)), (0, .ref (kad G 132)), (1, vI x)] dJ5_append_c97b9_4 rfl (by decide) rfl ?_
  refine k_iload_n hC dJ5_append_c97b9_5 rfl 0 rfl ?_
  refine k_iload_n hC dJ5_append_c97b9_6 rfl 2 rfl ?_
  refine k_pureS hC (c_J6_stringSize_4 l hls G hN w [(q, bA G cap f)] x hx) yy_J6_stringSize_0f7a4 wm_J5_245 rfl rfl (Nat.le_of_ble_eq_true rfl) (by decide) (by decide) ⟨by decide, by decide⟩ dJ5_append_c97b9_7 ?_
  refine k_iadd hC dJ5_append_c97b9_10 ?_
  refine k_istore_n hC [(3, vI ((T.length : Int) + 4)), (2, vI (T.length : Int)), (0, .ref (kad G 132)), (1, vI x)] dJ5_append_c97b9_11 rfl (by decide) rfl ?_
  refine k_aload_n hC dJ5_append_c97b9_12 rfl 2 rfl ?_
  refine k_iload_n hC dJ5_append_c97b9_13 rfl 0 rfl ?_
  refine k_callU hC (c_J5_ensure_in l hls G hN w [(q, bA G cap f)] T cap ((T.length : Int) + 4) hsb0 (by omega)) yu_J5_ensureCapacityInternal_d00df wm_J5_100 (kl hN (by decide)) h132 rfl rfl (Nat.le_of_ble_eq_true rfl) (by decide) (by decide) ⟨by decide, by decide⟩ dJ5_append_c97b9_14 (fun v1 w1 fl1 hp1 => ?_)
  obtain ⟨hp1a, hp1b, hp1c⟩ := hp1; subst hp1a; subst hp1b; subst hp1c
  show KW p l e R s m args below meth c 4 G Q w [(q, bA G cap f)] 0 0 17 [(3, vI ((T.length : Int) + 4)), (2, vI (T.length : Int)), (0, .ref (kad G 132)), (1, vI x)] []
  refine k_aload_n hC dJ5_append_c97b9_17 rfl 2 rfl ?_
  refine k_callU hC (c_J5_isLatin1_aae02 l hls G hN w [(q, bA G cap f)] q ml (T.length : Int) h132) yu_J5_isLatin1_aae02 wm_J5_83 (kl hN (by decide)) h132 rfl rfl (Nat.le_of_ble_eq_true rfl) (by decide) (by decide) ⟨by decide, by decide⟩ dJ5_append_c97b9_18 (fun v2 w2 fl2 hp2 => ?_)
  obtain ⟨hp2a, hp2b, hp2c⟩ := hp2; subst hp2a; subst hp2b; subst hp2c
  show KW p l e R s m args below meth c 4 G Q w [(q, bA G cap f)] 0 0 21 [(3, vI ((T.length : Int) + 4)), (2, vI (T.length : Int)), (0, .ref (kad G 132)), (1, vI x)] [vI 1]
  refine k_if_eq hC 37 dJ5_append_c97b9_21 rfl (by omega) (fun c_21 => absurd c_21 (by omega)) (fun c_21 => ?_)
  refine k_iload_n hC dJ5_append_c97b9_24 rfl 3 rfl ?_
  refine k_iload_n hC dJ5_append_c97b9_25 rfl 0 rfl ?_
  refine k_aload_n hC dJ5_append_c97b9_26 rfl 2 rfl ?_
  refine k_get hC fd_J5_15 (kl hN (by decide)) h132 rfl dJ5_append_c97b9_27 ?_
  refine k_callS hC (c_J6_getChars_4 l hls G hN w [(q, bA G cap f)] q cap T.length f x rfl (by omega) (by omega) hx) yy_J6_getChars_ba4f3 wm_J5_248 rfl rfl (Nat.le_of_ble_eq_true rfl) (by decide) (by decide) ⟨by decide, by decide⟩ dJ5_append_c97b9_30 (fun v3 w3 fl3 hp3 => ?_)
  obtain ⟨hp3a, hp3b, hp3c⟩ := hp3; subst hp3a; subst hp3b; subst hp3c
  show KW p l e R s m args below meth c 4 G Q w [(q, bA G cap (kup (kup (kup (kup f (T.length + 3) (48 + x % 10)) (T.length + 2) (48 + x / 10 % 10)) (T.length + 1) (48 + x / 100 % 10)) T.length (48 + x / 1000)))] 0 0 33 [(3, vI ((T.length : Int) + 4)), (2, vI (T.length : Int)), (0, .ref (kad G 132)), (1, vI x)] [vI (T.length : Int)]
  refine k_pop hC dJ5_append_c97b9_33 rfl ?_
  refine k_goto hC 48 dJ5_append_c97b9_34 rfl ?_
  refine k_aload_n hC dJ5_append_c97b9_48 rfl 2 rfl ?_
  refine k_iload_n hC dJ5_append_c97b9_49 rfl 0 rfl ?_
  refine k_topv (vI (((T ++ [48 + x / 1000, 48 + x / 100 % 10, 48 + x / 10 % 10, 48 + x % 10]).length : Int))) (congrArg vI (by rw [List.length_append]; show _ = ((T.length + 4 : Nat) : Int); omega)) ?_
  refine k_put hC fd_J5_79 (kl hN (by decide)) h132 [.ref q, vI 0, ml, vI ((T ++ [48 + x / 1000, 48 + x / 100 % 10, 48 + x / 10 % 10, 48 + x % 10]).length : Int)] rfl (Nat.le_of_ble_eq_true rfl) rfl rfl dJ5_append_c97b9_50 (fun w4 hw4 hf4 => ?_)
  refine k_aload_n hC dJ5_append_c97b9_53 rfl 2 rfl ?_
  subst hQ
  exact k_aret hC hr (Or.inl ⟨_, rfl⟩) (Or.inr ⟨_, rfl⟩) ⟨by decide, by decide⟩ (by show _ ∧ sbP G w (T ++ dgN 10 48 4 x) _ _ _; rw [hL]; exact ⟨rfl, cap, ⟨q, _, ml, rfl, hw4, hcap, by rw [List.length_append]; show T.length + 4 ≤ _; omega, kup_8 (kup_8 (kup_8 (kup_8 (h8) (by omega)) (by omega)) (by omega)) (by omega), cdR_app hcd (fun j hj => (kup_n (by omega)).trans ((kup_n (by omega)).trans ((kup_n (by omega)).trans (kup_n (by omega))))) (fun i hi => by match i, hi with | 0, _ => exact kup_s | 1, _ => exact (kup_n (by omega)).trans (kup_s) | 2, _ => exact (kup_n (by omega)).trans ((kup_n (by omega)).trans (kup_s)) | 3, _ => exact (kup_n (by omega)).trans ((kup_n (by omega)).trans ((kup_n (by omega)).trans (kup_s))) | k + 4, h => exact absurd h (by show ¬ (k + 4 < 4); omega))⟩, rfl, fun j hj => hf4 j (by omega)⟩) dJ5_append_c97b9_54

set_option maxRecDepth 100000 in
set_option maxHeartbeats 4000000 in
theorem c_J5_append_I4_any (l : Launch) (hls : l.stackTraces = false) (G : kG) (hN : kN G = 150) (w : Nat → va_E) (fl : va_W) (T : List Int) (cap : Nat) (x : Int) (hsb : sbC G w fl T cap) (hx : 1000 ≤ x ∧ x < 10000) (hlt : (T.length : Int) + ((dgN 10 48 4 x).length : Int) ≤ 34) : KM l G yJ5_append_c97b9 cJ5_append_c97b9 4 (some ((FieldType.object "java/lang/AbstractStringBuilder"))) 4 1 34 [.ref (kad G 132), vI x] w fl (fun v1 w1 fl1 => some (.ref (kad G 132)) = v1 ∧ sbP G w (T ++ dgN 10 48 4 x) (fun z => cap ≤ z) w1 fl1) := by
  refine KM_ofF hls (by decide +kernel) rfl (lv0 := [(0, .ref (kad G 132)), (1, vI x)]) rfl (Nat.le_of_ble_eq_true rfl) (fun p e R s m args below meth c Q hC hr hQ => ?_)
  have hsb0 := hsb
  obtain ⟨q, f, ml, hfl, h132, hcap, hlen, h8, hcd⟩ := hsb
  subst hfl
  have hL := dg4_4 hx
  rw [hL] at hlt
  have hlt2 : (T.length : Int) + 4 ≤ 34 := hlt
  refine k_aload_n hC dJ5_append_c97b9_0 rfl 0 rfl ?_
  refine k_get hC fd_J5_79 (kl hN (by decide)) h132 rfl dJ5_append_c97b9_1 ?_
  refine k_istore_n hC [(2, vI (T.length : Int)), (0, .ref (kad G 132)), (1, vI x)] dJ5_append_c97b9_4 rfl (by decide) rfl ?_
  refine k_iload_n hC dJ5_append_c97b9_5 rfl 0 rfl ?_
  refine k_iload_n hC dJ5_append_c97b9_6 rfl 2 rfl ?_
  refine k_pureS hC (c_J6_stringSize_4 l hls G hN w [(q, bA G cap f)] x hx) yy_J6_stringSize_0f7a4 wm_J5_245 rfl rfl (Nat.le_of_ble_eq_true rfl) (by decide) (by decide) ⟨by decide, by decide⟩ dJ5_append_c97b9_7 ?_
  refine k_iadd hC dJ5_append_c97b9_10 ?_
  refine k_istore_n hC [(3, vI ((T.length : Int) + 4)), (2, vI (T.length : Int)), (0, .ref (kad G 132)), (1, vI x)] dJ5_append_c97b9_11 rfl (by decide) rfl ?_
  refine k_aload_n hC dJ5_append_c97b9_12 rfl 2 rfl ?_
  refine k_iload_n hC dJ5_append_c97b9_13 rfl 0 rfl ?_
  refine k_callU hC (c_J5_ensure_any l hls G hN w [(q, bA G cap f)] T cap ((T.length : Int) + 4) hsb0 (by omega)) yu_J5_ensureCapacityInternal_d00df wm_J5_100 (kl hN (by decide)) h132 rfl rfl (Nat.le_of_ble_eq_true rfl) (by decide) (by decide) ⟨by decide, by decide⟩ dJ5_append_c97b9_14 (fun v1 w1 fl1 hp1 => ?_)
  obtain ⟨hp1a, cap1, hsb1, hcp1, hf1⟩ := hp1; subst hp1a
  have hsb0 := hsb1
  obtain ⟨q, f, ml, hfl, h132, hcap, hlen, h8, hcd⟩ := hsb1
  subst hfl
  show KW p l e R s m args below meth c 4 G Q w1 [(q, bA G cap1 f)] 1 34 17 [(3, vI ((T.length : Int) + 4)), (2, vI (T.length : Int)), (0, .ref (kad G 132)), (1, vI x)] []
  refine k_aload_n hC dJ5_append_c97b9_17 rfl 2 rfl ?_
  refine k_callU hC (c_J5_isLatin1_aae02 l hls G hN w1 [(q, bA G cap1 f)] q ml (T.length : Int) h132) yu_J5_isLatin1_aae02 wm_J5_83 (kl hN (by decide)) h132 rfl rfl (Nat.le_of_ble_eq_true rfl) (by decide) (by decide) ⟨by decide, by decide⟩ dJ5_append_c97b9_18 (fun v2 w2 fl2 hp2 => ?_)
  obtain ⟨hp2a, hp2b, hp2c⟩ := hp2; subst hp2a; subst hp2b; subst hp2c
  show KW p l e R s m args below meth c 4 G Q w1 [(q, bA G cap1 f)] 1 34 21 [(3, vI ((T.length : Int) + 4)), (2, vI (T.length : Int)), (0, .ref (kad G 132)), (1, vI x)] [vI 1]
  refine k_if_eq hC 37 dJ5_append_c97b9_21 rfl (by omega) (fun c_21 => absurd c_21 (by omega)) (fun c_21 => ?_)
  refine k_iload_n hC dJ5_append_c97b9_24 rfl 3 rfl ?_
  refine k_iload_n hC dJ5_append_c97b9_25 rfl 0 rfl ?_
  refine k_aload_n hC dJ5_append_c97b9_26 rfl 2 rfl ?_
  refine k_get hC fd_J5_15 (kl hN (by decide)) h132 rfl dJ5_append_c97b9_27 ?_
  refine k_callS hC (c_J6_getChars_4 l hls G hN w1 [(q, bA G cap1 f)] q cap1 T.length f x rfl (by omega) (by omega) hx) yy_J6_getChars_ba4f3 wm_J5_248 rfl rfl (Nat.le_of_ble_eq_true rfl) (by decide) (by decide) ⟨by decide, by decide⟩ dJ5_append_c97b9_30 (fun v3 w3 fl3 hp3 => ?_)
  obtain ⟨hp3a, hp3b, hp3c⟩ := hp3; subst hp3a; subst hp3b; subst hp3c
  show KW p l e R s m args below meth c 4 G Q w1 [(q, bA G cap1 (kup (kup (kup (kup f (T.length + 3) (48 + x % 10)) (T.length + 2) (48 + x / 10 % 10)) (T.length + 1) (48 + x / 100 % 10)) T.length (48 + x / 1000)))] 1 34 33 [(3, vI ((T.length : Int) + 4)), (2, vI (T.length : Int)), (0, .ref (kad G 132)), (1, vI x)] [vI (T.length : Int)]
  refine k_pop hC dJ5_append_c97b9_33 rfl ?_
  refine k_goto hC 48 dJ5_append_c97b9_34 rfl ?_
  refine k_aload_n hC dJ5_append_c97b9_48 rfl 2 rfl ?_
  refine k_iload_n hC dJ5_append_c97b9_49 rfl 0 rfl ?_
  refine k_topv (vI (((T ++ [48 + x / 1000, 48 + x / 100 % 10, 48 + x / 10 % 10, 48 + x % 10]).length : Int))) (congrArg vI (by rw [List.length_append]; show _ = ((T.length + 4 : Nat) : Int); omega)) ?_
  refine k_put hC fd_J5_79 (kl hN (by decide)) h132 [.ref q, vI 0, ml, vI ((T ++ [48 + x / 1000, 48 + x / 100 % 10, 48 + x / 10 % 10, 48 + x % 10]).length : Int)] rfl (Nat.le_of_ble_eq_true rfl) rfl rfl dJ5_append_c97b9_50 (fun w4 hw4 hf4 => ?_)
  refine k_aload_n hC dJ5_append_c97b9_53 rfl 2 rfl ?_
  subst hQ
  exact k_aret hC hr (Or.inl ⟨_, rfl⟩) (Or.inr ⟨_, rfl⟩) ⟨by decide, by decide⟩ (by show _ ∧ sbP G w (T ++ dgN 10 48 4 x) _ _ _; rw [hL]; exact ⟨rfl, cap1, ⟨q, _, ml, rfl, hw4, hcap, by rw [List.length_append]; show T.length + 4 ≤ _; omega, kup_8 (kup_8 (kup_8 (kup_8 (h8) (by omega)) (by omega)) (by omega)) (by omega), cdR_app hcd (fun j hj => (kup_n (by omega)).trans ((kup_n (by omega)).trans ((kup_n (by omega)).trans (kup_n (by omega))))) (fun i hi => by match i, hi with | 0, _ => exact kup_s | 1, _ => exact (kup_n (by omega)).trans (kup_s) | 2, _ => exact (kup_n (by omega)).trans ((kup_n (by omega)).trans (kup_s)) | 3, _ => exact (kup_n (by omega)).trans ((kup_n (by omega)).trans ((kup_n (by omega)).trans (kup_s))) | k + 4, h => exact absurd h (by show ¬ (k + 4 < 4); omega))⟩, by omega, fun j hj => (hf4 j (by omega)).trans (hf1 j (by omega))⟩) dJ5_append_c97b9_54

set_option maxRecDepth 100000 in
set_option maxHeartbeats 4000000 in
theorem c_J6_stringSize_5 (l : Launch) (hls : l.stackTraces = false) (G : kG) (hN : kN G = 150) (w : Nat → va_E) (fl : va_W) (x : Int) (hx : 10000 ≤ x ∧ x < 100000) : KM l G yJ6_stringSize_0f7a4 cJ6_stringSize_0f7a4 4 (some (FieldType.int)) 0 0 0 [vI x] w fl (kPure (vI 5) w fl) := by
  refine KM_ofF hls (by decide +kernel) rfl (lv0 := [(0, vI x)]) rfl (Nat.le_of_ble_eq_true rfl) (fun p e R s m args below meth c Q hC hr hQ => ?_)
  refine k_iconst hC dJ6_stringSize_0f7a4_0 ?_
  refine k_istore_n hC [(1, vI 1), (0, vI x)] dJ6_stringSize_0f7a4_1 rfl (by decide) rfl ?_
  refine k_iload_n hC dJ6_stringSize_0f7a4_2 rfl 1 rfl ?_
  refine k_if_lt hC 11 dJ6_stringSize_0f7a4_3 rfl (by omega) (fun c_3 => absurd c_3 (by omega)) (fun c_3 => ?_)
  refine k_iconst hC dJ6_stringSize_0f7a4_6 ?_
  refine k_istore_n hC [(1, vI 0), (0, vI x)] dJ6_stringSize_0f7a4_7 rfl (by decide) rfl ?_
  refine k_iload_n hC dJ6_stringSize_0f7a4_8 rfl 1 rfl ?_
  refine k_ineg hC dJ6_stringSize_0f7a4_9 ?_
  refine k_istore_n hC [(0, vI (-x)), (1, vI 0)] dJ6_stringSize_0f7a4_10 rfl (by decide) rfl ?_
  refine k_bipush hC dJ6_stringSize_0f7a4_11 (by decide) ?_
  refine k_istore_n hC [(2, vI (-10)), (0, vI (-x)), (1, vI 0)] dJ6_stringSize_0f7a4_13 rfl (by decide) rfl ?_
  refine k_iconst hC dJ6_stringSize_0f7a4_14 ?_
  refine k_istore_n hC [(3, vI 1), (2, vI (-10)), (0, vI (-x)), (1, vI 0)] dJ6_stringSize_0f7a4_15 rfl (by decide) rfl ?_
  refine k_iload_n hC dJ6_stringSize_0f7a4_16 rfl 0 rfl ?_
  refine k_bipush hC dJ6_stringSize_0f7a4_17 (by decide) ?_
  refine k_icmp_ge hC 42 dJ6_stringSize_0f7a4_19 rfl (by omega) (by omega) (fun c_19 => absurd c_19 (by omega)) (fun c_19 => ?_)
  refine k_iload_n hC dJ6_stringSize_0f7a4_22 rfl 2 rfl ?_
  refine k_iload_n hC dJ6_stringSize_0f7a4_23 rfl 1 rfl ?_
  refine k_icmp_le hC 31 dJ6_stringSize_0f7a4_24 rfl (by omega) (by omega) (fun c_24 => ?_) (fun c_24 => absurd c_24 (by omega))
  refine k_bipush hC dJ6_stringSize_0f7a4_31 (by decide) ?_
  refine k_iload_n hC dJ6_stringSize_0f7a4_33 rfl 1 rfl ?_
  refine k_imul hC dJ6_stringSize_0f7a4_34 ?_
  refine k_topv (vI (-100)) rfl ?_
  refine k_istore_n hC [(2, vI (-100)), (3, vI 1), (0, vI (-x)), (1, vI 0)] dJ6_stringSize_0f7a4_35 rfl (by decide) rfl ?_
  refine k_iinc hC (y := 2) [(3, vI 2), (2, vI (-100)), (0, vI (-x)), (1, vI 0)] (j := 1) dJ6_stringSize_0f7a4_36 rfl (by decide) (by decide) rfl ?_
  refine k_goto hC 16 dJ6_stringSize_0f7a4_39 rfl ?_
  refine k_iload_n hC dJ6_stringSize_0f7a4_16 rfl 0 rfl ?_
  refine k_bipush hC dJ6_stringSize_0f7a4_17 (by decide) ?_
  refine k_icmp_ge hC 42 dJ6_stringSize_0f7a4_19 rfl (by omega) (by omega) (fun c_19 => absurd c_19 (by omega)) (fun c_19 => ?_)
  refine k_iload_n hC dJ6_stringSize_0f7a4_22 rfl 2 rfl ?_
  refine k_iload_n hC dJ6_stringSize_0f7a4_23 rfl 1 rfl ?_
  refine k_icmp_le hC 31 dJ6_stringSize_0f7a4_24 rfl (by omega) (by omega) (fun c_24 => ?_) (fun c_24 => absurd c_24 (by omega))
  refine k_bipush hC dJ6_stringSize_0f7a4_31 (by decide) ?_
  refine k_iload_n hC dJ6_stringSize_0f7a4_33 rfl 1 rfl ?_
  refine k_imul hC dJ6_stringSize_0f7a4_34 ?_
  refine k_topv (vI (-1000)) rfl ?_
  refine k_istore_n hC [(2, vI (-1000)), (3, vI 2), (0, vI (-x)), (1, vI 0)] dJ6_stringSize_0f7a4_35 rfl (by decide) rfl ?_
  refine k_iinc hC (y := 3) [(3, vI 3), (2, vI (-1000)), (0, vI (-x)), (1, vI 0)] (j := 1) dJ6_stringSize_0f7a4_36 rfl (by decide) (by decide) rfl ?_
  refine k_goto hC 16 dJ6_stringSize_0f7a4_39 rfl ?_
  refine k_iload_n hC dJ6_stringSize_0f7a4_16 rfl 0 rfl ?_
  refine k_bipush hC dJ6_stringSize_0f7a4_17 (by decide) ?_
  refine k_icmp_ge hC 42 dJ6_stringSize_0f7a4_19 rfl (by omega) (by omega) (fun c_19 => absurd c_19 (by omega)) (fun c_19 => ?_)
  refine k_iload_n hC dJ6_stringSize_0f7a4_22 rfl 2 rfl ?_
  refine k_iload_n hC dJ6_stringSize_0f7a4_23 rfl 1 rfl ?_
  refine k_icmp_le hC 31 dJ6_stringSize_0f7a4_24 rfl (by omega) (by omega) (fun c_24 => ?_) (fun c_24 => absurd c_24 (by omega))
  refine k_bipush hC dJ6_stringSize_0f7a4_31 (by decide) ?_
  refine k_iload_n hC dJ6_stringSize_0f7a4_33 rfl 1 rfl ?_
  refine k_imul hC dJ6_stringSize_0f7a4_34 ?_
  refine k_topv (vI (-10000)) rfl ?_
  refine k_istore_n hC [(2, vI (-10000)), (3, vI 3), (0, vI (-x)), (1, vI 0)] dJ6_stringSize_0f7a4_35 rfl (by decide) rfl ?_
  refine k_iinc hC (y := 4) [(3, vI 4), (2, vI (-10000)), (0, vI (-x)), (1, vI 0)] (j := 1) dJ6_stringSize_0f7a4_36 rfl (by decide) (by decide) rfl ?_
  refine k_goto hC 16 dJ6_stringSize_0f7a4_39 rfl ?_
  refine k_iload_n hC dJ6_stringSize_0f7a4_16 rfl 0 rfl ?_
  refine k_bipush hC dJ6_stringSize_0f7a4_17 (by decide) ?_
  refine k_icmp_ge hC 42 dJ6_stringSize_0f7a4_19 rfl (by omega) (by omega) (fun c_19 => absurd c_19 (by omega)) (fun c_19 => ?_)
  refine k_iload_n hC dJ6_stringSize_0f7a4_22 rfl 2 rfl ?_
  refine k_iload_n hC dJ6_stringSize_0f7a4_23 rfl 1 rfl ?_
  refine k_icmp_le hC 31 dJ6_stringSize_0f7a4_24 rfl (by omega) (by omega) (fun c_24 => ?_) (fun c_24 => absurd c_24 (by omega))
  refine k_bipush hC dJ6_stringSize_0f7a4_31 (by decide) ?_
  refine k_iload_n hC dJ6_stringSize_0f7a4_33 rfl 1 rfl ?_
  refine k_imul hC dJ6_stringSize_0f7a4_34 ?_
  refine k_topv (vI (-100000)) rfl ?_
  refine k_istore_n hC [(2, vI (-100000)), (3, vI 4), (0, vI (-x)), (1, vI 0)] dJ6_stringSize_0f7a4_35 rfl (by decide) rfl ?_
  refine k_iinc hC (y := 5) [(3, vI 5), (2, vI (-100000)), (0, vI (-x)), (1, vI 0)] (j := 1) dJ6_stringSize_0f7a4_36 rfl (by decide) (by decide) rfl ?_
  refine k_goto hC 16 dJ6_stringSize_0f7a4_39 rfl ?_
  refine k_iload_n hC dJ6_stringSize_0f7a4_16 rfl 0 rfl ?_
  refine k_bipush hC dJ6_stringSize_0f7a4_17 (by decide) ?_
  refine k_icmp_ge hC 42 dJ6_stringSize_0f7a4_19 rfl (by omega) (by omega) (fun c_19 => absurd c_19 (by omega)) (fun c_19 => ?_)
  refine k_iload_n hC dJ6_stringSize_0f7a4_22 rfl 2 rfl ?_
  refine k_iload_n hC dJ6_stringSize_0f7a4_23 rfl 1 rfl ?_
  refine k_icmp_le hC 31 dJ6_stringSize_0f7a4_24 rfl (by omega) (by omega) (fun c_24 => absurd c_24 (by omega)) (fun c_24 => ?_)
  refine k_iload_n hC dJ6_stringSize_0f7a4_27 rfl 0 rfl ?_
  refine k_iload_n hC dJ6_stringSize_0f7a4_28 rfl 3 rfl ?_
  refine k_iadd hC dJ6_stringSize_0f7a4_29 ?_
  subst hQ
  exact k_iret hC hr ⟨by decide, by decide⟩ (⟨congrArg (fun z => some (vI z)) (show (5 : Int) = 5 + 0 from by omega), rfl, rfl⟩) dJ6_stringSize_0f7a4_30

set_option maxRecDepth 100000 in
set_option maxHeartbeats 4000000 in
theorem c_J6_getChars_5 (l : Launch) (hls : l.stackTraces = false) (G : kG) (hN : kN G = 150) (w : Nat → va_E) (fl : va_W) (q n b0 : Nat) (f : Nat → Int) (x : Int) (hfl : fl = [(q, bA G n f)]) (hn : n ≤ 34) (hcn : b0 + 5 ≤ n) (hx : 10000 ≤ x ∧ x < 100000) : KM l G yJ6_getChars_ba4f3 cJ6_getChars_ba4f3 7 (some (FieldType.int)) 0 0 0 [vI x, vI ((b0 : Int) + 5), .ref q] w fl (fun v1 w1 fl1 => some (vI (b0 : Int)) = v1 ∧ w = w1 ∧ fl1 = [(q, bA G n (kup (kup (kup (kup (kup f (b0 + 4) (48 + x % 10)) (b0 + 3) (48 + x / 10 % 10)) (b0 + 2) (48 + x / 100 % 10)) (b0 + 1) (48 + x / 1000 % 10)) b0 (48 + x / 10000)))]) := by
  refine KM_ofF hls (by decide +kernel) rfl (lv0 := [(0, vI x), (1, vI ((b0 : Int) + 5)), (2, .ref q)]) rfl (Nat.le_of_ble_eq_true rfl) (fun p e R s m args below meth c Q hC hr hQ => ?_)
  subst hfl
  refine k_iload_n hC dJ6_getChars_ba4f3_0 rfl 1 rfl ?_
  refine k_istore hC [(5, vI ((b0 : Int) + 5)), (0, vI x), (1, vI ((b0 : Int) + 5)), (2, .ref q)] dJ6_getChars_ba4f3_1 (by decide) rfl ?_
  refine k_iload_n hC dJ6_getChars_ba4f3_3 rfl 1 rfl ?_
  refine k_if_ge hC 11 dJ6_getChars_ba4f3_4 rfl (by omega) (fun c_4 => ?_) (fun c_4 => absurd c_4 (by omega))
  refine k_iconst hC dJ6_getChars_ba4f3_11 ?_
  refine k_istore hC [(6, vI 0), (5, vI ((b0 : Int) + 5)), (0, vI x), (1, vI ((b0 : Int) + 5)), (2, .ref q)] dJ6_getChars_ba4f3_12 (by decide) rfl ?_
  refine k_iload hC dJ6_getChars_ba4f3_14 0 rfl ?_
  refine k_if_ne hC 22 dJ6_getChars_ba4f3_16 rfl (by omega) (fun c_16 => absurd c_16 (by omega)) (fun c_16 => ?_)
  refine k_iload_n hC dJ6_getChars_ba4f3_19 rfl 2 rfl ?_
  refine k_ineg hC dJ6_getChars_ba4f3_20 ?_
  refine k_istore_n hC [(0, vI (-x)), (6, vI 0), (5, vI ((b0 : Int) + 5)), (1, vI ((b0 : Int) + 5)), (2, .ref q)] dJ6_getChars_ba4f3_21 rfl (by decide) rfl ?_
  refine k_iload_n hC dJ6_getChars_ba4f3_22 rfl 0 rfl ?_
  refine k_bipush hC dJ6_getChars_ba4f3_23 (by decide) ?_
  refine k_icmp_gt hC 72 dJ6_getChars_ba4f3_25 rfl (by omega) (by omega) (fun c_25 => absurd c_25 (by omega)) (fun c_25 => ?_)
  refine k_iload_n hC dJ6_getChars_ba4f3_28 rfl 0 rfl ?_
  refine k_bipush hC dJ6_getChars_ba4f3_29 (by decide) ?_
  refine k_idiv hC dJ6_getChars_ba4f3_31 (by omega) (by omega) ?_
  refine k_topv (vI (-(x / 100))) (congrArg vI (by rw [Int.neg_tdiv, Int.tdiv_eq_ediv_of_nonneg (by omega)])) ?_
  refine k_istore_n hC [(3, vI (-(x / 100))), (0, vI (-x)), (6, vI 0), (5, vI ((b0 : Int) + 5)), (1, vI ((b0 : Int) + 5)), (2, .ref q)] dJ6_getChars_ba4f3_32 rfl (by decide) rfl ?_
  refine k_iload_n hC dJ6_getChars_ba4f3_33 rfl 0 rfl ?_
  refine k_bipush hC dJ6_getChars_ba4f3_34 (by decide) ?_
  refine k_imul hC dJ6_getChars_ba4f3_36 ?_
  refine k_iload_n hC dJ6_getChars_ba4f3_37 rfl 1 rfl ?_
  refine k_isub hC dJ6_getChars_ba4f3_38 ?_
  refine k_topv (vI (x % 100)) (congrArg vI (by omega)) ?_
  refine k_istore hC [(4, vI (x % 100)), (3, vI (-(x / 100))), (0, vI (-x)), (6, vI 0), (5, vI ((b0 : Int) + 5)), (1, vI ((b0 : Int) + 5)), (2, .ref q)] dJ6_getChars_ba4f3_39 (by decide) rfl ?_
  refine k_iload_n hC dJ6_getChars_ba4f3_41 rfl 1 rfl ?_
  refine k_istore_n hC [(0, vI (-(x / 100))), (4, vI (x % 100)), (3, vI (-(x / 100))), (6, vI 0), (5, vI ((b0 : Int) + 5)), (1, vI ((b0 : Int) + 5)), (2, .ref q)] dJ6_getChars_ba4f3_42 rfl (by decide) rfl ?_
  refine k_aload_n hC dJ6_getChars_ba4f3_43 rfl 6 rfl ?_
  refine k_iinc hC (y := (b0 : Int) + 5 - 1) [(5, vI ((b0 : Int) + 5 - 1)), (0, vI (-(x / 100))), (4, vI (x % 100)), (3, vI (-(x / 100))), (6, vI 0), (1, vI ((b0 : Int) + 5)), (2, .ref q)] (j := 4) dJ6_getChars_ba4f3_44 rfl (by omega) (by decide) rfl ?_
  refine k_iload hC dJ6_getChars_ba4f3_47 0 rfl ?_
  refine k_dgs1 hC wf_J6_83 dJ6_getChars_ba4f3_49 ?_
  refine k_iload hC dJ6_getChars_ba4f3_52 2 rfl ?_
  refine k_bald1 hC (by omega) dJ6_getChars_ba4f3_54 ?_
  refine k_topv (vI (48 + x % 10)) (congrArg vI (by omega)) ?_
  refine k_bastF hC 0 [(q, bA G n (kup f (b0 + 4) (48 + x % 10)))] rfl (by rw [show ((b0 : Int) + 5 - 1).toNat = b0 + 4 by omega]; rfl) (by omega) (by omega) (by omega) dJ6_getChars_ba4f3_55 ?_
  refine k_aload_n hC dJ6_getChars_ba4f3_56 rfl 6 rfl ?_
  refine k_iinc hC (y := (b0 : Int) + 5 - 1 - 1) [(5, vI ((b0 : Int) + 5 - 1 - 1)), (0, vI (-(x / 100))), (4, vI (x % 100)), (3, vI (-(x / 100))), (6, vI 0), (1, vI ((b0 : Int) + 5)), (2, .ref q)] (j := 0) dJ6_getChars_ba4f3_57 rfl (by omega) (by decide) rfl ?_
  refine k_iload hC dJ6_getChars_ba4f3_60 0 rfl ?_
  refine k_dgs2 hC wf_J6_87 dJ6_getChars_ba4f3_62 ?_
  refine k_iload hC dJ6_getChars_ba4f3_65 2 rfl ?_
  refine k_bald2 hC (by omega) dJ6_getChars_ba4f3_67 ?_
  refine k_topv (vI (48 + x / 10 % 10)) (congrArg vI (by omega)) ?_
  refine k_bastF hC 0 [(q, bA G n (kup (kup f (b0 + 4) (48 + x % 10)) (b0 + 3) (48 + x / 10 % 10)))] rfl (by rw [show ((b0 : Int) + 5 - 1 - 1).toNat = b0 + 3 by omega]; rfl) (by omega) (by omega) (by omega) dJ6_getChars_ba4f3_68 ?_
  refine k_goto hC 22 dJ6_getChars_ba4f3_69 rfl ?_
  refine k_iload_n hC dJ6_getChars_ba4f3_22 rfl 1 rfl ?_
  refine k_bipush hC dJ6_getChars_ba4f3_23 (by decide) ?_
  refine k_icmp_gt hC 72 dJ6_getChars_ba4f3_25 rfl (by omega) (by omega) (fun c_25 => absurd c_25 (by omega)) (fun c_25 => ?_)
  refine k_iload_n hC dJ6_getChars_ba4f3_28 rfl 1 rfl ?_
  refine k_bipush hC dJ6_getChars_ba4f3_29 (by decide) ?_
  refine k_idiv hC dJ6_getChars_ba4f3_31 (by omega) (by omega) ?_
  refine k_topv (vI (-(x / 10000))) (congrArg vI (by rw [Int.neg_tdiv, Int.tdiv_eq_ediv_of_nonneg (by omega)]; omega)) ?_
  refine k_istore_n hC [(3, vI (-(x / 10000))), (5, vI ((b0 : Int) + 5 - 1 - 1)), (0, vI (-(x / 100))), (4, vI (x % 100)), (6, vI 0), (1, vI ((b0 : Int) + 5)), (2, .ref q)] dJ6_getChars_ba4f3_32 rfl (by decide) rfl ?_
  refine k_iload_n hC dJ6_getChars_ba4f3_33 rfl 0 rfl ?_
  refine k_bipush hC dJ6_getChars_ba4f3_34 (by decide) ?_
  refine k_imul hC dJ6_getChars_ba4f3_36 ?_
  refine k_iload_n hC dJ6_getChars_ba4f3_37 rfl 2 rfl ?_
  refine k_isub hC dJ6_getChars_ba4f3_38 ?_
  refine k_topv (vI (x / 100 % 100)) (congrArg vI (by omega)) ?_
  refine k_istore hC [(4, vI (x / 100 % 100)), (3, vI (-(x / 10000))), (5, vI ((b0 : Int) + 5 - 1 - 1)), (0, vI (-(x / 100))), (6, vI 0), (1, vI ((b0 : Int) + 5)), (2, .ref q)] dJ6_getChars_ba4f3_39 (by decide) rfl ?_
  refine k_iload_n hC dJ6_getChars_ba4f3_41 rfl 1 rfl ?_
  refine k_istore_n hC [(0, vI (-(x / 10000))), (4, vI (x / 100 % 100)), (3, vI (-(x / 10000))), (5, vI ((b0 : Int) + 5 - 1 - 1)), (6, vI 0), (1, vI ((b0 : Int) + 5)), (2, .ref q)] dJ6_getChars_ba4f3_42 rfl (by decide) rfl ?_
  refine k_aload_n hC dJ6_getChars_ba4f3_43 rfl 6 rfl ?_
  refine k_iinc hC (y := (b0 : Int) + 5 - 1 - 1 - 1) [(5, vI ((b0 : Int) + 5 - 1 - 1 - 1)), (0, vI (-(x / 10000))), (4, vI (x / 100 % 100)), (3, vI (-(x / 10000))), (6, vI 0), (1, vI ((b0 : Int) + 5)), (2, .ref q)] (j := 3) dJ6_getChars_ba4f3_44 rfl (by omega) (by decide) rfl ?_
  refine k_iload hC dJ6_getChars_ba4f3_47 0 rfl ?_
  refine k_dgs1 hC wf_J6_83 dJ6_getChars_ba4f3_49 ?_
  refine k_iload hC dJ6_getChars_ba4f3_52 2 rfl ?_
  refine k_bald1 hC (by omega) dJ6_getChars_ba4f3_54 ?_
  refine k_topv (vI (48 + x / 100 % 10)) (congrArg vI (by omega)) ?_
  refine k_bastF hC 0 [(q, bA G n (kup (kup (kup f (b0 + 4) (48 + x % 10)) (b0 + 3) (48 + x / 10 % 10)) (b0 + 2) (48 + x / 100 % 10)))] rfl (by rw [show ((b0 : Int) + 5 - 1 - 1 - 1).toNat = b0 + 2 by omega]; rfl) (by omega) (by omega) (by omega) dJ6_getChars_ba4f3_55 ?_
  refine k_aload_n hC dJ6_getChars_ba4f3_56 rfl 6 rfl ?_
  refine k_iinc hC (y := (b0 : Int) + 5 - 1 - 1 - 1 - 1) [(5, vI ((b0 : Int) + 5 - 1 - 1 - 1 - 1)), (0, vI (-(x / 10000))), (4, vI (x / 100 % 100)), (3, vI (-(x / 10000))), (6, vI 0), (1, vI ((b0 : Int) + 5)), (2, .ref q)] (j := 0) dJ6_getChars_ba4f3_57 rfl (by omega) (by decide) rfl ?_
  refine k_iload hC dJ6_getChars_ba4f3_60 0 rfl ?_
  refine k_dgs2 hC wf_J6_87 dJ6_getChars_ba4f3_62 ?_
  refine k_iload hC dJ6_getChars_ba4f3_65 2 rfl ?_
  refine k_bald2 hC (by omega) dJ6_getChars_ba4f3_67 ?_
  refine k_topv (vI (48 + x / 1000 % 10)) (congrArg vI (by omega)) ?_
  refine k_bastF hC 0 [(q, bA G n (kup (kup (kup (kup f (b0 + 4) (48 + x % 10)) (b0 + 3) (48 + x / 10 % 10)) (b0 + 2) (48 + x / 100 % 10)) (b0 + 1) (48 + x / 1000 % 10)))] rfl (by rw [show ((b0 : Int) + 5 - 1 - 1 - 1 - 1).toNat = b0 + 1 by omega]; rfl) (by omega) (by omega) (by omega) dJ6_getChars_ba4f3_68 ?_
  refine k_goto hC 22 dJ6_getChars_ba4f3_69 rfl ?_
  refine k_iload_n hC dJ6_getChars_ba4f3_22 rfl 1 rfl ?_
  refine k_bipush hC dJ6_getChars_ba4f3_23 (by decide) ?_
  refine k_icmp_gt hC 72 dJ6_getChars_ba4f3_25 rfl (by omega) (by omega) (fun c_25 => ?_) (fun c_25 => absurd c_25 (by omega))
  refine k_aload_n hC dJ6_getChars_ba4f3_72 rfl 6 rfl ?_
  refine k_iinc hC (y := (b0 : Int) + 5 - 1 - 1 - 1 - 1 - 1) [(5, vI ((b0 : Int) + 5 - 1 - 1 - 1 - 1 - 1)), (0, vI (-(x / 10000))), (4, vI (x / 100 % 100)), (3, vI (-(x / 10000))), (6, vI 0), (1, vI ((b0 : Int) + 5)), (2, .ref q)] (j := 0) dJ6_getChars_ba4f3_73 rfl (by omega) (by decide) rfl ?_
  refine k_iload hC dJ6_getChars_ba4f3_76 0 rfl ?_
  refine k_dgs1 hC wf_J6_83 dJ6_getChars_ba4f3_78 ?_
  refine k_iload_n hC dJ6_getChars_ba4f3_81 rfl 1 rfl ?_
  refine k_ineg hC dJ6_getChars_ba4f3_82 ?_
  refine k_topv (vI (x / 10000)) (congrArg vI (by omega)) ?_
  refine k_bald1 hC (by omega) dJ6_getChars_ba4f3_83 ?_
  refine k_topv (vI (48 + x / 10000)) (congrArg vI (by omega)) ?_
  refine k_bastF hC 0 [(q, bA G n (kup (kup (kup (kup (kup f (b0 + 4) (48 + x % 10)) (b0 + 3) (48 + x / 10 % 10)) (b0 + 2) (48 + x / 100 % 10)) (b0 + 1) (48 + x / 1000 % 10)) b0 (48 + x / 10000)))] rfl (by rw [show ((b0 : Int) + 5 - 1 - 1 - 1 - 1 - 1).toNat = b0 by omega]; rfl) (by omega) (by omega) (by omega) dJ6_getChars_ba4f3_84 ?_
  refine k_iload_n hC dJ6_getChars_ba4f3_85 rfl 1 rfl ?_
  refine k_bipush hC dJ6_getChars_ba4f3_86 (by decide) ?_
  refine k_icmp_ge hC 104 dJ6_getChars_ba4f3_88 rfl (by omega) (by omega) (fun c_88 => ?_) (fun c_88 => absurd c_88 (by omega))
  refine k_iload hC dJ6_getChars_ba4f3_104 4 rfl ?_
  refine k_if_eq hC 118 dJ6_getChars_ba4f3_106 rfl (by omega) (fun c_106 => ?_) (fun c_106 => absurd c_106 (by omega))
  refine k_iload hC dJ6_getChars_ba4f3_118 0 rfl ?_
  subst hQ
  exact k_iret hC hr ⟨by decide, by decide⟩ (⟨congrArg (fun z => some (vI z)) (show (b0 : Int) = (b0 : Int) + 5 - 1 - 1 - 1 - 1 - 1 from by omega), rfl, rfl⟩) dJ6_getChars_ba4f3_120

set_option maxRecDepth 100000 in
set_option maxHeartbeats 4000000 in
theorem c_J5_append_I5_in (l : Launch) (hls : l.stackTraces = false) (G : kG) (hN : kN G = 150) (w : Nat → va_E) (fl : va_W) (T : List Int) (cap : Nat) (x : Int) (hsb : sbC G w fl T cap) (hx : 10000 ≤ x ∧ x < 100000) (hlt : (T.length : Int) + ((dgN 10 48 4 x).length : Int) ≤ (cap : Int)) : KM l G yJ5_append_c97b9 cJ5_append_c97b9 4 (some ((FieldType.object "java/lang/AbstractStringBuilder"))) 1 0 0 [.ref (kad G 132), vI x] w fl (fun v1 w1 fl1 => some (.ref (kad G 132)) = v1 ∧ sbP G w (T ++ dgN 10 48 4 x) (fun z => z = cap) w1 fl1) := by
  refine KM_ofF hls (by decide +kernel) rfl (lv0 := [(0, .ref (kad G 132)), (1, vI x)]) rfl (Nat.le_of_ble_eq_true rfl) (fun p e R s m args below meth c Q hC hr hQ => ?_)
  have hsb0 := hsb
  obtain ⟨q, f, ml, hfl, h132, hcap, hlen, h8, hcd⟩ := hsb
  subst hfl
  have hL := dg4_5 hx
  rw [hL] at hlt
  have hlt2 : (T.length : Int) + 5 ≤ (cap : Int) := hlt
  refine k_aload_n hC dJ5_append_c97b9_0 rfl 0 rfl ?_
  refine k_get hC fd_J5_79 (kl hN (by decide)) h132 rfl dJ5_append_c97b9_1 ?_
  refine k_istore_n hC [(2, vI (T.length : Int)), (0, .ref (kad G 132)), (1, vI x)] dJ5_append_c97b9_4 rfl (by decide) rfl ?_
  refine k_iload_n hC dJ5_append_c97b9_5 rfl 0 rfl ?_
  refine k_iload_n hC dJ5_append_c97b9_6 rfl 2 rfl ?_
  refine k_pureS hC (c_J6_stringSize_5 l hls G hN w [(q, bA G cap f)] x hx) yy_J6_stringSize_0f7a4 wm_J5_245 rfl rfl (Nat.le_of_ble_eq_true rfl) (by decide) (by decide) ⟨by decide, by decide⟩ dJ5_append_c97b9_7 ?_
  refine k_iadd hC dJ5_append_c97b9_10 ?_
  refine k_istore_n hC [(3, vI ((T.length : Int) + 5)), (2, vI (T.length : Int)), (0, .ref (kad G 132)), (1, vI x)] dJ5_append_c97b9_11 rfl (by decide) rfl ?_
  refine k_aload_n hC dJ5_append_c97b9_12 rfl 2 rfl ?_
  refine k_iload_n hC dJ5_append_c97b9_13 rfl 0 rfl ?_
  refine k_callU hC (c_J5_ensure_in l hls G hN w [(q, bA G cap f)] T cap ((T.length : Int) + 5) hsb0 (by omega)) yu_J5_ensureCapacityInternal_d00df wm_J5_100 (kl hN (by decide)) h132 rfl rfl (Nat.le_of_ble_eq_true rfl) (by decide) (by decide) ⟨by decide, by decide⟩ dJ5_append_c97b9_14 (fun v1 w1 fl1 hp1 => ?_)
  obtain ⟨hp1a, hp1b, hp1c⟩ := hp1; subst hp1a; subst hp1b; subst hp1c
  show KW p l e R s m args below meth c 4 G Q w [(q, bA G cap f)] 0 0 17 [(3, vI ((T.length : Int) + 5)), (2, vI (T.length : Int)), (0, .ref (kad G 132)), (1, vI x)] []
  refine k_aload_n hC dJ5_append_c97b9_17 rfl 2 rfl ?_
  refine k_callU hC (c_J5_isLatin1_aae02 l hls G hN w [(q, bA G cap f)] q ml (T.length : Int) h132) yu_J5_isLatin1_aae02 wm_J5_83 (kl hN (by decide)) h132 rfl rfl (Nat.le_of_ble_eq_true rfl) (by decide) (by decide) ⟨by decide, by decide⟩ dJ5_append_c97b9_18 (fun v2 w2 fl2 hp2 => ?_)
  obtain ⟨hp2a, hp2b, hp2c⟩ := hp2; subst hp2a; subst hp2b; subst hp2c
  show KW p l e R s m args below meth c 4 G Q w [(q, bA G cap f)] 0 0 21 [(3, vI ((T.length : Int) + 5)), (2, vI (T.length : Int)), (0, .ref (kad G 132)), (1, vI x)] [vI 1]
  refine k_if_eq hC 37 dJ5_append_c97b9_21 rfl (by omega) (fun c_21 => absurd c_21 (by omega)) (fun c_21 => ?_)
  refine k_iload_n hC dJ5_append_c97b9_24 rfl 3 rfl ?_
  refine k_iload_n hC dJ5_append_c97b9_25 rfl 0 rfl ?_
  refine k_aload_n hC dJ5_append_c97b9_26 rfl 2 rfl ?_
  refine k_get hC fd_J5_15 (kl hN (by decide)) h132 rfl dJ5_append_c97b9_27 ?_
  refine k_callS hC (c_J6_getChars_5 l hls G hN w [(q, bA G cap f)] q cap T.length f x rfl (by omega) (by omega) hx) yy_J6_getChars_ba4f3 wm_J5_248 rfl rfl (Nat.le_of_ble_eq_true rfl) (by decide) (by decide) ⟨by decide, by decide⟩ dJ5_append_c97b9_30 (fun v3 w3 fl3 hp3 => ?_)
  obtain ⟨hp3a, hp3b, hp3c⟩ := hp3; subst hp3a; subst hp3b; subst hp3c
  show KW p l e R s m args below meth c 4 G Q w [(q, bA G cap (kup (kup (kup (kup (kup f (T.length + 4) (48 + x % 10)) (T.length + 3) (48 + x / 10 % 10)) (T.length + 2) (48 + x / 100 % 10)) (T.length + 1) (48 + x / 1000 % 10)) T.length (48 + x / 10000)))] 0 0 33 [(3, vI ((T.length : Int) + 5)), (2, vI (T.length : Int)), (0, .ref (kad G 132)), (1, vI x)] [vI (T.length : Int)]
  refine k_pop hC dJ5_append_c97b9_33 rfl ?_
  refine k_goto hC 48 dJ5_append_c97b9_34 rfl ?_
  refine k_aload_n hC dJ5_append_c97b9_48 rfl 2 rfl ?_
  refine k_iload_n hC dJ5_append_c97b9_49 rfl 0 rfl ?_
  refine k_topv (vI (((T ++ [48 + x / 10000, 48 + x / 1000 % 10, 48 + x / 100 % 10, 48 + x / 10 % 10, 48 + x % 10]).length : Int))) (congrArg vI (by rw [List.length_append]; show _ = ((T.length + 5 : Nat) : Int); omega)) ?_
  refine k_put hC fd_J5_79 (kl hN (by decide)) h132 [.ref q, vI 0, ml, vI ((T ++ [48 + x / 10000, 48 + x / 1000 % 10, 48 + x / 100 % 10, 48 + x / 10 % 10, 48 + x % 10]).length : Int)] rfl (Nat.le_of_ble_eq_true rfl) rfl rfl dJ5_append_c97b9_50 (fun w4 hw4 hf4 => ?_)
  refine k_aload_n hC dJ5_append_c97b9_53 rfl 2 rfl ?_
  subst hQ
  exact k_aret hC hr (Or.inl ⟨_, rfl⟩) (Or.inr ⟨_, rfl⟩) ⟨by decide, by decide⟩ (by show _ ∧ sbP G w (T ++ dgN 10 48 4 x) _ _ _; rw [hL]; exact ⟨rfl, cap, ⟨q, _, ml, rfl, hw4, hcap, by rw [List.length_append]; show T.length + 5 ≤ _; omega, kup_8 (kup_8 (kup_8 (kup_8 (kup_8 (h8) (by omega)) (by omega)) (by omega)) (by omega)) (by omega), cdR_app hcd (fun j hj => (kup_n (by omega)).trans ((kup_n (by omega)).trans ((kup_n (by omega)).trans ((kup_n (by omega)).trans (kup_n (by omega)))))) (fun i hi => by match i, hi with | 0, _ => exact kup_s | 1, _ => exact (kup_n (by omega)).trans (kup_s) | 2, _ => exact (kup_n (by omega)).trans ((kup_n (by omega)).trans (kup_s)) | 3, _ => exact (kup_n (by omega)).trans ((kup_n (by omega)).trans ((kup_n (by omega)).trans (kup_s))) | 4, _ => exact (kup_n (by omega)).trans ((kup_n (by omega)).trans ((kup_n (by omega)).trans ((kup_n (by omega)).trans (kup_s)))) | k + 5, h => exact absurd h (by show ¬ (k + 5 < 5); omega))⟩, rfl, fun j hj => hf4 j (by omega)⟩) dJ5_append_c97b9_54

set_option maxRecDepth 100000 in
set_option maxHeartbeats 4000000 in
theorem c_J5_append_I5_any (l : Launch) (hls : l.stackTraces = false) (G : kG) (hN : kN G = 150) (w : Nat → va_E) (fl : va_W) (T : List Int) (cap : Nat) (x : Int) (hsb : sbC G w fl T cap) (hx : 10000 ≤ x ∧ x < 100000) (hlt : (T.length : Int) + ((dgN 10 48 4 x).length : Int) ≤ 34) : KM l G yJ5_append_c97b9 cJ5_append_c97b9 4 (some ((FieldType.object "java/lang/AbstractStringBuilder"))) 4 1 34 [.ref (kad G 132), vI x] w fl (fun v1 w1 fl1 => some (.ref (kad G 132)) = v1 ∧ sbP G w (T ++ dgN 10 48 4 x) (fun z => cap ≤ z) w1 fl1) := by
  refine KM_ofF hls (by decide +kernel) rfl (lv0 := [(0, .ref (kad G 132)), (1, vI x)]) rfl (Nat.le_of_ble_eq_true rfl) (fun p e R s m args below meth c Q hC hr hQ => ?_)
  have hsb0 := hsb
  obtain ⟨q, f, ml, hfl, h132, hcap, hlen, h8, hcd⟩ := hsb
  subst hfl
  have hL := dg4_5 hx
  rw [hL] at hlt
  have hlt2 : (T.length : Int) + 5 ≤ 34 := hlt
  refine k_aload_n hC dJ5_append_c97b9_0 rfl 0 rfl ?_
  refine k_get hC fd_J5_79 (kl hN (by decide)) h132 rfl dJ5_append_c97b9_1 ?_
  refine k_istore_n hC [(2, vI (T.length : Int)), (0, .ref (kad G 132)), (1, vI x)] dJ5_append_c97b9_4 rfl (by decide) rfl ?_
  refine k_iload_n hC dJ5_append_c97b9_5 rfl 0 rfl ?_
  refine k_iload_n hC dJ5_append_c97b9_6 rfl 2 rfl ?_
  refine k_pureS hC (c_J6_stringSize_5 l hls G hN w [(q, bA G cap f)] x hx) yy_J6_stringSize_0f7a4 wm_J5_245 rfl rfl (Nat.le_of_ble_eq_true rfl) (by decide) (by decide) ⟨by decide, by decide⟩ dJ5_append_c97b9_7 ?_
  refine k_iadd hC dJ5_append_c97b9_10 ?_
  refine k_istore_n hC [(3, vI ((T.length : Int) + 5)), (2, vI (T.length : Int)), (0, .ref (kad G 132)), (1, vI x)] dJ5_append_c97b9_11 rfl (by decide) rfl ?_
  refine k_aload_n hC dJ5_append_c97b9_12 rfl 2 rfl ?_
  refine k_iload_n hC dJ5_append_c97b9_13 rfl 0 rfl ?_
  refine k_callU hC (c_J5_ensure_any l hls G hN w [(q, bA G cap f)] T cap ((T.length : Int) + 5) hsb0 (by omega)) yu_J5_ensureCapacityInternal_d00df wm_J5_100 (kl hN (by decide)) h132 rfl rfl (Nat.le_of_ble_eq_true rfl) (by decide) (by decide) ⟨by decide, by decide⟩ dJ5_append_c97b9_14 (fun v1 w1 fl1 hp1 => ?_)
  obtain ⟨hp1a, cap1, hsb1, hcp1, hf1⟩ := hp1; subst hp1a
  have hsb0 := hsb1
  obtain ⟨q, f, ml, hfl, h132, hcap, hlen, h8, hcd⟩ := hsb1
  subst hfl
  show KW p l e R s m args below meth c 4 G Q w1 [(q, bA G cap1 f)] 1 34 17 [(3, vI ((T.length : Int) + 5)), (2, vI (T.length : Int)), (0, .ref (kad G 132)), (1, vI x)] []
  refine k_aload_n hC dJ5_append_c97b9_17 rfl 2 rfl ?_
  refine k_callU hC (c_J5_isLatin1_aae02 l hls G hN w1 [(q, bA G cap1 f)] q ml (T.length : Int) h132) yu_J5_isLatin1_aae02 wm_J5_83 (kl hN (by decide)) h132 rfl rfl (Nat.le_of_ble_eq_true rfl) (by decide) (by decide) ⟨by decide, by decide⟩ dJ5_append_c97b9_18 (fun v2 w2 fl2 hp2 => ?_)
  obtain ⟨hp2a, hp2b, hp2c⟩ := hp2; subst hp2a; subst hp2b; subst hp2c
  show KW p l e R s m args below meth c 4 G Q w1 [(q, bA G cap1 f)] 1 34 21 [(3, vI ((T.length : Int) + 5)), (2, vI (T.length : Int)), (0, .ref (kad G 132)), (1, vI x)] [vI 1]
  refine k_if_eq hC 37 dJ5_append_c97b9_21 rfl (by omega) (fun c_21 => absurd c_21 (by omega)) (fun c_21 => ?_)
  refine k_iload_n hC dJ5_append_c97b9_24 rfl 3 rfl ?_
  refine k_iload_n hC dJ5_append_c97b9_25 rfl 0 rfl ?_
  refine k_aload_n hC dJ5_append_c97b9_26 rfl 2 rfl ?_
  refine k_get hC fd_J5_15 (kl hN (by decide)) h132 rfl dJ5_append_c97b9_27 ?_
  refine k_callS hC (c_J6_getChars_5 l hls G hN w1 [(q, bA G cap1 f)] q cap1 T.length f x rfl (by omega) (by omega) hx) yy_J6_getChars_ba4f3 wm_J5_248 rfl rfl (Nat.le_of_ble_eq_true rfl) (by decide) (by decide) ⟨by decide, by decide⟩ dJ5_append_c97b9_30 (fun v3 w3 fl3 hp3 => ?_)
  obtain ⟨hp3a, hp3b, hp3c⟩ := hp3; subst hp3a; subst hp3b; subst hp3c
  show KW p l e R s m args below meth c 4 G Q w1 [(q, bA G cap1 (kup (kup (kup (kup (kup f (T.length + 4) (48 + x % 10)) (T.length + 3) (48 + x / 10 % 10)) (T.length + 2) (48 + x / 100 % 10)) (T.length + 1) (48 + x / 1000 % 10)) T.length (48 + x / 10000)))] 1 34 33 [(3, vI ((T.length : Int) + 5)), (2, vI (T.length : Int)), (0, .ref (kad G 132)), (1, vI x)] [vI (T.length : Int)]
  refine k_pop hC dJ5_append_c97b9_33 rfl ?_
  refine k_goto hC 48 dJ5_append_c97b9_34 rfl ?_
  refine k_aload_n hC dJ5_append_c97b9_48 rfl 2 rfl ?_
  refine k_iload_n hC dJ5_append_c97b9_49 rfl 0 rfl ?_
  refine k_topv (vI (((T ++ [48 + x / 10000, 48 + x / 1000 % 10, 48 + x / 100 % 10, 48 + x / 10 % 10, 48 + x % 10]).length : Int))) (congrArg vI (by rw [List.length_append]; show _ = ((T.length + 5 : Nat) : Int); omega)) ?_
  refine k_put hC fd_J5_79 (kl hN (by decide)) h132 [.ref q, vI 0, ml, vI ((T ++ [48 + x / 10000, 48 + x / 1000 % 10, 48 + x / 100 % 10, 48 + x / 10 % 10, 48 + x % 10]).length : Int)] rfl (Nat.le_of_ble_eq_true rfl) rfl rfl dJ5_append_c97b9_50 (fun w4 hw4 hf4 => ?_)
  refine k_aload_n hC dJ5_append_c97b9_53 rfl 2 rfl ?_
  subst hQ
  exact k_aret hC hr (Or.inl ⟨_, rfl⟩) (Or.inr ⟨_, rfl⟩) ⟨by decide, by decide⟩ (by show _ ∧ sbP G w (T ++ dgN 10 48 4 x) _ _ _; rw [hL]; exact ⟨rfl, cap1, ⟨q, _, ml, rfl, hw4, hcap, by rw [List.length_append]; show T.length + 5 ≤ _; omega, kup_8 (kup_8 (kup_8 (kup_8 (kup_8 (h8) (by omega)) (by omega)) (by omega)) (by omega)) (by omega), cdR_app hcd (fun j hj => (kup_n (by omega)).trans ((kup_n (by omega)).trans ((kup_n (by omega)).trans ((kup_n (by omega)).trans (kup_n (by omega)))))) (fun i hi => by match i, hi with | 0, _ => exact kup_s | 1, _ => exact (kup_n (by omega)).trans (kup_s) | 2, _ => exact (kup_n (by omega)).trans ((kup_n (by omega)).trans (kup_s)) | 3, _ => exact (kup_n (by omega)).trans ((kup_n (by omega)).trans ((kup_n (by omega)).trans (kup_s))) | 4, _ => exact (kup_n (by omega)).trans ((kup_n (by omega)).trans ((kup_n (by omega)).trans ((kup_n (by omega)).trans (kup_s)))) | k + 5, h => exact absurd h (by show ¬ (k + 5 < 5); omega))⟩, by omega, fun j hj => (hf4 j (by omega)).trans (hf1 j (by omega))⟩) dJ5_append_c97b9_54

set_option maxRecDepth 100000 in
theorem c_J5_append_I_in (l : Launch) (hls : l.stackTraces = false) (G : kG) (hN : kN G = 150) (w : Nat → va_E) (fl : va_W) (T : List Int) (cap : Nat) (x : Int) (hsb : sbC G w fl T cap) (hx : 0 ≤ x ∧ x < 100000) (hlt : (T.length : Int) + ((dgN 10 48 4 x).length : Int) ≤ (cap : Int)) : KM l G yJ5_append_c97b9 cJ5_append_c97b9 4 (some ((FieldType.object "java/lang/AbstractStringBuilder"))) 1 0 0 [.ref (kad G 132), vI x] w fl (fun v1 w1 fl1 => some (.ref (kad G 132)) = v1 ∧ sbP G w (T ++ dgN 10 48 4 x) (fun z => z = cap) w1 fl1) := by
  by_cases h1 : x < 10
  · exact c_J5_append_I1_in l hls G hN w fl T cap x hsb ⟨by omega, h1⟩ hlt
  by_cases h2 : x < 100
  · exact c_J5_append_I2_in l hls G hN w fl T cap x hsb ⟨by omega, h2⟩ hlt
  by_cases h3 : x < 1000
  · exact c_J5_append_I3_in l hls G hN w fl T cap x hsb ⟨by omega, h3⟩ hlt
  by_cases h4 : x < 10000
  · exact c_J5_append_I4_in l hls G hN w fl T cap x hsb ⟨by omega, h4⟩ hlt
  exact c_J5_append_I5_in l hls G hN w fl T cap x hsb ⟨by omega, hx.2⟩ hlt
set_option maxRecDepth 100000 in
set_option maxHeartbeats 4000000 in
theorem c_J4_append_I_in (l : Launch) (hls : l.stackTraces = false) (G : kG) (hN : kN G = 150) (w : Nat → va_E) (fl : va_W) (T : List Int) (cap : Nat) (x : Int) (hsb : sbC G w fl T cap) (hx : 0 ≤ x ∧ x < 100000) (hlt : (T.length : Int) + ((dgN 10 48 4 x).length : Int) ≤ (cap : Int)) : KM l G yJ4_append_bf812 cJ4_append_bf812 2 (some ((FieldType.object "java/lang/StringBuilder"))) 5 0 0 [.ref (kad G 132), vI x] w fl (fun v1 w1 fl1 => some (.ref (kad G 132)) = v1 ∧ sbP G w (T ++ dgN 10 48 4 x) (fun z => z = cap) w1 fl1) := by
  refine KM_ofF hls (by decide +kernel) rfl (lv0 := [(0, .ref (kad G 132)), (1, vI x)]) rfl (Nat.le_of_ble_eq_true rfl) (fun p e R s m args below meth c Q hC hr hQ => ?_)
  have hsb0 := hsb
  obtain ⟨q, f, ml, hfl, h132, hcap, hlen, h8, hcd⟩ := hsb
  subst hfl
  refine k_aload_n hC dJ4_append_bf812_0 rfl 0 rfl ?_
  refine k_iload_n hC dJ4_append_bf812_1 rfl 1 rfl ?_
  refine k_callP hC (c_J5_append_I_in l hls G hN w [(q, bA G cap f)] T cap x hsb0 hx hlt) yp_J5_append_c97b9 wm_J4_53 (kl hN (by decide)) h132 rfl rfl (Nat.le_of_ble_eq_true rfl) (by decide) (by decide) ⟨by decide, by decide⟩ dJ4_append_bf812_2 (fun v1 w1 fl1 hp1 => ?_)
  obtain ⟨hp1a, hp1b⟩ := hp1; subst hp1a
  show KW p l e R s m args below meth c 2 G Q w1 fl1 0 0 5 [(0, .ref (kad G 132)), (1, vI x)] [.ref (kad G 132)]
  refine k_pop hC dJ4_append_bf812_5 rfl ?_
  refine k_aload_n hC dJ4_append_bf812_6 rfl 0 rfl ?_
  subst hQ
  exact k_aret hC hr (Or.inl ⟨_, rfl⟩) (Or.inr ⟨_, rfl⟩) ⟨by decide, by decide⟩ (⟨rfl, hp1b⟩) dJ4_append_bf812_7

set_option maxRecDepth 100000 in
theorem c_J5_append_I_any (l : Launch) (hls : l.stackTraces = false) (G : kG) (hN : kN G = 150) (w : Nat → va_E) (fl : va_W) (T : List Int) (cap : Nat) (x : Int) (hsb : sbC G w fl T cap) (hx : 0 ≤ x ∧ x < 100000) (hlt : (T.length : Int) + ((dgN 10 48 4 x).length : Int) ≤ 34) : KM l G yJ5_append_c97b9 cJ5_append_c97b9 4 (some ((FieldType.object "java/lang/AbstractStringBuilder"))) 4 1 34 [.ref (kad G 132), vI x] w fl (fun v1 w1 fl1 => some (.ref (kad G 132)) = v1 ∧ sbP G w (T ++ dgN 10 48 4 x) (fun z => cap ≤ z) w1 fl1) := by
  by_cases h1 : x < 10
  · exact c_J5_append_I1_any l hls G hN w fl T cap x hsb ⟨by omega, h1⟩ hlt
  by_cases h2 : x < 100
  · exact c_J5_append_I2_any l hls G hN w fl T cap x hsb ⟨by omega, h2⟩ hlt
  by_cases h3 : x < 1000
  · exact c_J5_append_I3_any l hls G hN w fl T cap x hsb ⟨by omega, h3⟩ hlt
  by_cases h4 : x < 10000
  · exact c_J5_append_I4_any l hls G hN w fl T cap x hsb ⟨by omega, h4⟩ hlt
  exact c_J5_append_I5_any l hls G hN w fl T cap x hsb ⟨by omega, hx.2⟩ hlt
set_option maxRecDepth 100000 in
set_option maxHeartbeats 4000000 in
theorem c_J4_append_I_any (l : Launch) (hls : l.stackTraces = false) (G : kG) (hN : kN G = 150) (w : Nat → va_E) (fl : va_W) (T : List Int) (cap : Nat) (x : Int) (hsb : sbC G w fl T cap) (hx : 0 ≤ x ∧ x < 100000) (hlt : (T.length : Int) + ((dgN 10 48 4 x).length : Int) ≤ 34) : KM l G yJ4_append_bf812 cJ4_append_bf812 2 (some ((FieldType.object "java/lang/StringBuilder"))) 5 1 34 [.ref (kad G 132), vI x] w fl (fun v1 w1 fl1 => some (.ref (kad G 132)) = v1 ∧ sbP G w (T ++ dgN 10 48 4 x) (fun z => cap ≤ z) w1 fl1) := by
  refine KM_ofF hls (by decide +kernel) rfl (lv0 := [(0, .ref (kad G 132)), (1, vI x)]) rfl (Nat.le_of_ble_eq_true rfl) (fun p e R s m args below meth c Q hC hr hQ => ?_)
  have hsb0 := hsb
  obtain ⟨q, f, ml, hfl, h132, hcap, hlen, h8, hcd⟩ := hsb
  subst hfl
  refine k_aload_n hC dJ4_append_bf812_0 rfl 0 rfl ?_
  refine k_iload_n hC dJ4_append_bf812_1 rfl 1 rfl ?_
  refine k_callP hC (c_J5_append_I_any l hls G hN w [(q, bA G cap f)] T cap x hsb0 hx hlt) yp_J5_append_c97b9 wm_J4_53 (kl hN (by decide)) h132 rfl rfl (Nat.le_of_ble_eq_true rfl) (by decide) (by decide) ⟨by decide, by decide⟩ dJ4_append_bf812_2 (fun v1 w1 fl1 hp1 => ?_)
  obtain ⟨hp1a, hp1b⟩ := hp1; subst hp1a
  show KW p l e R s m args below meth c 2 G Q w1 fl1 1 34 5 [(0, .ref (kad G 132)), (1, vI x)] [.ref (kad G 132)]
  refine k_pop hC dJ4_append_bf812_5 rfl ?_
  refine k_aload_n hC dJ4_append_bf812_6 rfl 0 rfl ?_
  subst hQ
  exact k_aret hC hr (Or.inl ⟨_, rfl⟩) (Or.inr ⟨_, rfl⟩) ⟨by decide, by decide⟩ (⟨rfl, hp1b⟩) dJ4_append_bf812_7

set_option maxRecDepth 100000 in
set_option maxHeartbeats 4000000 in
theorem c_J5_inflateIfNeededFor_a7421 (l : Launch) (hls : l.stackTraces = false) (G : kG) (hN : kN G = 150) (w : Nat → va_E) (fl : va_W) (T : List Int) (cap : Nat)  (hsb : sbC G w fl T cap) : KM l G yJ5_inflateIfNeededFor_a7421 cJ5_inflateIfNeededFor_a7421 2 (none) 1 0 0 [.ref (kad G 132), .ref (kadK G 28)] w fl (kMuv fl (fun w1 => w = w1)) := by
  refine KM_ofF hls (by decide +kernel) rfl (lv0 := [(0, .ref (kad G 132)), (1, .ref (kadK G 28))]) rfl (Nat.le_of_ble_eq_true rfl) (fun p e R s m args below meth c Q hC hr hQ => ?_)
  have hsb0 := hsb
  obtain ⟨q, f, ml, hfl, h132, hcap, hlen, h8, hcd⟩ := hsb
  subst hfl
  refine k_compact hC wf_J5_18 dJ5_inflateIfNeededFor_a7421_0 ?_
  refine k_if_eq hC 21 dJ5_inflateIfNeededFor_a7421_3 rfl (by omega) (fun c_3 => absurd c_3 (by omega)) (fun c_3 => ?_)
  refine k_aload_n hC dJ5_inflateIfNeededFor_a7421_6 rfl 0 rfl ?_
  refine k_get hC fd_J5_22 (kl hN (by decide)) h132 rfl dJ5_inflateIfNeededFor_a7421_7 ?_
  refine k_aload_n hC dJ5_inflateIfNeededFor_a7421_10 rfl 1 rfl ?_
  refine k_pureVK hC (c_J0_coder_7d493 l hls G hN w [(q, bA G cap f)] 28 (by decide)) yy_J0_coder_7d493 wm_J5_40 (by decide) rfl rfl rfl (Nat.le_of_ble_eq_true rfl) (by decide) (by decide) ⟨by decide, by decide⟩ dJ5_inflateIfNeededFor_a7421_11 ?_
  refine k_icmp_eq hC 21 dJ5_inflateIfNeededFor_a7421_14 rfl (by omega) (by omega) (fun c_14 => ?_) (fun c_14 => absurd c_14 (by omega))
  subst hQ
  exact k_vret hC hr ⟨by decide, by decide⟩ (⟨rfl, rfl, rfl⟩) dJ5_inflateIfNeededFor_a7421_21

set_option maxRecDepth 100000 in
set_option maxHeartbeats 4000000 in
theorem c_J0_getBytes_840e7 (l : Launch) (hls : l.stackTraces = false) (G : kG) (hN : kN G = 150) (w : Nat → va_E) (fl : va_W) (q n b0 : Nat) (f : Nat → Int) (hfl : fl = [(q, bA G n f)]) (hn : n ≤ 34) (hcn : b0 + 2 ≤ n) : KM l G yJ0_getBytes_840e7 cJ0_getBytes_840e7 4 (none) 2 0 0 [.ref (kadK G 28), .ref q, vI (b0 : Int), vI 0] w fl (fun v1 w1 fl1 => none = v1 ∧ w = w1 ∧ fl1 = [(q, bA G n (va_cpy (stC 28) f 0 b0 2))]) := by
  refine KM_ofF hls (by decide +kernel) rfl (lv0 := [(0, .ref (kadK G 28)), (1, .ref q), (2, vI (b0 : Int)), (3, vI 0)]) rfl (Nat.le_of_ble_eq_true rfl) (fun p e R s m args below meth c Q hC hr hQ => ?_)
  subst hfl
  refine k_aload_n hC dJ0_getBytes_840e7_0 rfl 0 rfl ?_
  refine k_pureVK hC (c_J0_coder_7d493 l hls G hN w [(q, bA G n f)] 28 (by decide)) yy_J0_coder_7d493 wm_J0_335 (by decide) rfl rfl rfl (Nat.le_of_ble_eq_true rfl) (by decide) (by decide) ⟨by decide, by decide⟩ dJ0_getBytes_840e7_1 ?_
  refine k_iload_n hC dJ0_getBytes_840e7_4 rfl 3 rfl ?_
  refine k_icmp_ne hC 28 dJ0_getBytes_840e7_5 rfl (by omega) (by omega) (fun c_5 => absurd c_5 (by omega)) (fun c_5 => ?_)
  refine k_aload_n hC dJ0_getBytes_840e7_8 rfl 0 rfl ?_
  refine k_getSv hC (by decide) wf_J0_9 dJ0_getBytes_840e7_9 ?_
  refine k_iconst hC dJ0_getBytes_840e7_12 ?_
  refine k_aload_n hC dJ0_getBytes_840e7_13 rfl 1 rfl ?_
  refine k_iload_n hC dJ0_getBytes_840e7_14 rfl 2 rfl ?_
  refine k_iload_n hC dJ0_getBytes_840e7_15 rfl 3 rfl ?_
  refine k_ishl0 hC dJ0_getBytes_840e7_16 ?_
  refine k_aload_n hC dJ0_getBytes_840e7_17 rfl 0 rfl ?_
  refine k_getSv hC (by decide) wf_J0_9 dJ0_getBytes_840e7_18 ?_
  refine k_alenS hC (by decide) dJ0_getBytes_840e7_21 ?_
  refine k_topv (vI 2) rfl ?_
  refine k_copyS hC (by decide) wm_J0_212 wcopy rfl (by omega) (by omega) (by omega) (by decide) (Nat.le_of_ble_eq_true rfl) dJ0_getBytes_840e7_22 ?_
  show KW p l e R s m args below meth c 4 G Q w [(q, bA G n (va_cpy (stC 28) f 0 b0 2))] 0 0 25 [(0, .ref (kadK G 28)), (1, .ref q), (2, vI (b0 : Int)), (3, vI 0)] []
  refine k_goto hC 43 dJ0_getBytes_840e7_25 rfl ?_
  subst hQ
  exact k_vret hC hr ⟨by decide, by decide⟩ (⟨rfl, rfl, rfl⟩) dJ0_getBytes_840e7_43

set_option maxRecDepth 100000 in
set_option maxHeartbeats 4000000 in
theorem c_J5_putStringAt_47b60 (l : Launch) (hls : l.stackTraces = false) (G : kG) (hN : kN G = 150) (w : Nat → va_E) (fl : va_W) (T : List Int) (cap : Nat)  (hsb : sbC G w fl T cap) (hlt : T.length + 2 ≤ cap) : KM l G yJ5_putStringAt_47b60 cJ5_putStringAt_47b60 3 (none) 3 0 0 [.ref (kad G 132), vI (T.length : Int), .ref (kadK G 28)] w fl (fun v1 w1 fl1 => none = v1 ∧ w = w1 ∧ ∃ q f ml, fl1 = [(q, bA G cap (va_cpy (stC 28) f 0 T.length 2))] ∧ w 132 = .inr (13, [.ref q, vI 0, ml, vI (T.length : Int)]) ∧ (∀ j, -128 ≤ f j ∧ f j < 128) ∧ cdR f T.length T) := by
  refine KM_ofF hls (by decide +kernel) rfl (lv0 := [(0, .ref (kad G 132)), (1, vI (T.length : Int)), (2, .ref (kadK G 28))]) rfl (Nat.le_of_ble_eq_true rfl) (fun p e R s m args below meth c Q hC hr hQ => ?_)
  have hsb0 := hsb
  obtain ⟨q, f, ml, hfl, h132, hcap, hlen, h8, hcd⟩ := hsb
  subst hfl
  refine k_aload_n hC dJ5_putStringAt_47b60_0 rfl 0 rfl ?_
  refine k_aload_n hC dJ5_putStringAt_47b60_1 rfl 2 rfl ?_
  refine k_callU hC (c_J5_inflateIfNeededFor_a7421 l hls G hN w [(q, bA G cap f)] T cap hsb0) yu_J5_inflateIfNeededFor_a7421 wm_J5_397 (kl hN (by decide)) h132 rfl rfl (Nat.le_of_ble_eq_true rfl) (by decide) (by decide) ⟨by decide, by decide⟩ dJ5_putStringAt_47b60_2 (fun v1 w1 fl1 hp1 => ?_)
  obtain ⟨hp1a, hp1b, hp1c⟩ := hp1; subst hp1a; subst hp1b; subst hp1c
  show KW p l e R s m args below meth c 3 G Q w [(q, bA G cap f)] 0 0 5 [(0, .ref (kad G 132)), (1, vI (T.length : Int)), (2, .ref (kadK G 28))] []
  refine k_aload_n hC dJ5_putStringAt_47b60_5 rfl 2 rfl ?_
  refine k_aload_n hC dJ5_putStringAt_47b60_6 rfl 0 rfl ?_
  refine k_get hC fd_J5_15 (kl hN (by decide)) h132 rfl dJ5_putStringAt_47b60_7 ?_
  refine k_iload_n hC dJ5_putStringAt_47b60_10 rfl 1 rfl ?_
  refine k_aload_n hC dJ5_putStringAt_47b60_11 rfl 0 rfl ?_
  refine k_get hC fd_J5_22 (kl hN (by decide)) h132 rfl dJ5_putStringAt_47b60_12 ?_
  refine k_callVK hC (c_J0_getBytes_840e7 l hls G hN w [(q, bA G cap f)] q cap T.length f rfl (by omega) (by omega)) yy_J0_getBytes_840e7 wm_J5_399 (by decide) rfl rfl rfl (Nat.le_of_ble_eq_true rfl) (by decide) (by decide) ⟨by decide, by decide⟩ dJ5_putStringAt_47b60_15 (fun v2 w2 fl2 hp2 => ?_)
  obtain ⟨hp2a, hp2b, hp2c⟩ := hp2; subst hp2a; subst hp2b; subst hp2c
  show KW p l e R s m args below meth c 3 G Q w [(q, bA G cap (va_cpy (stC 28) f 0 T.length 2))] 0 0 18 [(0, .ref (kad G 132)), (1, vI (T.length : Int)), (2, .ref (kadK G 28))] []
  subst hQ
  exact k_vret hC hr ⟨by decide, by decide⟩ (⟨rfl, rfl, q, f, ml, rfl, h132, h8, hcd⟩) dJ5_putStringAt_47b60_18

theorem z28 (j : Nat) : -128 ≤ stC 28 j ∧ stC 28 j < 128 := by
  match j with
  | 0 => decide
  | 1 => decide
  | k + 2 => exact ⟨by show -128 ≤ (0 : Int); decide, by show (0 : Int) < 128; decide⟩
set_option maxRecDepth 100000 in
set_option maxHeartbeats 4000000 in
theorem c_J5_append_S (l : Launch) (hls : l.stackTraces = false) (G : kG) (hN : kN G = 150) (w : Nat → va_E) (fl : va_W) (T : List Int) (cap : Nat)  (hsb : sbC G w fl T cap) (hlt : (T.length : Int) + 2 ≤ 34) : KM l G yJ5_append_cf1ce cJ5_append_cf1ce 3 (some ((FieldType.object "java/lang/AbstractStringBuilder"))) 4 1 34 [.ref (kad G 132), .ref (kadK G 28)] w fl (fun v1 w1 fl1 => some (.ref (kad G 132)) = v1 ∧ sbP G w (T ++ [32] ++ [122]) (fun z => cap ≤ z) w1 fl1) := by
  refine KM_ofF hls (by decide +kernel) rfl (lv0 := [(0, .ref (kad G 132)), (1, .ref (kadK G 28))]) rfl (Nat.le_of_ble_eq_true rfl) (fun p e R s m args below meth c Q hC hr hQ => ?_)
  have hsb0 := hsb
  obtain ⟨q, f, ml, hfl, h132, hcap, hlen, h8, hcd⟩ := hsb
  subst hfl
  refine k_aload_n hC dJ5_append_cf1ce_0 rfl 1 rfl ?_
  refine k_ifnn hC 9 dJ5_append_cf1ce_1 rfl ?_
  refine k_aload_n hC dJ5_append_cf1ce_9 rfl 1 rfl ?_
  refine k_pureVK hC (c_J0_length_8abf5 l hls G hN w [(q, bA G cap f)] 28 (by decide)) yy_J0_length_8abf5 wm_J5_32 (by decide) rfl rfl rfl (Nat.le_of_ble_eq_true rfl) (by decide) (by decide) ⟨by decide, by decide⟩ dJ5_append_cf1ce_10 ?_
  refine k_topv (vI 2) rfl ?_
  refine k_istore_n hC [(2, vI 2), (0, .ref (kad G 132)), (1, .ref (kadK G 28))] dJ5_append_cf1ce_13 rfl (by decide) rfl ?_
  refine k_aload_n hC dJ5_append_cf1ce_14 rfl 1 rfl ?_
  refine k_aload_n hC dJ5_append_cf1ce_15 rfl 1 rfl ?_
  refine k_get hC fd_J5_79 (kl hN (by decide)) h132 rfl dJ5_append_cf1ce_16 ?_
  refine k_iload_n hC dJ5_append_cf1ce_19 rfl 0 rfl ?_
  refine k_iadd hC dJ5_append_cf1ce_20 ?_
  refine k_callU hC (c_J5_ensure_any l hls G hN w [(q, bA G cap f)] T cap ((T.length : Int) + 2) hsb0 (by omega)) yu_J5_ensureCapacityInternal_d00df wm_J5_100 (kl hN (by decide)) h132 rfl rfl (Nat.le_of_ble_eq_true rfl) (by decide) (by decide) ⟨by decide, by decide⟩ dJ5_append_cf1ce_21 (fun v1 w1 fl1 hp1 => ?_)
  obtain ⟨hp1a, cap1, hsb1, hcp1, hf1⟩ := hp1; subst hp1a
  have hsb0 := hsb1
  obtain ⟨q, f, ml, hfl, h132, hcap, hlen, h8, hcd⟩ := hsb1
  subst hfl
  show KW p l e R s m args below meth c 3 G Q w1 [(q, bA G cap1 f)] 1 34 24 [(2, vI 2), (0, .ref (kad G 132)), (1, .ref (kadK G 28))] []
  refine k_aload_n hC dJ5_append_cf1ce_24 rfl 1 rfl ?_
  refine k_aload_n hC dJ5_append_cf1ce_25 rfl 1 rfl ?_
  refine k_get hC fd_J5_79 (kl hN (by decide)) h132 rfl dJ5_append_cf1ce_26 ?_
  refine k_aload_n hC dJ5_append_cf1ce_29 rfl 2 rfl ?_
  refine k_callU hC (c_J5_putStringAt_47b60 l hls G hN w1 [(q, bA G cap1 f)] T cap1 hsb0 (by omega)) yu_J5_putStringAt_47b60 wm_J5_208 (kl hN (by decide)) h132 rfl rfl (Nat.le_of_ble_eq_true rfl) (by decide) (by decide) ⟨by decide, by decide⟩ dJ5_append_cf1ce_30 (fun v2 w2 fl2 hp2 => ?_)
  obtain ⟨hp2a, hp2b, q, f, ml, hp2c, h132b, h8, hcd⟩ := hp2; subst hp2a; subst hp2b; subst hp2c
  show KW p l e R s m args below meth c 3 G Q w1 [(q, bA G cap1 (va_cpy (stC 28) f 0 T.length 2))] 1 34 33 [(2, vI 2), (0, .ref (kad G 132)), (1, .ref (kadK G 28))] []
  refine k_aload_n hC dJ5_append_cf1ce_33 rfl 1 rfl ?_
  refine k_dup hC dJ5_append_cf1ce_34 rfl ?_
  refine k_get hC fd_J5_79 (kl hN (by decide)) h132b rfl dJ5_append_cf1ce_35 ?_
  refine k_iload_n hC dJ5_append_cf1ce_38 rfl 0 rfl ?_
  refine k_iadd hC dJ5_append_cf1ce_39 ?_
  refine k_topv (vI (((T ++ [32] ++ [122]).length : Int))) (congrArg vI (by rw [List.length_append, List.length_append]; show _ = ((T.length + 1 + 1 : Nat) : Int); omega)) ?_
  refine k_put hC fd_J5_79 (kl hN (by decide)) h132b [.ref q, vI 0, ml, vI ((T ++ [32] ++ [122]).length : Int)] rfl (Nat.le_of_ble_eq_true rfl) rfl rfl dJ5_append_cf1ce_40 (fun w3 hw3 hf3 => ?_)
  refine k_aload_n hC dJ5_append_cf1ce_43 rfl 1 rfl ?_
  subst hQ
  exact k_aret hC hr (Or.inl ⟨_, rfl⟩) (Or.inr ⟨_, rfl⟩) ⟨by decide, by decide⟩ (⟨rfl, cap1, ⟨q, _, ml, rfl, hw3, hcap, by rw [List.length_append, List.length_append]; show T.length + 1 + 1 ≤ _; omega, cpy_8 (fun j => z28 j) h8, by rw [List.append_assoc]; exact cdR_app hcd (fun j hj => if_neg (by omega)) (fun i hi => by match i, hi with | 0, _ => exact (if_pos (by omega)).trans ((congrArg (stC 28) (by omega)).trans (show stC 28 0 = 32 by decide)) | 1, _ => exact (if_pos (by omega)).trans ((congrArg (stC 28) (by omega)).trans (show stC 28 1 = 122 by decide)) | k + 2, h => exact absurd h (by show ¬ (k + 2 < 2); omega))⟩, by omega, fun j hj => (hf3 j (by omega)).trans (hf1 j (by omega))⟩) dJ5_append_cf1ce_44

set_option maxRecDepth 100000 in
set_option maxHeartbeats 4000000 in
theorem c_J4_append_S (l : Launch) (hls : l.stackTraces = false) (G : kG) (hN : kN G = 150) (w : Nat → va_E) (fl : va_W) (T : List Int) (cap : Nat)  (hsb : sbC G w fl T cap) (hlt : (T.length : Int) + 2 ≤ 34) : KM l G yJ4_append_15ec4 cJ4_append_15ec4 2 (some ((FieldType.object "java/lang/StringBuilder"))) 5 1 34 [.ref (kad G 132), .ref (kadK G 28)] w fl (fun v1 w1 fl1 => some (.ref (kad G 132)) = v1 ∧ sbP G w (T ++ [32] ++ [122]) (fun z => cap ≤ z) w1 fl1) := by
  refine KM_ofF hls (by decide +kernel) rfl (lv0 := [(0, .ref (kad G 132)), (1, .ref (kadK G 28))]) rfl (Nat.le_of_ble_eq_true rfl) (fun p e R s m args below meth c Q hC hr hQ => ?_)
  have hsb0 := hsb
  obtain ⟨q, f, ml, hfl, h132, hcap, hlen, h8, hcd⟩ := hsb
  subst hfl
  refine k_aload_n hC dJ4_append_15ec4_0 rfl 0 rfl ?_
  refine k_aload_n hC dJ4_append_15ec4_1 rfl 1 rfl ?_
  refine k_callP hC (c_J5_append_S l hls G hN w [(q, bA G cap f)] T cap hsb0 hlt) yp_J5_append_cf1ce wm_J4_29 (kl hN (by decide)) h132 rfl rfl (Nat.le_of_ble_eq_true rfl) (by decide) (by decide) ⟨by decide, by decide⟩ dJ4_append_15ec4_2 (fun v1 w1 fl1 hp1 => ?_)
  obtain ⟨hp1a, hp1b⟩ := hp1; subst hp1a
  show KW p l e R s m args below meth c 2 G Q w1 fl1 1 34 5 [(0, .ref (kad G 132)), (1, .ref (kadK G 28))] [.ref (kad G 132)]
  refine k_pop hC dJ4_append_15ec4_5 rfl ?_
  refine k_aload_n hC dJ4_append_15ec4_6 rfl 0 rfl ?_
  subst hQ
  exact k_aret hC hr (Or.inl ⟨_, rfl⟩) (Or.inr ⟨_, rfl⟩) ⟨by decide, by decide⟩ (⟨rfl, hp1b⟩) dJ4_append_15ec4_7

