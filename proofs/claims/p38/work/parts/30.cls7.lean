abbrev tkO (G : kG) (cn cd ea kd nm sa nx en : Int) : va_E := .inr (10, [.ref (kad G 2), vI cn, vI cd, vI ea, vI kd, vI nm, vI sa, vI nx, vI en])
abbrev byA (G : kG) (bt : Nat → Int) : va_E := bA G 700 (fun j => sb8 (bt j))
def btOK (bt : Nat → Int) : Prop := ∀ j, 0 ≤ bt j ∧ bt j ≤ 255
theorem sb8_m {x : Int} (h : 0 ≤ x ∧ x ≤ 255) : sb8 x % 256 = x := by unfold sb8; split <;> omega
def byV (bt : Nat → Int) (i : Nat) : Int := if i < 700 then bt i else -1
theorem byV_1 {bt : Nat → Int} {i : Nat} (h : i < 700) : byV bt i = bt i := if_pos h
theorem byV_b {bt : Nat → Int} (hb : btOK bt) (i : Nat) : -1 ≤ byV bt i ∧ byV bt i ≤ 255 := by
  have := hb i
  unfold byV; split <;> omega
def tkR (G : kG) (w : Nat → va_E) (bt : Nat → Int) (n : Nat) (st : PS) : Prop := ∃ cn ea kd nm sa nx : Int, w 1 = tkO G cn st.1 ea kd nm sa nx (n : Int) ∧ cn = 0 ∧ (st.1 = 0 → st.2.2 ≤ n ∧ ea = -1 ∧ kd = kdM bt n st.2.2 ∧ sa = (st.2.2 : Int) ∧ nx = (enM bt n st.2.2 : Int) ∧ (kd = 2 → nm = min 1000000 (numM bt n st.2.2))) ∧ (st.1 ≠ 0 → (1 ≤ st.1 ∧ st.1 ≤ 5) ∧ ea = st.2.1 ∧ kd = 0 ∧ nx = (n : Int))
theorem tkR.fr {G : kG} {w w1 : Nat → va_E} {bt : Nat → Int} {n : Nat} {st : PS} (h : tkR G w bt n st) (hf : ∀ j, 1 ≤ j → j ≤ 1 → w1 j = w j) : tkR G w1 bt n st := by
  obtain ⟨cn, ea, kd, nm, sa, nx, h1, h2⟩ := h
  exact ⟨cn, ea, kd, nm, sa, nx, (hf 1 (by omega) (by omega)).trans h1, h2⟩
set_option maxRecDepth 100000 in
set_option maxHeartbeats 4000000 in
theorem c_X10_isBlank (l : Launch) (hls : l.stackTraces = false) (G : kG) (hN : 133 ≤ kN G) (w : Nat → va_E) (fl : va_W) (x : Int) (hx : -2147483648 ≤ x ∧ x ≤ 2147483647) : KM l G yX10_isBlank cX10_isBlank 1 (some (FieldType.boolean)) 0 0 0 [vI x] w fl (kPure (vI (if isBl x = true then 1 else 0)) w fl) := by
  refine KM_of2 hls (by decide +kernel) rfl (lv0 := [(0, vI x)]) rfl (Nat.le_of_ble_eq_true rfl) (fun p e R s m args below meth c Q hC hr hQ => ?_)
  refine k_iload_n hC dX10_isBlank_0 rfl 0 rfl ?_
  refine k_bipush hC dX10_isBlank_1 (by decide) ?_
  refine k_icmp_eq hC 12 dX10_isBlank_3 rfl (by omega) (by omega) (fun c_3 => ?_) (fun c_3 => ?_)
  · refine k_iconst hC dX10_isBlank_12 ?_
    refine k_goto hC 17 dX10_isBlank_13 rfl ?_
    subst hQ
    exact k_zret hC (by omega) hr ⟨by decide, by decide⟩ (⟨congrArg (fun z => some (vI z)) (show (if isBl x = true then 1 else 0 : Int) = 1 from if_pos (isBl_1.mpr (by omega))), rfl, rfl⟩) dX10_isBlank_17
  · refine k_iload_n hC dX10_isBlank_6 rfl 0 rfl ?_
    refine k_bipush hC dX10_isBlank_7 (by decide) ?_
    refine k_icmp_ne hC 16 dX10_isBlank_9 rfl (by omega) (by omega) (fun c_9 => ?_) (fun c_9 => ?_)
    · refine k_iconst hC dX10_isBlank_16 ?_
      subst hQ
      exact k_zret hC (by omega) hr ⟨by decide, by decide⟩ (⟨congrArg (fun z => some (vI z)) (show (if isBl x = true then 1 else 0 : Int) = 0 from if_neg (fun q => by have := isBl_1.mp q; omega)), rfl, rfl⟩) dX10_isBlank_17
    · refine k_iconst hC dX10_isBlank_12 ?_
      refine k_goto hC 17 dX10_isBlank_13 rfl ?_
      subst hQ
      exact k_zret hC (by omega) hr ⟨by decide, by decide⟩ (⟨congrArg (fun z => some (vI z)) (show (if isBl x = true then 1 else 0 : Int) = 1 from if_pos (isBl_1.mpr (by omega))), rfl, rfl⟩) dX10_isBlank_17

set_option maxRecDepth 100000 in
set_option maxHeartbeats 4000000 in
theorem c_X10_isLetter (l : Launch) (hls : l.stackTraces = false) (G : kG) (hN : 133 ≤ kN G) (w : Nat → va_E) (fl : va_W) (x : Int) (hx : -2147483648 ≤ x ∧ x ≤ 2147483647) : KM l G yX10_isLetter cX10_isLetter 1 (some (FieldType.boolean)) 0 0 0 [vI x] w fl (kPure (vI (if isLt x = true then 1 else 0)) w fl) := by
  refine KM_of2 hls (by decide +kernel) rfl (lv0 := [(0, vI x)]) rfl (Nat.le_of_ble_eq_true rfl) (fun p e R s m args below meth c Q hC hr hQ => ?_)
  refine k_iload_n hC dX10_isLetter_0 rfl 0 rfl ?_
  refine k_bipush hC dX10_isLetter_1 (by decide) ?_
  refine k_icmp_lt hC 16 dX10_isLetter_3 rfl (by omega) (by omega) (fun c_3 => ?_) (fun c_3 => ?_)
  · refine k_iconst hC dX10_isLetter_16 ?_
    subst hQ
    exact k_zret hC (by omega) hr ⟨by decide, by decide⟩ (⟨congrArg (fun z => some (vI z)) (show (if isLt x = true then 1 else 0 : Int) = 0 from if_neg (fun q => by have := isLt_1.mp q; omega)), rfl, rfl⟩) dX10_isLetter_17
  · refine k_iload_n hC dX10_isLetter_6 rfl 0 rfl ?_
    refine k_bipush hC dX10_isLetter_7 (by decide) ?_
    refine k_icmp_gt hC 16 dX10_isLetter_9 rfl (by omega) (by omega) (fun c_9 => ?_) (fun c_9 => ?_)
    · refine k_iconst hC dX10_isLetter_16 ?_
      subst hQ
      exact k_zret hC (by omega) hr ⟨by decide, by decide⟩ (⟨congrArg (fun z => some (vI z)) (show (if isLt x = true then 1 else 0 : Int) = 0 from if_neg (fun q => by have := isLt_1.mp q; omega)), rfl, rfl⟩) dX10_isLetter_17
    · refine k_iconst hC dX10_isLetter_12 ?_
      refine k_goto hC 17 dX10_isLetter_13 rfl ?_
      subst hQ
      exact k_zret hC (by omega) hr ⟨by decide, by decide⟩ (⟨congrArg (fun z => some (vI z)) (show (if isLt x = true then 1 else 0 : Int) = 1 from if_pos (isLt_1.mpr (by omega))), rfl, rfl⟩) dX10_isLetter_17

set_option maxRecDepth 100000 in
set_option maxHeartbeats 4000000 in
theorem c_X10_isDigit (l : Launch) (hls : l.stackTraces = false) (G : kG) (hN : 133 ≤ kN G) (w : Nat → va_E) (fl : va_W) (x : Int) (hx : -2147483648 ≤ x ∧ x ≤ 2147483647) : KM l G yX10_isDigit cX10_isDigit 1 (some (FieldType.boolean)) 0 0 0 [vI x] w fl (kPure (vI (if isDg x = true then 1 else 0)) w fl) := by
  refine KM_of2 hls (by decide +kernel) rfl (lv0 := [(0, vI x)]) rfl (Nat.le_of_ble_eq_true rfl) (fun p e R s m args below meth c Q hC hr hQ => ?_)
  refine k_iload_n hC dX10_isDigit_0 rfl 0 rfl ?_
  refine k_bipush hC dX10_isDigit_1 (by decide) ?_
  refine k_icmp_lt hC 16 dX10_isDigit_3 rfl (by omega) (by omega) (fun c_3 => ?_) (fun c_3 => ?_)
  · refine k_iconst hC dX10_isDigit_16 ?_
    subst hQ
    exact k_zret hC (by omega) hr ⟨by decide, by decide⟩ (⟨congrArg (fun z => some (vI z)) (show (if isDg x = true then 1 else 0 : Int) = 0 from if_neg (fun q => by have := isDg_1.mp q; omega)), rfl, rfl⟩) dX10_isDigit_17
  · refine k_iload_n hC dX10_isDigit_6 rfl 0 rfl ?_
    refine k_bipush hC dX10_isDigit_7 (by decide) ?_
    refine k_icmp_gt hC 16 dX10_isDigit_9 rfl (by omega) (by omega) (fun c_9 => ?_) (fun c_9 => ?_)
    · refine k_iconst hC dX10_isDigit_16 ?_
      subst hQ
      exact k_zret hC (by omega) hr ⟨by decide, by decide⟩ (⟨congrArg (fun z => some (vI z)) (show (if isDg x = true then 1 else 0 : Int) = 0 from if_neg (fun q => by have := isDg_1.mp q; omega)), rfl, rfl⟩) dX10_isDigit_17
    · refine k_iconst hC dX10_isDigit_12 ?_
      refine k_goto hC 17 dX10_isDigit_13 rfl ?_
      subst hQ
      exact k_zret hC (by omega) hr ⟨by decide, by decide⟩ (⟨congrArg (fun z => some (vI z)) (show (if isDg x = true then 1 else 0 : Int) = 1 from if_pos (isDg_1.mpr (by omega))), rfl, rfl⟩) dX10_isDigit_17

set_option maxRecDepth 100000 in
set_option maxHeartbeats 4000000 in
theorem c_X10_byteAt (l : Launch) (hls : l.stackTraces = false) (G : kG) (hN : 133 ≤ kN G) (w : Nat → va_E) (fl : va_W) (bt : Nat → Int) (i : Nat) (cn cd ea kd nm sa nx en : Int) (hi : i ≤ 1000) (hb : btOK bt) (h2 : w 2 = byA G bt) (h1 : w 1 = .inr (10, [.ref (kad G 2), vI cn, vI cd, vI ea, vI kd, vI nm, vI sa, vI nx, vI en])) : KM l G yX10_byteAt cX10_byteAt 2 (some (FieldType.int)) 0 0 0 [.ref (kad G 1), vI (i : Int)] w fl (kPure (vI (byV bt i)) w fl) := by
  refine KM_of2 hls (by decide +kernel) rfl (lv0 := [(0, .ref (kad G 1)), (1, vI (i : Int))]) rfl (Nat.le_of_ble_eq_true rfl) (fun p e R s m args below meth c Q hC hr hQ => ?_)
  have hbi := hb i
  refine k_iload_n hC dX10_byteAt_0 rfl 1 rfl ?_
  refine k_if_lt hC 13 dX10_byteAt_1 rfl (by omega) (fun c_1 => absurd c_1 (by omega)) (fun c_1 => ?_)
  refine k_iload_n hC dX10_byteAt_4 rfl 1 rfl ?_
  refine k_aload_n hC dX10_byteAt_5 rfl 0 rfl ?_
  refine k_get hC fd_X10_9 (kl hN (by decide)) h1 rfl dX10_byteAt_6 ?_
  refine k_alen hC (n := 700) (kl hN (by decide)) h2 2 rfl rfl rfl dX10_byteAt_9 ?_
  refine k_icmp_lt hC 17 dX10_byteAt_10 rfl (by omega) (by omega) (fun c_10 => ?_) (fun c_10 => ?_)
  · refine k_aload_n hC dX10_byteAt_17 rfl 0 rfl ?_
    refine k_get hC fd_X10_9 (kl hN (by decide)) h1 rfl dX10_byteAt_18 ?_
    refine k_iload_n hC dX10_byteAt_21 rfl 1 rfl ?_
    refine k_bald hC (kl hN (by decide)) h2 (by omega) (by decide) dX10_byteAt_22 ?_
    refine k_topv (vI (sb8 (bt i))) rfl ?_
    refine k_sipush hC dX10_byteAt_23 (by decide) ?_
    refine k_iand255 hC dX10_byteAt_26 ?_
    refine k_topv (vI (bt i)) (congrArg vI (sb8_m hbi)) ?_
    subst hQ
    exact k_iret hC hr ⟨by decide, by decide⟩ (⟨congrArg (fun z => some (vI z)) (show (byV bt i : Int) = bt i from if_pos (by omega)), rfl, rfl⟩) dX10_byteAt_27
  · refine k_iconst hC dX10_byteAt_13 ?_
    refine k_goto hC 27 dX10_byteAt_14 rfl ?_
    subst hQ
    exact k_iret hC hr ⟨by decide, by decide⟩ (⟨congrArg (fun z => some (vI z)) (show (byV bt i : Int) = -1 from if_neg (by omega)), rfl, rfl⟩) dX10_byteAt_27

set_option maxRecDepth 100000 in
set_option maxHeartbeats 4000000 in
theorem c_X10_advance (l : Launch) (hls : l.stackTraces = false) (G : kG) (hN : 133 ≤ kN G) (w : Nat → va_E) (fl : va_W) (bt : Nat → Int) (n p9 : Nat) (cn cd ea kd nm sa : Int) (hn7 : n ≤ 700) (hp : p9 ≤ n) (hb : btOK bt) (h2 : w 2 = byA G bt) (h1 : w 1 = .inr (10, [.ref (kad G 2), vI cn, vI cd, vI ea, vI kd, vI nm, vI sa, vI (p9 : Int), vI (n : Int)])) : KM l G yX10_advance cX10_advance 2 (none) 1 0 0 [.ref (kad G 1)] w fl (kMuv fl (fun w1 => (∃ nm1 : Int, w1 1 = tkO G cn cd ea (kdM bt n (skM bt n p9)) nm1 (skM bt n p9 : Int) (enM bt n (skM bt n p9) : Int) (n : Int) ∧ (kdM bt n (skM bt n p9) = 2 → nm1 = min 1000000 (numM bt n (skM bt n p9)))) ∧ ∀ j, j ≠ 1 → w1 j = w j)) := by
  refine KM_of2 hls (by decide +kernel) rfl (lv0 := [(0, .ref (kad G 1))]) rfl (Nat.le_of_ble_eq_true rfl) (fun p e R s m args below meth c Q hC hr hQ => ?_)
  refine k_aload_n hC dX10_advance_0 rfl 0 rfl ?_
  refine k_aload_n hC dX10_advance_1 rfl 0 rfl ?_
  refine k_get hC fd_X10_25 (kl hN (by decide)) h1 rfl dX10_advance_2 ?_
  refine k_put hC fd_X10_40 (kl hN (by decide)) h1 [.ref (kad G 2), vI cn, vI cd, vI ea, vI kd, vI nm, vI (p9 : Int), vI (p9 : Int), vI (n : Int)] rfl (Nat.le_of_ble_eq_true rfl) rfl rfl dX10_advance_5 (fun w1 hw1 hf1 => ?_)
  have joinA : ∀ (z : Nat) (wjA : Nat → va_E), (p9 ≤ z ∧ z ≤ n) → (z = skM bt n p9) → (wjA 1 = .inr (10, [.ref (kad G 2), vI cn, vI cd, vI ea, vI kd, vI nm, vI (z : Int), vI (p9 : Int), vI (n : Int)])) → (wjA 2 = bA G 700 (fun j => sb8 (bt j))) → ((∀ j, j ≠ 1 → wjA j = w j)) → KW p l e R s m args below meth c 2 G Q wjA fl 0 0 46 [(0, .ref (kad G 1))] [] := by
    intro z wjA hs hsk h1 h2 hfjA
    have hkc := kd_c bt n z
    refine k_aload_n hC dX10_advance_46 rfl 0 rfl ?_
    refine k_aload_n hC dX10_advance_47 rfl 0 rfl ?_
    refine k_get hC fd_X10_40 (kl hN (by decide)) h1 rfl dX10_advance_48 ?_
    refine k_iconst hC dX10_advance_51 ?_
    refine k_iadd hC dX10_advance_52 ?_
    refine k_put hC fd_X10_25 (kl hN (by decide)) h1 [.ref (kad G 2), vI cn, vI cd, vI ea, vI kd, vI nm, vI (z : Int), vI ((z : Int) + 1), vI (n : Int)] rfl (Nat.le_of_ble_eq_true rfl) rfl rfl dX10_advance_53 (fun w2 hw2 hf2 => ?_)
    refine k_aload_n hC dX10_advance_56 rfl 0 rfl ?_
    refine k_aload_n hC dX10_advance_57 rfl 0 rfl ?_
    refine k_get hC fd_X10_40 (kl hN (by decide)) hw2 rfl dX10_advance_58 ?_
    have h_3 : w2 2 = bA G 700 (fun j => sb8 (bt j)) := (hf2 2 (by decide)).trans h2
    refine k_pureV hC (c_X10_byteAt l hls G hN w2 fl bt z cn cd ea kd nm (z : Int) ((z : Int) + 1) (n : Int) (by omega) hb h_3 hw2) yy_X10_byteAt wm_X10_43 (kl hN (by decide)) hw2 rfl rfl rfl rfl (Nat.le_of_ble_eq_true rfl) (by decide) (by decide) ⟨by decide, by decide⟩ dX10_advance_61 ?_
    have hbv_4 := byV_b hb z
    refine k_istore_n hC [(1, vI (byV bt z)), (0, .ref (kad G 1))] dX10_advance_64 rfl (by decide) rfl ?_
    refine k_aload_n hC dX10_advance_65 rfl 1 rfl ?_
    refine k_get hC fd_X10_40 (kl hN (by decide)) hw2 rfl dX10_advance_66 ?_
    refine k_aload_n hC dX10_advance_69 rfl 1 rfl ?_
    refine k_get hC fd_X10_34 (kl hN (by decide)) hw2 rfl dX10_advance_70 ?_
    refine k_icmp_lt hC 92 dX10_advance_73 rfl (by omega) (by omega) (fun c_73 => ?_) (fun c_73 => ?_)
    · refine k_iload_n hC dX10_advance_92 rfl 0 rfl ?_
      refine k_pureS hC (c_X10_isLetter l hls G hN w2 fl (byV bt z) (by omega)) yy_X10_isLetter wm_X10_54 rfl rfl (Nat.le_of_ble_eq_true rfl) (by decide) (by decide) ⟨by decide, by decide⟩ dX10_advance_93 ?_
      obtain ⟨z_5, ez_5, hz_5⟩ := k_bI (isLt (byV bt z) = true)
      refine k_topv (vI z_5) (by rw [ez_5]) ?_
      refine k_if_eq hC 142 dX10_advance_96 rfl (by omega) (fun c_96 => ?_) (fun c_96 => ?_)
      · have hfn : isLt (bt z) = false := by have := (hz_5.resolve_left (fun q1 => by omega)).2; rw [byV_1 (by omega)] at this; exact Bool.eq_false_iff.mpr this
        refine k_iload_n hC dX10_advance_142 rfl 0 rfl ?_
        refine k_pureS hC (c_X10_isDigit l hls G hN w2 fl (byV bt z) (by omega)) yy_X10_isDigit wm_X10_57 rfl rfl (Nat.le_of_ble_eq_true rfl) (by decide) (by decide) ⟨by decide, by decide⟩ dX10_advance_143 ?_
        obtain ⟨z_6, ez_6, hz_6⟩ := k_bI (isDg (byV bt z) = true)
        refine k_topv (vI z_6) (by rw [ez_6]) ?_
        refine k_if_eq hC 228 dX10_advance_146 rfl (by omega) (fun c_146 => ?_) (fun c_146 => ?_)
        · have hfd : isDg (bt z) = false := by have := (hz_6.resolve_left (fun q1 => by omega)).2; rw [byV_1 (by omega)] at this; exact Bool.eq_false_iff.mpr this
          refine k_aload_n hC dX10_advance_228 rfl 1 rfl ?_
          refine k_iconst hC dX10_advance_229 ?_
          refine k_put hC fd_X10_51 (kl hN (by decide)) hw2 [.ref (kad G 2), vI cn, vI cd, vI ea, vI 3, vI nm, vI (z : Int), vI ((z : Int) + 1), vI (n : Int)] rfl (Nat.le_of_ble_eq_true rfl) rfl rfl dX10_advance_230 (fun w7 hw7 hf7 => ?_)
          subst hQ
          exact k_vret hC hr ⟨by decide, by decide⟩ (⟨rfl, rfl, ⟨nm, (by rw [← hsk]; rcases hkc with ⟨k1, k2, k3⟩ | ⟨k1, k2, k3, k4⟩ | ⟨k1, k2, k3, k4⟩ | ⟨k1, k2, k3, k4, k5⟩; omega; (rw [hfn] at k3; exact absurd k3 (by decide)); (rw [hfd] at k3; exact absurd k3 (by decide)); (rw [k1, k5]; exact hw7)), (fun q => by rw [← hsk] at q; rcases hkc with ⟨k1, k2⟩ | ⟨k1, k2, -⟩ | ⟨k1, k2, k3, -⟩ | ⟨k1, k2, -⟩; omega; omega; (rw [hfd] at k3; exact absurd k3 (by decide)); omega)⟩, fun j hj => (hf7 j (by omega)).trans ((hf2 j (by omega)).trans (hfjA j (by omega)))⟩) dX10_advance_233
        · have hfl : isDg (bt z) = true := by have := (hz_6.resolve_right (fun q1 => by omega)).2; rw [byV_1 (by omega)] at this; exact this
          refine k_aload_n hC dX10_advance_149 rfl 1 rfl ?_
          refine k_iconst hC dX10_advance_150 ?_
          refine k_put hC fd_X10_51 (kl hN (by decide)) hw2 [.ref (kad G 2), vI cn, vI cd, vI ea, vI 2, vI nm, vI (z : Int), vI ((z : Int) + 1), vI (n : Int)] rfl (Nat.le_of_ble_eq_true rfl) rfl rfl dX10_advance_151 (fun w8 hw8 hf8 => ?_)
          refine k_aload_n hC dX10_advance_154 rfl 1 rfl ?_
          refine k_iload_n hC dX10_advance_155 rfl 0 rfl ?_
          refine k_bipush hC dX10_advance_156 (by decide) ?_
          refine k_isub hC dX10_advance_158 ?_
          refine k_put hC fd_X10_60 (kl hN (by decide)) hw8 [.ref (kad G 2), vI cn, vI cd, vI ea, vI 2, vI ((byV bt z) - 48), vI (z : Int), vI ((z : Int) + 1), vI (n : Int)] rfl (Nat.le_of_ble_eq_true rfl) rfl rfl dX10_advance_159 (fun w9 hw9 hf9 => ?_)
          have loopd : ∀ (nd : Nat) (q : Nat) (nu : Int) (wvd : Nat → va_E), (n < nd + q) → (z < q ∧ q ≤ n) → (runM isDg bt n q = runM isDg bt n z) → (nu = min 1000000 (numF bt z (q - z))) → (∀ i, i < q - z → isDg (bt (z + i)) = true) → (wvd 1 = .inr (10, [.ref (kad G 2), vI cn, vI cd, vI ea, vI 2, vI nu, vI (z : Int), vI (q : Int), vI (n : Int)])) → (wvd 2 = bA G 700 (fun j => sb8 (bt j))) → ((∀ j, j ≠ 1 → wvd j = w j)) → KW p l e R s m args below meth c 2 G Q wvd fl 0 0 162 [(1, vI (byV bt z)), (0, .ref (kad G 1))] [] := by
            intro nd
            induction nd with
            | zero =>
              intro q nu wvd hn_d hq hru hnu hdg h1 h2 hfrd
              exact absurd hn_d (by omega)
            | succ nd ihd =>
              intro q nu wvd hn_d hq hru hnu hdg h1 h2 hfrd
              have hnb0 := numF_b (q - z) hdg
              refine k_aload_n hC dX10_advance_162 rfl 1 rfl ?_
              refine k_get hC fd_X10_25 (kl hN (by decide)) h1 rfl dX10_advance_163 ?_
              refine k_aload_n hC dX10_advance_166 rfl 1 rfl ?_
              refine k_get hC fd_X10_34 (kl hN (by decide)) h1 rfl dX10_advance_167 ?_
              refine k_icmp_ge hC 233 dX10_advance_170 rfl (by omega) (by omega) (fun c_170 => ?_) (fun c_170 => ?_)
              · subst hQ
                exact k_vret hC hr ⟨by decide, by decide⟩ (⟨rfl, rfl, ⟨nu, (by rw [← hsk]; rcases hkc with ⟨k1, k2, k3⟩ | ⟨k1, k2, k3, k4⟩ | ⟨k1, k2, k3, k4⟩ | ⟨k1, k2, k3, k4, -⟩; omega; (rw [hfn] at k3; exact absurd k3 (by decide)); (rw [k1, k4, ← hru, runM_e (by first | exact Or.inl (by omega) | exact Or.inr hnb)]; exact h1); (rw [hfl] at k4; exact absurd k4 (by decide))), (fun _ => by rw [← hsk, hnu]; unfold numM; rcases hkc with ⟨k1, k2, k3⟩ | ⟨k1, k2, k3, k4⟩ | ⟨k1, k2, k3, k4⟩ | ⟨k1, k2, k3, k4, -⟩; omega; (rw [hfn] at k3; exact absurd k3 (by decide)); (rw [k4, ← hru, runM_e (by first | exact Or.inl (by omega) | exact Or.inr hnb)]); (rw [hfl] at k4; exact absurd k4 (by decide)))⟩, fun j hj => hfrd j (by omega)⟩) dX10_advance_233
              · refine k_aload_n hC dX10_advance_173 rfl 1 rfl ?_
                refine k_aload_n hC dX10_advance_174 rfl 1 rfl ?_
                refine k_get hC fd_X10_25 (kl hN (by decide)) h1 rfl dX10_advance_175 ?_
                refine k_pureV hC (c_X10_byteAt l hls G hN wvd fl bt q cn cd ea 2 nu (z : Int) (q : Int) (n : Int) (by omega) hb h2 h1) yy_X10_byteAt wm_X10_43 (kl hN (by decide)) h1 rfl rfl rfl rfl (Nat.le_of_ble_eq_true rfl) (by decide) (by decide) ⟨by decide, by decide⟩ dX10_advance_178 ?_
                have hbv_10 := byV_b hb q
                refine k_pureS hC (c_X10_isDigit l hls G hN wvd fl (byV bt q) (by omega)) yy_X10_isDigit wm_X10_57 rfl rfl (Nat.le_of_ble_eq_true rfl) (by decide) (by decide) ⟨by decide, by decide⟩ dX10_advance_181 ?_
                obtain ⟨z_11, ez_11, hz_11⟩ := k_bI (isDg (byV bt q) = true)
                refine k_topv (vI z_11) (by rw [ez_11]) ?_
                refine k_if_eq hC 233 dX10_advance_184 rfl (by omega) (fun c_184 => ?_) (fun c_184 => ?_)
                · have hnb : isDg (bt q) = false := by have := (hz_11.resolve_left (fun q1 => by omega)).2; rw [byV_1 (by omega)] at this; exact Bool.eq_false_iff.mpr this
                  subst hQ
                  exact k_vret hC hr ⟨by decide, by decide⟩ (⟨rfl, rfl, ⟨nu, (by rw [← hsk]; rcases hkc with ⟨k1, k2, k3⟩ | ⟨k1, k2, k3, k4⟩ | ⟨k1, k2, k3, k4⟩ | ⟨k1, k2, k3, k4, -⟩; omega; (rw [hfn] at k3; exact absurd k3 (by decide)); (rw [k1, k4, ← hru, runM_e (by first | exact Or.inl (by omega) | exact Or.inr hnb)]; exact h1); (rw [hfl] at k4; exact absurd k4 (by decide))), (fun _ => by rw [← hsk, hnu]; unfold numM; rcases hkc with ⟨k1, k2, k3⟩ | ⟨k1, k2, k3, k4⟩ | ⟨k1, k2, k3, k4⟩ | ⟨k1, k2, k3, k4, -⟩; omega; (rw [hfn] at k3; exact absurd k3 (by decide)); (rw [k4, ← hru, runM_e (by first | exact Or.inl (by omega) | exact Or.inr hnb)]); (rw [hfl] at k4; exact absurd k4 (by decide)))⟩, fun j hj => hfrd j (by omega)⟩) dX10_advance_233
                · have hbl : isDg (bt q) = true := by have := (hz_11.resolve_right (fun q1 => by omega)).2; rw [byV_1 (by omega)] at this; exact this
                  refine k_aload_n hC dX10_advance_187 rfl 1 rfl ?_
                  refine k_ldc hC (x := 1000000) (v := 1000000) dX10_advance_188 (by decide) wk_X10_63 ?_
                  refine k_bipush hC dX10_advance_190 (by decide) ?_
                  refine k_aload_n hC dX10_advance_192 rfl 1 rfl ?_
                  refine k_get hC fd_X10_60 (kl hN (by decide)) h1 rfl dX10_advance_193 ?_
                  refine k_imul hC dX10_advance_196 ?_
                  refine k_aload_n hC dX10_advance_197 rfl 1 rfl ?_
                  refine k_aload_n hC dX10_advance_198 rfl 1 rfl ?_
                  refine k_get hC fd_X10_25 (kl hN (by decide)) h1 rfl dX10_advance_199 ?_
                  refine k_pureV hC (c_X10_byteAt l hls G hN wvd fl bt q cn cd ea 2 nu (z : Int) (q : Int) (n : Int) (by omega) hb h2 h1) yy_X10_byteAt wm_X10_43 (kl hN (by decide)) h1 rfl rfl rfl rfl (Nat.le_of_ble_eq_true rfl) (by decide) (by decide) ⟨by decide, by decide⟩ dX10_advance_202 ?_
                  have hbv_12 := byV_b hb q
                  refine k_iadd hC dX10_advance_205 ?_
                  refine k_bipush hC dX10_advance_206 (by decide) ?_
                  refine k_isub hC dX10_advance_208 ?_
                  refine k_mmin hC wm_X10_28 wmath_mmin (by omega) (by omega) (by decide) (Nat.le_of_ble_eq_true rfl) ⟨by decide, by decide⟩ dX10_advance_209 ?_
                  refine k_topI (fun v_13 ev_13 => ?_)
                  refine k_put hC fd_X10_60 (kl hN (by decide)) h1 [.ref (kad G 2), vI cn, vI cd, vI ea, vI 2, vI v_13, vI (z : Int), vI (q : Int), vI (n : Int)] rfl (Nat.le_of_ble_eq_true rfl) rfl rfl dX10_advance_212 (fun w14 hw14 hf14 => ?_)
                  refine k_aload_n hC dX10_advance_215 rfl 1 rfl ?_
                  refine k_dup hC dX10_advance_216 rfl ?_
                  refine k_get hC fd_X10_25 (kl hN (by decide)) hw14 rfl dX10_advance_217 ?_
                  refine k_iconst hC dX10_advance_220 ?_
                  refine k_iadd hC dX10_advance_221 ?_
                  refine k_put hC fd_X10_25 (kl hN (by decide)) hw14 [.ref (kad G 2), vI cn, vI cd, vI ea, vI 2, vI v_13, vI (z : Int), vI ((q : Int) + 1), vI (n : Int)] rfl (Nat.le_of_ble_eq_true rfl) rfl rfl dX10_advance_222 (fun w15 hw15 hf15 => ?_)
                  refine k_goto hC 162 dX10_advance_225 rfl ?_
                  have h_16 : w15 2 = bA G 700 (fun j => sb8 (bt j)) := (hf15 2 (by decide)).trans ((hf14 2 (by decide)).trans h2)
                  exact ihd (q + 1) v_13 w15 (by omega) (by omega) ((runM_s (by omega) hbl).trans hru) (by rw [ev_13, hnu, show q + 1 - z = (q - z) + 1 by omega]; show _ = min 1000000 (10 * numF bt z (q - z) + (bt (z + (q - z)) - 48)); rw [byV_1 (by omega), show z + (q - z) = q by omega]; have := isDg_1.mp hbl; omega) (fun i hi => by by_cases e : i = q - z; (rw [e, show z + (q - z) = q by omega]; exact hbl); (exact hdg i (by omega))) hw15 h_16 (fun j hj => (hf15 j (by omega)).trans ((hf14 j (by omega)).trans (hfrd j (by omega))))
          have h_17 : w9 2 = bA G 700 (fun j => sb8 (bt j)) := (hf9 2 (by decide)).trans ((hf8 2 (by decide)).trans h_3)
          exact loopd (n + 1) (z + 1) (byV bt z - 48) w9 (by omega) (by omega) (runM_s (by omega) hfl) (by rw [show z + 1 - z = 1 by omega]; show _ = min 1000000 (10 * (0 : Int) + (bt (z + 0) - 48)); rw [byV_1 (by omega), show z + 0 = z by omega]; have := isDg_1.mp hfl; omega) (fun i hi => by rw [show z + i = z by omega]; exact hfl) hw9 h_17 (fun j hj => (hf9 j (by omega)).trans ((hf8 j (by omega)).trans ((hf2 j (by omega)).trans (hfjA j (by omega)))))
      · have hfl : isLt (bt z) = true := by have := (hz_5.resolve_right (fun q1 => by omega)).2; rw [byV_1 (by omega)] at this; exact this
        refine k_aload_n hC dX10_advance_99 rfl 1 rfl ?_
        refine k_iconst hC dX10_advance_100 ?_
        refine k_put hC fd_X10_51 (kl hN (by decide)) hw2 [.ref (kad G 2), vI cn, vI cd, vI ea, vI 1, vI nm, vI (z : Int), vI ((z : Int) + 1), vI (n : Int)] rfl (Nat.le_of_ble_eq_true rfl) rfl rfl dX10_advance_101 (fun w18 hw18 hf18 => ?_)
        have loopb : ∀ (nb : Nat) (q : Nat) (wvb : Nat → va_E), (n < nb + q) → (z < q ∧ q ≤ n) → (runM isLt bt n q = runM isLt bt n z) → (wvb 1 = .inr (10, [.ref (kad G 2), vI cn, vI cd, vI ea, vI 1, vI nm, vI (z : Int), vI (q : Int), vI (n : Int)])) → (wvb 2 = bA G 700 (fun j => sb8 (bt j))) → ((∀ j, j ≠ 1 → wvb j = w j)) → KW p l e R s m args below meth c 2 G Q wvb fl 0 0 104 [(1, vI (byV bt z)), (0, .ref (kad G 1))] [] := by
          intro nb
          induction nb with
          | zero =>
            intro q wvb hn_b hq hru h1 h2 hfrb
            exact absurd hn_b (by omega)
          | succ nb ihb =>
            intro q wvb hn_b hq hru h1 h2 hfrb
            refine k_aload_n hC dX10_advance_104 rfl 1 rfl ?_
            refine k_get hC fd_X10_25 (kl hN (by decide)) h1 rfl dX10_advance_105 ?_
            refine k_aload_n hC dX10_advance_108 rfl 1 rfl ?_
            refine k_get hC fd_X10_34 (kl hN (by decide)) h1 rfl dX10_advance_109 ?_
            refine k_icmp_ge hC 233 dX10_advance_112 rfl (by omega) (by omega) (fun c_112 => ?_) (fun c_112 => ?_)
            · subst hQ
              exact k_vret hC hr ⟨by decide, by decide⟩ (⟨rfl, rfl, ⟨nm, (by rw [← hsk]; rcases hkc with ⟨k1, k2, k3⟩ | ⟨k1, k2, k3, k4⟩ | ⟨k1, k2, k3, k4⟩ | ⟨k1, k2, k3, -⟩; omega; (rw [k1, k4, ← hru, runM_e (by first | exact Or.inl (by omega) | exact Or.inr hnb)]; exact h1); (have a1 := isLt_1.mp hfl; have a2 := isDg_1.mp k3; omega); (rw [hfl] at k3; exact absurd k3 (by decide))), (fun q => by rw [← hsk] at q; rcases hkc with ⟨k1, k2⟩ | ⟨k1, k2, -⟩ | ⟨k1, k2, k3, -⟩ | ⟨k1, k2, -⟩; omega; omega; (have a1 := isLt_1.mp hfl; have a2 := isDg_1.mp k3; omega); omega)⟩, fun j hj => hfrb j (by omega)⟩) dX10_advance_233
            · refine k_aload_n hC dX10_advance_115 rfl 1 rfl ?_
              refine k_aload_n hC dX10_advance_116 rfl 1 rfl ?_
              refine k_get hC fd_X10_25 (kl hN (by decide)) h1 rfl dX10_advance_117 ?_
              refine k_pureV hC (c_X10_byteAt l hls G hN wvb fl bt q cn cd ea 1 nm (z : Int) (q : Int) (n : Int) (by omega) hb h2 h1) yy_X10_byteAt wm_X10_43 (kl hN (by decide)) h1 rfl rfl rfl rfl (Nat.le_of_ble_eq_true rfl) (by decide) (by decide) ⟨by decide, by decide⟩ dX10_advance_120 ?_
              have hbv_19 := byV_b hb q
              refine k_pureS hC (c_X10_isLetter l hls G hN wvb fl (byV bt q) (by omega)) yy_X10_isLetter wm_X10_54 rfl rfl (Nat.le_of_ble_eq_true rfl) (by decide) (by decide) ⟨by decide, by decide⟩ dX10_advance_123 ?_
              obtain ⟨z_20, ez_20, hz_20⟩ := k_bI (isLt (byV bt q) = true)
              refine k_topv (vI z_20) (by rw [ez_20]) ?_
              refine k_if_eq hC 233 dX10_advance_126 rfl (by omega) (fun c_126 => ?_) (fun c_126 => ?_)
              · have hnb : isLt (bt q) = false := by have := (hz_20.resolve_left (fun q1 => by omega)).2; rw [byV_1 (by omega)] at this; exact Bool.eq_false_iff.mpr this
                subst hQ
                exact k_vret hC hr ⟨by decide, by decide⟩ (⟨rfl, rfl, ⟨nm, (by rw [← hsk]; rcases hkc with ⟨k1, k2, k3⟩ | ⟨k1, k2, k3, k4⟩ | ⟨k1, k2, k3, k4⟩ | ⟨k1, k2, k3, -⟩; omega; (rw [k1, k4, ← hru, runM_e (by first | exact Or.inl (by omega) | exact Or.inr hnb)]; exact h1); (have a1 := isLt_1.mp hfl; have a2 := isDg_1.mp k3; omega); (rw [hfl] at k3; exact absurd k3 (by decide))), (fun q => by rw [← hsk] at q; rcases hkc with ⟨k1, k2⟩ | ⟨k1, k2, -⟩ | ⟨k1, k2, k3, -⟩ | ⟨k1, k2, -⟩; omega; omega; (have a1 := isLt_1.mp hfl; have a2 := isDg_1.mp k3; omega); omega)⟩, fun j hj => hfrb j (by omega)⟩) dX10_advance_233
              · have hbl : isLt (bt q) = true := by have := (hz_20.resolve_right (fun q1 => by omega)).2; rw [byV_1 (by omega)] at this; exact this
                refine k_aload_n hC dX10_advance_129 rfl 1 rfl ?_
                refine k_dup hC dX10_advance_130 rfl ?_
                refine k_get hC fd_X10_25 (kl hN (by decide)) h1 rfl dX10_advance_131 ?_
                refine k_iconst hC dX10_advance_134 ?_
                refine k_iadd hC dX10_advance_135 ?_
                refine k_put hC fd_X10_25 (kl hN (by decide)) h1 [.ref (kad G 2), vI cn, vI cd, vI ea, vI 1, vI nm, vI (z : Int), vI ((q : Int) + 1), vI (n : Int)] rfl (Nat.le_of_ble_eq_true rfl) rfl rfl dX10_advance_136 (fun w21 hw21 hf21 => ?_)
                refine k_goto hC 104 dX10_advance_139 rfl ?_
                have h_22 : w21 2 = bA G 700 (fun j => sb8 (bt j)) := (hf21 2 (by decide)).trans h2
                exact ihb (q + 1) w21 (by omega) (by omega) ((runM_s (by omega) hbl).trans hru) hw21 h_22 (fun j hj => (hf21 j (by omega)).trans (hfrb j (by omega)))
        have h_23 : w18 2 = bA G 700 (fun j => sb8 (bt j)) := (hf18 2 (by decide)).trans h_3
        exact loopb (n + 1) (z + 1) w18 (by omega) (by omega) (runM_s (by omega) hfl) hw18 h_23 (fun j hj => (hf18 j (by omega)).trans ((hf2 j (by omega)).trans (hfjA j (by omega))))
    · refine k_aload_n hC dX10_advance_76 rfl 1 rfl ?_
      refine k_iconst hC dX10_advance_77 ?_
      refine k_put hC fd_X10_51 (kl hN (by decide)) hw2 [.ref (kad G 2), vI cn, vI cd, vI ea, vI 0, vI nm, vI (z : Int), vI ((z : Int) + 1), vI (n : Int)] rfl (Nat.le_of_ble_eq_true rfl) rfl rfl dX10_advance_78 (fun w24 hw24 hf24 => ?_)
      refine k_aload_n hC dX10_advance_81 rfl 1 rfl ?_
      refine k_aload_n hC dX10_advance_82 rfl 1 rfl ?_
      refine k_get hC fd_X10_34 (kl hN (by decide)) hw24 rfl dX10_advance_83 ?_
      refine k_put hC fd_X10_25 (kl hN (by decide)) hw24 [.ref (kad G 2), vI cn, vI cd, vI ea, vI 0, vI nm, vI (z : Int), vI (n : Int), vI (n : Int)] rfl (Nat.le_of_ble_eq_true rfl) rfl rfl dX10_advance_86 (fun w25 hw25 hf25 => ?_)
      refine k_goto hC 233 dX10_advance_89 rfl ?_
      subst hQ
      exact k_vret hC hr ⟨by decide, by decide⟩ (⟨rfl, rfl, ⟨nm, (by rw [← hsk]; rcases hkc with ⟨k1, k2, k3⟩ | ⟨k1, k2, -⟩ | ⟨k1, k2, -⟩ | ⟨k1, k2, -⟩; (rw [k1, k3]; exact hw25); omega; omega; omega), (fun q => by rw [← hsk] at q; rcases hkc with ⟨k1, k2⟩ | ⟨k1, k2, -⟩ | ⟨k1, k2, -⟩ | ⟨k1, k2, -⟩ <;> omega)⟩, fun j hj => (hf25 j (by omega)).trans ((hf24 j (by omega)).trans ((hf2 j (by omega)).trans (hfjA j (by omega))))⟩) dX10_advance_233
  have loopa : ∀ (na : Nat) (q : Nat) (wva : Nat → va_E), (n < na + q) → (p9 ≤ q ∧ q ≤ n) → (runM isBl bt n q = runM isBl bt n p9) → (wva 1 = .inr (10, [.ref (kad G 2), vI cn, vI cd, vI ea, vI kd, vI nm, vI (q : Int), vI (p9 : Int), vI (n : Int)])) → (wva 2 = bA G 700 (fun j => sb8 (bt j))) → ((∀ j, j ≠ 1 → wva j = w j)) → KW p l e R s m args below meth c 2 G Q wva fl 0 0 8 [(0, .ref (kad G 1))] [] := by
    intro na
    induction na with
    | zero =>
      intro q wva hn_a hq hru h1 h2 hfra
      exact absurd hn_a (by omega)
    | succ na iha =>
      intro q wva hn_a hq hru h1 h2 hfra
      refine k_aload_n hC dX10_advance_8 rfl 0 rfl ?_
      refine k_get hC fd_X10_40 (kl hN (by decide)) h1 rfl dX10_advance_9 ?_
      refine k_aload_n hC dX10_advance_12 rfl 0 rfl ?_
      refine k_get hC fd_X10_34 (kl hN (by decide)) h1 rfl dX10_advance_13 ?_
      refine k_icmp_ge hC 46 dX10_advance_16 rfl (by omega) (by omega) (fun c_16 => ?_) (fun c_16 => ?_)
      · exact joinA q wva (by omega) (by show q = runM isBl bt n p9; rw [← hru]; exact (runM_e (by first | exact Or.inl (by omega) | exact Or.inr hnb)).symm) h1 h2 (fun j hj => hfra j (by omega))
      · refine k_aload_n hC dX10_advance_19 rfl 0 rfl ?_
        refine k_aload_n hC dX10_advance_20 rfl 0 rfl ?_
        refine k_get hC fd_X10_40 (kl hN (by decide)) h1 rfl dX10_advance_21 ?_
        refine k_pureV hC (c_X10_byteAt l hls G hN wva fl bt q cn cd ea kd nm (q : Int) (p9 : Int) (n : Int) (by omega) hb h2 h1) yy_X10_byteAt wm_X10_43 (kl hN (by decide)) h1 rfl rfl rfl rfl (Nat.le_of_ble_eq_true rfl) (by decide) (by decide) ⟨by decide, by decide⟩ dX10_advance_24 ?_
        have hbv_26 := byV_b hb q
        refine k_pureS hC (c_X10_isBlank l hls G hN wva fl (byV bt q) (by omega)) yy_X10_isBlank wm_X10_47 rfl rfl (Nat.le_of_ble_eq_true rfl) (by decide) (by decide) ⟨by decide, by decide⟩ dX10_advance_27 ?_
        obtain ⟨z_27, ez_27, hz_27⟩ := k_bI (isBl (byV bt q) = true)
        refine k_topv (vI z_27) (by rw [ez_27]) ?_
        refine k_if_eq hC 46 dX10_advance_30 rfl (by omega) (fun c_30 => ?_) (fun c_30 => ?_)
        · have hnb : isBl (bt q) = false := by have := (hz_27.resolve_left (fun q1 => by omega)).2; rw [byV_1 (by omega)] at this; exact Bool.eq_false_iff.mpr this
          exact joinA q wva (by omega) (by show q = runM isBl bt n p9; rw [← hru]; exact (runM_e (by first | exact Or.inl (by omega) | exact Or.inr hnb)).symm) h1 h2 (fun j hj => hfra j (by omega))
        · have hbl : isBl (bt q) = true := by have := (hz_27.resolve_right (fun q1 => by omega)).2; rw [byV_1 (by omega)] at this; exact this
          refine k_aload_n hC dX10_advance_33 rfl 0 rfl ?_
          refine k_dup hC dX10_advance_34 rfl ?_
          refine k_get hC fd_X10_40 (kl hN (by decide)) h1 rfl dX10_advance_35 ?_
          refine k_iconst hC dX10_advance_38 ?_
          refine k_iadd hC dX10_advance_39 ?_
          refine k_put hC fd_X10_40 (kl hN (by decide)) h1 [.ref (kad G 2), vI cn, vI cd, vI ea, vI kd, vI nm, vI ((q : Int) + 1), vI (p9 : Int), vI (n : Int)] rfl (Nat.le_of_ble_eq_true rfl) rfl rfl dX10_advance_40 (fun w28 hw28 hf28 => ?_)
          refine k_goto hC 8 dX10_advance_43 rfl ?_
          have h_29 : w28 2 = bA G 700 (fun j => sb8 (bt j)) := (hf28 2 (by decide)).trans h2
          exact iha (q + 1) w28 (by omega) (by omega) ((runM_s (by omega) hbl).trans hru) hw28 h_29 (fun j hj => (hf28 j (by omega)).trans (hfra j (by omega)))
  have h_30 : w1 2 = bA G 700 (fun j => sb8 (bt j)) := (hf1 2 (by decide)).trans h2
  exact loopa (n + 1) p9 w1 (by omega) (by omega) rfl hw1 h_30 (fun j hj => hf1 j (by omega))

