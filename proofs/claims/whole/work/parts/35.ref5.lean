def byL (bt : Nat → Int) (n i : Nat) : Int := if i < n then bt i else -1
theorem byL_b {bt : Nat → Int} (hb : btOK bt) (n i : Nat) : -1 ≤ byL bt n i ∧ byL bt n i ≤ 255 := by
  have := hb i
  unfold byL; split <;> omega
def mkR (u bt : Nat → Int) (n : Nat) (st : PS) : Prop := u 18 = (n : Int) ∧ u 22 = st.1 ∧ ((0 ≤ u 20 ∧ u 20 ≤ u 19 ∧ u 19 ≤ (n : Int)) ∧ (0 ≤ u 21 ∧ u 21 ≤ 3)) ∧ (st.1 = 0 → u 20 = (st.2.2 : Int) ∧ u 21 = kdM bt n st.2.2 ∧ u 19 = (enM bt n st.2.2 : Int) ∧ st.2.2 ≤ n) ∧ (st.1 ≠ 0 → (1 ≤ st.1 ∧ st.1 ≤ 5) ∧ u 23 = st.2.1) ∧ (u 21 = 2 → ∀ i : Nat, u 20 ≤ (i : Int) → (i : Int) < u 19 → isDg (bt i) = true)
theorem mk_scan {u bt : Nat → Int} {n p9 : Nat} {st : PS} (h18 : u 18 = (n : Int)) (hp : p9 ≤ n) (h22 : u 22 = 0) (hst : st = (0, 0, skM bt n p9)) : mkR (kup (kup (kup u 19 (enM bt n (skM bt n p9) : Int)) 20 (skM bt n p9 : Int)) 21 (kdM bt n (skM bt n p9))) bt n st := by
  have h1 := skM_b (bt := bt) hp
  have h2 := enM_b (bt := bt) h1.2
  have h3 := kd_c bt n (skM bt n p9)
  subst hst
  refine ⟨h18, h22, ⟨⟨by show (0 : Int) ≤ (skM bt n p9 : Int); omega, by show (skM bt n p9 : Int) ≤ (enM bt n (skM bt n p9) : Int); omega, by show (enM bt n (skM bt n p9) : Int) ≤ (n : Int); omega⟩, by show 0 ≤ kdM bt n (skM bt n p9); omega, by show kdM bt n (skM bt n p9) ≤ 3; omega⟩, fun _ => ⟨rfl, rfl, rfl, h1.2⟩, fun q => absurd rfl q, fun q i hi1 hi2 => ?_⟩
  have q2 : kdM bt n (skM bt n p9) = 2 := q
  have a1 : (skM bt n p9 : Int) ≤ (i : Int) := hi1
  have a2 : (i : Int) < (enM bt n (skM bt n p9) : Int) := hi2
  have h4 := num_in q2 (i - skM bt n p9) (by omega)
  rw [show skM bt n p9 + (i - skM bt n p9) = i by omega] at h4
  exact h4
set_option maxRecDepth 100000 in
set_option maxHeartbeats 4000000 in
theorem c_X12_byteAt (l : Launch) (hls : l.stackTraces = false) (G : kG) (hN : kN G = 150) (w : Nat → va_E) (fl : va_W) (u bt : Nat → Int) (n : Nat) (i : Nat) (hi : i ≤ 1000) (hn7 : n ≤ 700) (hb : btOK bt) (hm : w 133 = mdO G u) (h18 : u 18 = (n : Int)) (h144 : w 144 = iA G 700 bt) : KM l G yX12_byteAt cX12_byteAt 2 (some (FieldType.int)) 0 0 0 [.ref (kad G 133), vI (i : Int)] w fl (kPure (vI (byL bt n i)) w fl) := by
  refine KM_of2 hls (by decide +kernel) rfl (lv0 := [(0, .ref (kad G 133)), (1, vI (i : Int))]) rfl (Nat.le_of_ble_eq_true rfl) (fun p e R s m args below meth c Q hC hr hQ => ?_)
  refine k_iload_n hC dX12_byteAt_0 rfl 1 rfl ?_
  refine k_aload_n hC dX12_byteAt_1 rfl 0 rfl ?_
  refine k_get hC fd_X12_365 (kl hN (by decide)) hm rfl dX12_byteAt_2 ?_
  refine k_icmp_ge hC 17 dX12_byteAt_5 rfl (by omega) (by omega) (fun c_5 => ?_) (fun c_5 => ?_)
  · refine k_iconst hC dX12_byteAt_17 ?_
    subst hQ
    exact k_iret hC hr ⟨by decide, by decide⟩ (⟨congrArg (fun z => some (vI z)) (show (byL bt n i : Int) = -1 from if_neg (by omega)), rfl, rfl⟩) dX12_byteAt_18
  · refine k_aload_n hC dX12_byteAt_8 rfl 0 rfl ?_
    refine k_get hC fd_X12_41 (kl hN (by decide)) hm rfl dX12_byteAt_9 ?_
    refine k_iload_n hC dX12_byteAt_12 rfl 1 rfl ?_
    refine k_iald hC (kl hN (by decide)) h144 (by omega) (by decide) dX12_byteAt_13 ?_
    refine k_topv (vI (bt i)) rfl ?_
    refine k_goto hC 18 dX12_byteAt_14 rfl ?_
    subst hQ
    exact k_iret hC hr ⟨by decide, by decide⟩ (⟨congrArg (fun z => some (vI z)) (show (byL bt n i : Int) = bt i from if_pos (by omega)), rfl, rfl⟩) dX12_byteAt_18

set_option maxRecDepth 100000 in
set_option maxHeartbeats 4000000 in
theorem c_X12_isLetter (l : Launch) (hls : l.stackTraces = false) (G : kG) (hN : kN G = 150) (w : Nat → va_E) (fl : va_W) (u bt : Nat → Int) (n : Nat) (i : Nat) (hi : i ≤ 1000) (hn7 : n ≤ 700) (hb : btOK bt) (hm : w 133 = mdO G u) (h18 : u 18 = (n : Int)) (h144 : w 144 = iA G 700 bt) : KM l G yX12_isLetter cX12_isLetter 2 (some (FieldType.boolean)) 1 0 0 [.ref (kad G 133), vI (i : Int)] w fl (kPure (vI (if i < n ∧ isLt (bt i) = true then 1 else 0)) w fl) := by
  refine KM_of2 hls (by decide +kernel) rfl (lv0 := [(0, .ref (kad G 133)), (1, vI (i : Int))]) rfl (Nat.le_of_ble_eq_true rfl) (fun p e R s m args below meth c Q hC hr hQ => ?_)
  have hby : byL bt n i = if i < n then bt i else -1 := rfl
  have hin : i < n → byL bt n i = bt i := fun q => if_pos q
  have hout : ¬ i < n → byL bt n i = -1 := fun q => if_neg q
  refine k_aload_n hC dX12_isLetter_0 rfl 0 rfl ?_
  refine k_iload_n hC dX12_isLetter_1 rfl 1 rfl ?_
  refine k_pureV hC (c_X12_byteAt l hls G hN w fl u bt n i (by omega) hn7 hb hm h18 h144) yy_X12_byteAt wm_X12_368 (kl hN (by decide)) hm rfl rfl rfl rfl (Nat.le_of_ble_eq_true rfl) (by decide) (by decide) ⟨by decide, by decide⟩ dX12_isLetter_2 ?_
  have hbv_1 := byL_b hb n i
  refine k_bipush hC dX12_isLetter_5 (by decide) ?_
  refine k_icmp_lt hC 24 dX12_isLetter_7 rfl (by omega) (by omega) (fun c_7 => ?_) (fun c_7 => ?_)
  · refine k_iconst hC dX12_isLetter_24 ?_
    subst hQ
    exact k_zret hC (by omega) hr ⟨by decide, by decide⟩ (⟨congrArg (fun z => some (vI z)) (show (if i < n ∧ isLt (bt i) = true then 1 else 0 : Int) = 0 from if_neg (fun q => by have := isLt_1.mp q.2; omega)), rfl, rfl⟩) dX12_isLetter_25
  · refine k_aload_n hC dX12_isLetter_10 rfl 0 rfl ?_
    refine k_iload_n hC dX12_isLetter_11 rfl 1 rfl ?_
    refine k_pureV hC (c_X12_byteAt l hls G hN w fl u bt n i (by omega) hn7 hb hm h18 h144) yy_X12_byteAt wm_X12_368 (kl hN (by decide)) hm rfl rfl rfl rfl (Nat.le_of_ble_eq_true rfl) (by decide) (by decide) ⟨by decide, by decide⟩ dX12_isLetter_12 ?_
    have hbv_2 := byL_b hb n i
    refine k_bipush hC dX12_isLetter_15 (by decide) ?_
    refine k_icmp_gt hC 24 dX12_isLetter_17 rfl (by omega) (by omega) (fun c_17 => ?_) (fun c_17 => ?_)
    · refine k_iconst hC dX12_isLetter_24 ?_
      subst hQ
      exact k_zret hC (by omega) hr ⟨by decide, by decide⟩ (⟨congrArg (fun z => some (vI z)) (show (if i < n ∧ isLt (bt i) = true then 1 else 0 : Int) = 0 from if_neg (fun q => by have := isLt_1.mp q.2; omega)), rfl, rfl⟩) dX12_isLetter_25
    · refine k_iconst hC dX12_isLetter_20 ?_
      refine k_goto hC 25 dX12_isLetter_21 rfl ?_
      subst hQ
      exact k_zret hC (by omega) hr ⟨by decide, by decide⟩ (⟨congrArg (fun z => some (vI z)) (show (if i < n ∧ isLt (bt i) = true then 1 else 0 : Int) = 1 from if_pos ⟨by omega, isLt_1.mpr (by omega)⟩), rfl, rfl⟩) dX12_isLetter_25

set_option maxRecDepth 100000 in
set_option maxHeartbeats 4000000 in
theorem c_X12_isDigit (l : Launch) (hls : l.stackTraces = false) (G : kG) (hN : kN G = 150) (w : Nat → va_E) (fl : va_W) (u bt : Nat → Int) (n : Nat) (i : Nat) (hi : i ≤ 1000) (hn7 : n ≤ 700) (hb : btOK bt) (hm : w 133 = mdO G u) (h18 : u 18 = (n : Int)) (h144 : w 144 = iA G 700 bt) : KM l G yX12_isDigit cX12_isDigit 2 (some (FieldType.boolean)) 1 0 0 [.ref (kad G 133), vI (i : Int)] w fl (kPure (vI (if i < n ∧ isDg (bt i) = true then 1 else 0)) w fl) := by
  refine KM_of2 hls (by decide +kernel) rfl (lv0 := [(0, .ref (kad G 133)), (1, vI (i : Int))]) rfl (Nat.le_of_ble_eq_true rfl) (fun p e R s m args below meth c Q hC hr hQ => ?_)
  have hby : byL bt n i = if i < n then bt i else -1 := rfl
  have hin : i < n → byL bt n i = bt i := fun q => if_pos q
  have hout : ¬ i < n → byL bt n i = -1 := fun q => if_neg q
  refine k_aload_n hC dX12_isDigit_0 rfl 0 rfl ?_
  refine k_iload_n hC dX12_isDigit_1 rfl 1 rfl ?_
  refine k_pureV hC (c_X12_byteAt l hls G hN w fl u bt n i (by omega) hn7 hb hm h18 h144) yy_X12_byteAt wm_X12_368 (kl hN (by decide)) hm rfl rfl rfl rfl (Nat.le_of_ble_eq_true rfl) (by decide) (by decide) ⟨by decide, by decide⟩ dX12_isDigit_2 ?_
  have hbv_1 := byL_b hb n i
  refine k_bipush hC dX12_isDigit_5 (by decide) ?_
  refine k_icmp_lt hC 24 dX12_isDigit_7 rfl (by omega) (by omega) (fun c_7 => ?_) (fun c_7 => ?_)
  · refine k_iconst hC dX12_isDigit_24 ?_
    subst hQ
    exact k_zret hC (by omega) hr ⟨by decide, by decide⟩ (⟨congrArg (fun z => some (vI z)) (show (if i < n ∧ isDg (bt i) = true then 1 else 0 : Int) = 0 from if_neg (fun q => by have := isDg_1.mp q.2; omega)), rfl, rfl⟩) dX12_isDigit_25
  · refine k_aload_n hC dX12_isDigit_10 rfl 0 rfl ?_
    refine k_iload_n hC dX12_isDigit_11 rfl 1 rfl ?_
    refine k_pureV hC (c_X12_byteAt l hls G hN w fl u bt n i (by omega) hn7 hb hm h18 h144) yy_X12_byteAt wm_X12_368 (kl hN (by decide)) hm rfl rfl rfl rfl (Nat.le_of_ble_eq_true rfl) (by decide) (by decide) ⟨by decide, by decide⟩ dX12_isDigit_12 ?_
    have hbv_2 := byL_b hb n i
    refine k_bipush hC dX12_isDigit_15 (by decide) ?_
    refine k_icmp_gt hC 24 dX12_isDigit_17 rfl (by omega) (by omega) (fun c_17 => ?_) (fun c_17 => ?_)
    · refine k_iconst hC dX12_isDigit_24 ?_
      subst hQ
      exact k_zret hC (by omega) hr ⟨by decide, by decide⟩ (⟨congrArg (fun z => some (vI z)) (show (if i < n ∧ isDg (bt i) = true then 1 else 0 : Int) = 0 from if_neg (fun q => by have := isDg_1.mp q.2; omega)), rfl, rfl⟩) dX12_isDigit_25
    · refine k_iconst hC dX12_isDigit_20 ?_
      refine k_goto hC 25 dX12_isDigit_21 rfl ?_
      subst hQ
      exact k_zret hC (by omega) hr ⟨by decide, by decide⟩ (⟨congrArg (fun z => some (vI z)) (show (if i < n ∧ isDg (bt i) = true then 1 else 0 : Int) = 1 from if_pos ⟨by omega, isDg_1.mpr (by omega)⟩), rfl, rfl⟩) dX12_isDigit_25

set_option maxRecDepth 100000 in
set_option maxHeartbeats 4000000 in
theorem c_X12_scan (l : Launch) (hls : l.stackTraces = false) (G : kG) (hN : kN G = 150) (w : Nat → va_E) (fl : va_W) (u bt : Nat → Int) (n : Nat) (p9 : Nat) (hp : p9 ≤ n) (h19 : u 19 = (p9 : Int)) (hn7 : n ≤ 700) (hb : btOK bt) (hm : w 133 = mdO G u) (h18 : u 18 = (n : Int)) (h144 : w 144 = iA G 700 bt) : KM l G yX12_scan cX12_scan 1 (none) 2 0 0 [.ref (kad G 133)] w fl (kMuv fl (fun w1 => w1 133 = mdO G (kup (kup (kup u 19 (enM bt n (skM bt n p9) : Int)) 20 (skM bt n p9 : Int)) 21 (kdM bt n (skM bt n p9))) ∧ ∀ j, j ≠ 133 → w1 j = w j)) := by
  refine KM_of2 hls (by decide +kernel) rfl (lv0 := [(0, .ref (kad G 133))]) rfl (Nat.le_of_ble_eq_true rfl) (fun p e R s m args below meth c Q hC hr hQ => ?_)
  have hm2 : w 133 = mdO G (kup u 19 (p9 : Int)) := by rw [← h19]; exact hm
  have joinA : ∀ (z : Nat) (wjA : Nat → va_E), (p9 ≤ z ∧ z ≤ n) → (z = skM bt n p9) → (wjA 133 = .inr (12, [.ref (kad G 134), .ref (kad G 135), .ref (kad G 136), .ref (kad G 137), vI (u 4), vI (u 5), vI (u 6), .ref (kad G 138), .ref (kad G 139), .ref (kad G 140), .ref (kad G 141), .ref (kad G 142), vL (u 12), vL (u 13), .ref (kad G 143), vI (u 15), .ref (kad G 144), vI (u 17), vI (u 18), vI (z : Int), vI (u 20), vI (u 21), vI (u 22), vI (u 23), vI (u 24), vI (u 25), .ref (kad G 145), .ref (kad G 146), .ref (kad G 147), vI (u 29)])) → (wjA 144 = iA G 700 bt) → ((∀ j, j ≠ 133 → wjA j = w j)) → KW p l e R s m args below meth c 1 G Q wjA fl 0 0 39 [(0, .ref (kad G 133))] [] := by
    intro z wjA hs hsk hmz h144 hfjA
    have hkc := kd_c bt n z
    refine k_aload_n hC dX12_scan_39 rfl 0 rfl ?_
    refine k_aload_n hC dX12_scan_40 rfl 0 rfl ?_
    refine k_get hC fd_X12_371 (kl hN (by decide)) hmz rfl dX12_scan_41 ?_
    refine k_topv (vI (z : Int)) rfl ?_
    refine k_put hC fd_X12_374 (kl hN (by decide)) hmz [.ref (kad G 134), .ref (kad G 135), .ref (kad G 136), .ref (kad G 137), vI (u 4), vI (u 5), vI (u 6), .ref (kad G 138), .ref (kad G 139), .ref (kad G 140), .ref (kad G 141), .ref (kad G 142), vL (u 12), vL (u 13), .ref (kad G 143), vI (u 15), .ref (kad G 144), vI (u 17), vI (u 18), vI (z : Int), vI (z : Int), vI (u 21), vI (u 22), vI (u 23), vI (u 24), vI (u 25), .ref (kad G 145), .ref (kad G 146), .ref (kad G 147), vI (u 29)] rfl (Nat.le_of_ble_eq_true rfl) rfl rfl dX12_scan_44 (fun w1 hw1 hf1 => ?_)
    refine k_aload_n hC dX12_scan_47 rfl 0 rfl ?_
    refine k_get hC fd_X12_371 (kl hN (by decide)) hw1 rfl dX12_scan_48 ?_
    refine k_topv (vI (z : Int)) rfl ?_
    refine k_aload_n hC dX12_scan_51 rfl 0 rfl ?_
    refine k_get hC fd_X12_365 (kl hN (by decide)) hw1 rfl dX12_scan_52 ?_
    refine k_topv (vI (u 18)) rfl ?_
    refine k_icmp_lt hC 66 dX12_scan_55 rfl (by omega) (by omega) (fun c_55 => ?_) (fun c_55 => ?_)
    · refine k_aload_n hC dX12_scan_66 rfl 0 rfl ?_
      refine k_aload_n hC dX12_scan_67 rfl 0 rfl ?_
      refine k_get hC fd_X12_371 (kl hN (by decide)) hw1 rfl dX12_scan_68 ?_
      refine k_topv (vI (z : Int)) rfl ?_
      have h_2 : w1 144 = iA G 700 bt := (hf1 144 (by decide)).trans h144
      refine k_pureV hC (c_X12_isLetter l hls G hN w1 fl (kup (kup u 19 (z : Int)) 20 (z : Int)) bt n z (by omega) hn7 hb hw1 h18 h_2) yy_X12_isLetter wm_X12_380 (kl hN (by decide)) hw1 rfl rfl rfl rfl (Nat.le_of_ble_eq_true rfl) (by decide) (by decide) ⟨by decide, by decide⟩ dX12_scan_71 ?_
      obtain ⟨z_3, ez_3, hz_3⟩ := k_bI (z < n ∧ isLt (bt z) = true)
      refine k_topv (vI z_3) (by rw [ez_3]) ?_
      refine k_if_eq hC 109 dX12_scan_74 rfl (by omega) (fun c_74 => ?_) (fun c_74 => ?_)
      · refine k_aload_n hC dX12_scan_109 rfl 0 rfl ?_
        refine k_aload_n hC dX12_scan_110 rfl 0 rfl ?_
        refine k_get hC fd_X12_371 (kl hN (by decide)) hw1 rfl dX12_scan_111 ?_
        refine k_topv (vI (z : Int)) rfl ?_
        refine k_pureV hC (c_X12_isDigit l hls G hN w1 fl (kup (kup u 19 (z : Int)) 20 (z : Int)) bt n z (by omega) hn7 hb hw1 h18 h_2) yy_X12_isDigit wm_X12_383 (kl hN (by decide)) hw1 rfl rfl rfl rfl (Nat.le_of_ble_eq_true rfl) (by decide) (by decide) ⟨by decide, by decide⟩ dX12_scan_114 ?_
        obtain ⟨z_4, ez_4, hz_4⟩ := k_bI (z < n ∧ isDg (bt z) = true)
        refine k_topv (vI z_4) (by rw [ez_4]) ?_
        refine k_if_eq hC 152 dX12_scan_117 rfl (by omega) (fun c_117 => ?_) (fun c_117 => ?_)
        · refine k_aload_n hC dX12_scan_152 rfl 0 rfl ?_
          refine k_dup hC dX12_scan_153 rfl ?_
          refine k_get hC fd_X12_371 (kl hN (by decide)) hw1 rfl dX12_scan_154 ?_
          refine k_topv (vI (z : Int)) rfl ?_
          refine k_iconst hC dX12_scan_157 ?_
          refine k_iadd hC dX12_scan_158 ?_
          refine k_put hC fd_X12_371 (kl hN (by decide)) hw1 [.ref (kad G 134), .ref (kad G 135), .ref (kad G 136), .ref (kad G 137), vI (u 4), vI (u 5), vI (u 6), .ref (kad G 138), .ref (kad G 139), .ref (kad G 140), .ref (kad G 141), .ref (kad G 142), vL (u 12), vL (u 13), .ref (kad G 143), vI (u 15), .ref (kad G 144), vI (u 17), vI (u 18), vI ((z : Int) + 1), vI (z : Int), vI (u 21), vI (u 22), vI (u 23), vI (u 24), vI (u 25), .ref (kad G 145), .ref (kad G 146), .ref (kad G 147), vI (u 29)] rfl (Nat.le_of_ble_eq_true rfl) rfl rfl dX12_scan_159 (fun w5 hw5 hf5 => ?_)
          refine k_aload_n hC dX12_scan_162 rfl 0 rfl ?_
          refine k_iconst hC dX12_scan_163 ?_
          refine k_put hC fd_X12_377 (kl hN (by decide)) hw5 [.ref (kad G 134), .ref (kad G 135), .ref (kad G 136), .ref (kad G 137), vI (u 4), vI (u 5), vI (u 6), .ref (kad G 138), .ref (kad G 139), .ref (kad G 140), .ref (kad G 141), .ref (kad G 142), vL (u 12), vL (u 13), .ref (kad G 143), vI (u 15), .ref (kad G 144), vI (u 17), vI (u 18), vI ((z : Int) + 1), vI (z : Int), vI 3, vI (u 22), vI (u 23), vI (u 24), vI (u 25), .ref (kad G 145), .ref (kad G 146), .ref (kad G 147), vI (u 29)] rfl (Nat.le_of_ble_eq_true rfl) rfl rfl dX12_scan_164 (fun w6 hw6 hf6 => ?_)
          subst hQ
          exact k_vret hC hr ⟨by decide, by decide⟩ (⟨rfl, rfl, (by rw [← hsk]; have hfn := (hz_3.resolve_left (fun q1 => by omega)).2; have hfd := (hz_4.resolve_left (fun q1 => by omega)).2; rcases hkc with ⟨k1, k2, k3⟩ | ⟨k1, k2, k3, k4⟩ | ⟨k1, k2, k3, k4⟩ | ⟨k1, k2, k3, k4, k5⟩; omega; exact absurd ⟨k2, k3⟩ hfn; exact absurd ⟨k2, k3⟩ hfd; (rw [k1, k5]; exact hw6)), fun j hj => (hf6 j (by omega)).trans ((hf5 j (by omega)).trans ((hf1 j (by omega)).trans (hfjA j (by omega))))⟩) dX12_scan_167
        · have loopd : ∀ (nd : Nat) (q : Nat) (wvd : Nat → va_E), (n < nd + q) → (z ≤ q ∧ q ≤ n) → (runM isDg bt n q = runM isDg bt n z) → (wvd 133 = .inr (12, [.ref (kad G 134), .ref (kad G 135), .ref (kad G 136), .ref (kad G 137), vI (u 4), vI (u 5), vI (u 6), .ref (kad G 138), .ref (kad G 139), .ref (kad G 140), .ref (kad G 141), .ref (kad G 142), vL (u 12), vL (u 13), .ref (kad G 143), vI (u 15), .ref (kad G 144), vI (u 17), vI (u 18), vI (q : Int), vI (z : Int), vI (u 21), vI (u 22), vI (u 23), vI (u 24), vI (u 25), .ref (kad G 145), .ref (kad G 146), .ref (kad G 147), vI (u 29)])) → (wvd 144 = iA G 700 bt) → ((∀ j, j ≠ 133 → wvd j = w j)) → KW p l e R s m args below meth c 1 G Q wvd fl 0 0 120 [(0, .ref (kad G 133))] [] := by
            intro nd
            induction nd with
            | zero =>
              intro q wvd hn_d hq hru hmq h144 hfrd
              exact absurd hn_d (by omega)
            | succ nd ihd =>
              intro q wvd hn_d hq hru hmq h144 hfrd
              refine k_aload_n hC dX12_scan_120 rfl 0 rfl ?_
              refine k_aload_n hC dX12_scan_121 rfl 0 rfl ?_
              refine k_get hC fd_X12_371 (kl hN (by decide)) hmq rfl dX12_scan_122 ?_
              refine k_topv (vI (q : Int)) rfl ?_
              refine k_pureV hC (c_X12_isDigit l hls G hN wvd fl (kup (kup u 19 (q : Int)) 20 (z : Int)) bt n q (by omega) hn7 hb hmq h18 h144) yy_X12_isDigit wm_X12_383 (kl hN (by decide)) hmq rfl rfl rfl rfl (Nat.le_of_ble_eq_true rfl) (by decide) (by decide) ⟨by decide, by decide⟩ dX12_scan_125 ?_
              obtain ⟨z_7, ez_7, hz_7⟩ := k_bI (q < n ∧ isDg (bt q) = true)
              refine k_topv (vI z_7) (by rw [ez_7]) ?_
              refine k_if_eq hC 144 dX12_scan_128 rfl (by omega) (fun c_128 => ?_) (fun c_128 => ?_)
              · refine k_aload_n hC dX12_scan_144 rfl 0 rfl ?_
                refine k_iconst hC dX12_scan_145 ?_
                refine k_put hC fd_X12_377 (kl hN (by decide)) hmq [.ref (kad G 134), .ref (kad G 135), .ref (kad G 136), .ref (kad G 137), vI (u 4), vI (u 5), vI (u 6), .ref (kad G 138), .ref (kad G 139), .ref (kad G 140), .ref (kad G 141), .ref (kad G 142), vL (u 12), vL (u 13), .ref (kad G 143), vI (u 15), .ref (kad G 144), vI (u 17), vI (u 18), vI (q : Int), vI (z : Int), vI 2, vI (u 22), vI (u 23), vI (u 24), vI (u 25), .ref (kad G 145), .ref (kad G 146), .ref (kad G 147), vI (u 29)] rfl (Nat.le_of_ble_eq_true rfl) rfl rfl dX12_scan_146 (fun w8 hw8 hf8 => ?_)
                refine k_goto hC 167 dX12_scan_149 rfl ?_
                subst hQ
                exact k_vret hC hr ⟨by decide, by decide⟩ (⟨rfl, rfl, (by rw [← hsk]; have hfn := (hz_3.resolve_left (fun q1 => by omega)).2; have hfl := ((hz_4.resolve_right (fun q1 => by omega)).2).2; rcases hkc with ⟨k1, k2, k3⟩ | ⟨k1, k2, k3, k4⟩ | ⟨k1, k2, k3, k4⟩ | ⟨k1, k2, k3, k4, -⟩; omega; exact absurd ⟨k2, k3⟩ hfn; (rw [k1, k4, ← hru, runM_e (by by_cases hq9 : n ≤ q; exact Or.inl hq9; exact Or.inr (Bool.eq_false_iff.mpr (fun hq8 => (hz_7.resolve_left (fun q1 => by omega)).2 ⟨by omega, hq8⟩)))]; exact hw8); (rw [hfl] at k4; exact absurd k4 (by decide))), fun j hj => (hf8 j (by omega)).trans (hfrd j (by omega))⟩) dX12_scan_167
              · refine k_aload_n hC dX12_scan_131 rfl 0 rfl ?_
                refine k_dup hC dX12_scan_132 rfl ?_
                refine k_get hC fd_X12_371 (kl hN (by decide)) hmq rfl dX12_scan_133 ?_
                refine k_topv (vI (q : Int)) rfl ?_
                refine k_iconst hC dX12_scan_136 ?_
                refine k_iadd hC dX12_scan_137 ?_
                refine k_put hC fd_X12_371 (kl hN (by decide)) hmq [.ref (kad G 134), .ref (kad G 135), .ref (kad G 136), .ref (kad G 137), vI (u 4), vI (u 5), vI (u 6), .ref (kad G 138), .ref (kad G 139), .ref (kad G 140), .ref (kad G 141), .ref (kad G 142), vL (u 12), vL (u 13), .ref (kad G 143), vI (u 15), .ref (kad G 144), vI (u 17), vI (u 18), vI ((q : Int) + 1), vI (z : Int), vI (u 21), vI (u 22), vI (u 23), vI (u 24), vI (u 25), .ref (kad G 145), .ref (kad G 146), .ref (kad G 147), vI (u 29)] rfl (Nat.le_of_ble_eq_true rfl) rfl rfl dX12_scan_138 (fun w9 hw9 hf9 => ?_)
                refine k_goto hC 120 dX12_scan_141 rfl ?_
                have h_10 : w9 144 = iA G 700 bt := (hf9 144 (by decide)).trans h144
                exact ihd (q + 1) w9 (by omega) (by omega) ((runM_s (by omega) (hz_7.resolve_right (fun q1 => by omega)).2.2).trans hru) hw9 h_10 (fun j hj => (hf9 j (by omega)).trans (hfrd j (by omega)))
          exact loopd (n + 1) z w1 (by omega) (by omega) rfl hw1 h_2 (fun j hj => (hf1 j (by omega)).trans (hfjA j (by omega)))
      · have loopb : ∀ (nb : Nat) (q : Nat) (wvb : Nat → va_E), (n < nb + q) → (z ≤ q ∧ q ≤ n) → (runM isLt bt n q = runM isLt bt n z) → (wvb 133 = .inr (12, [.ref (kad G 134), .ref (kad G 135), .ref (kad G 136), .ref (kad G 137), vI (u 4), vI (u 5), vI (u 6), .ref (kad G 138), .ref (kad G 139), .ref (kad G 140), .ref (kad G 141), .ref (kad G 142), vL (u 12), vL (u 13), .ref (kad G 143), vI (u 15), .ref (kad G 144), vI (u 17), vI (u 18), vI (q : Int), vI (z : Int), vI (u 21), vI (u 22), vI (u 23), vI (u 24), vI (u 25), .ref (kad G 145), .ref (kad G 146), .ref (kad G 147), vI (u 29)])) → (wvb 144 = iA G 700 bt) → ((∀ j, j ≠ 133 → wvb j = w j)) → KW p l e R s m args below meth c 1 G Q wvb fl 0 0 77 [(0, .ref (kad G 133))] [] := by
          intro nb
          induction nb with
          | zero =>
            intro q wvb hn_b hq hru hmq h144 hfrb
            exact absurd hn_b (by omega)
          | succ nb ihb =>
            intro q wvb hn_b hq hru hmq h144 hfrb
            refine k_aload_n hC dX12_scan_77 rfl 0 rfl ?_
            refine k_aload_n hC dX12_scan_78 rfl 0 rfl ?_
            refine k_get hC fd_X12_371 (kl hN (by decide)) hmq rfl dX12_scan_79 ?_
            refine k_topv (vI (q : Int)) rfl ?_
            refine k_pureV hC (c_X12_isLetter l hls G hN wvb fl (kup (kup u 19 (q : Int)) 20 (z : Int)) bt n q (by omega) hn7 hb hmq h18 h144) yy_X12_isLetter wm_X12_380 (kl hN (by decide)) hmq rfl rfl rfl rfl (Nat.le_of_ble_eq_true rfl) (by decide) (by decide) ⟨by decide, by decide⟩ dX12_scan_82 ?_
            obtain ⟨z_11, ez_11, hz_11⟩ := k_bI (q < n ∧ isLt (bt q) = true)
            refine k_topv (vI z_11) (by rw [ez_11]) ?_
            refine k_if_eq hC 101 dX12_scan_85 rfl (by omega) (fun c_85 => ?_) (fun c_85 => ?_)
            · refine k_aload_n hC dX12_scan_101 rfl 0 rfl ?_
              refine k_iconst hC dX12_scan_102 ?_
              refine k_put hC fd_X12_377 (kl hN (by decide)) hmq [.ref (kad G 134), .ref (kad G 135), .ref (kad G 136), .ref (kad G 137), vI (u 4), vI (u 5), vI (u 6), .ref (kad G 138), .ref (kad G 139), .ref (kad G 140), .ref (kad G 141), .ref (kad G 142), vL (u 12), vL (u 13), .ref (kad G 143), vI (u 15), .ref (kad G 144), vI (u 17), vI (u 18), vI (q : Int), vI (z : Int), vI 1, vI (u 22), vI (u 23), vI (u 24), vI (u 25), .ref (kad G 145), .ref (kad G 146), .ref (kad G 147), vI (u 29)] rfl (Nat.le_of_ble_eq_true rfl) rfl rfl dX12_scan_103 (fun w12 hw12 hf12 => ?_)
              refine k_goto hC 167 dX12_scan_106 rfl ?_
              subst hQ
              exact k_vret hC hr ⟨by decide, by decide⟩ (⟨rfl, rfl, (by rw [← hsk]; have hfl := ((hz_3.resolve_right (fun q1 => by omega)).2).2; rcases hkc with ⟨k1, k2, k3⟩ | ⟨k1, k2, k3, k4⟩ | ⟨k1, k2, k3, k4⟩ | ⟨k1, k2, k3, -⟩; omega; (rw [k1, k4, ← hru, runM_e (by by_cases hq9 : n ≤ q; exact Or.inl hq9; exact Or.inr (Bool.eq_false_iff.mpr (fun hq8 => (hz_11.resolve_left (fun q1 => by omega)).2 ⟨by omega, hq8⟩)))]; exact hw12); (have a1 := isLt_1.mp hfl; have a2 := isDg_1.mp k3; omega); (rw [hfl] at k3; exact absurd k3 (by decide))), fun j hj => (hf12 j (by omega)).trans (hfrb j (by omega))⟩) dX12_scan_167
            · refine k_aload_n hC dX12_scan_88 rfl 0 rfl ?_
              refine k_dup hC dX12_scan_89 rfl ?_
              refine k_get hC fd_X12_371 (kl hN (by decide)) hmq rfl dX12_scan_90 ?_
              refine k_topv (vI (q : Int)) rfl ?_
              refine k_iconst hC dX12_scan_93 ?_
              refine k_iadd hC dX12_scan_94 ?_
              refine k_put hC fd_X12_371 (kl hN (by decide)) hmq [.ref (kad G 134), .ref (kad G 135), .ref (kad G 136), .ref (kad G 137), vI (u 4), vI (u 5), vI (u 6), .ref (kad G 138), .ref (kad G 139), .ref (kad G 140), .ref (kad G 141), .ref (kad G 142), vL (u 12), vL (u 13), .ref (kad G 143), vI (u 15), .ref (kad G 144), vI (u 17), vI (u 18), vI ((q : Int) + 1), vI (z : Int), vI (u 21), vI (u 22), vI (u 23), vI (u 24), vI (u 25), .ref (kad G 145), .ref (kad G 146), .ref (kad G 147), vI (u 29)] rfl (Nat.le_of_ble_eq_true rfl) rfl rfl dX12_scan_95 (fun w13 hw13 hf13 => ?_)
              refine k_goto hC 77 dX12_scan_98 rfl ?_
              have h_14 : w13 144 = iA G 700 bt := (hf13 144 (by decide)).trans h144
              exact ihb (q + 1) w13 (by omega) (by omega) ((runM_s (by omega) (hz_11.resolve_right (fun q1 => by omega)).2.2).trans hru) hw13 h_14 (fun j hj => (hf13 j (by omega)).trans (hfrb j (by omega)))
        exact loopb (n + 1) z w1 (by omega) (by omega) rfl hw1 h_2 (fun j hj => (hf1 j (by omega)).trans (hfjA j (by omega)))
    · refine k_aload_n hC dX12_scan_58 rfl 0 rfl ?_
      refine k_iconst hC dX12_scan_59 ?_
      refine k_put hC fd_X12_377 (kl hN (by decide)) hw1 [.ref (kad G 134), .ref (kad G 135), .ref (kad G 136), .ref (kad G 137), vI (u 4), vI (u 5), vI (u 6), .ref (kad G 138), .ref (kad G 139), .ref (kad G 140), .ref (kad G 141), .ref (kad G 142), vL (u 12), vL (u 13), .ref (kad G 143), vI (u 15), .ref (kad G 144), vI (u 17), vI (u 18), vI (z : Int), vI (z : Int), vI 0, vI (u 22), vI (u 23), vI (u 24), vI (u 25), .ref (kad G 145), .ref (kad G 146), .ref (kad G 147), vI (u 29)] rfl (Nat.le_of_ble_eq_true rfl) rfl rfl dX12_scan_60 (fun w15 hw15 hf15 => ?_)
      refine k_goto hC 167 dX12_scan_63 rfl ?_
      subst hQ
      exact k_vret hC hr ⟨by decide, by decide⟩ (⟨rfl, rfl, (by rw [← hsk]; rcases hkc with ⟨k1, k2, k3⟩ | ⟨k1, k2, -⟩ | ⟨k1, k2, -⟩ | ⟨k1, k2, -⟩; (rw [k1, k3, show n = z by omega]; exact hw15); omega; omega; omega), fun j hj => (hf15 j (by omega)).trans ((hf1 j (by omega)).trans (hfjA j (by omega)))⟩) dX12_scan_167
  have loopa : ∀ (na : Nat) (q : Nat) (wva : Nat → va_E), (n < na + q) → (p9 ≤ q ∧ q ≤ n) → (runM isBl bt n q = runM isBl bt n p9) → (wva 133 = .inr (12, [.ref (kad G 134), .ref (kad G 135), .ref (kad G 136), .ref (kad G 137), vI (u 4), vI (u 5), vI (u 6), .ref (kad G 138), .ref (kad G 139), .ref (kad G 140), .ref (kad G 141), .ref (kad G 142), vL (u 12), vL (u 13), .ref (kad G 143), vI (u 15), .ref (kad G 144), vI (u 17), vI (u 18), vI (q : Int), vI (u 20), vI (u 21), vI (u 22), vI (u 23), vI (u 24), vI (u 25), .ref (kad G 145), .ref (kad G 146), .ref (kad G 147), vI (u 29)])) → (wva 144 = iA G 700 bt) → ((∀ j, j ≠ 133 → wva j = w j)) → KW p l e R s m args below meth c 1 G Q wva fl 0 0 0 [(0, .ref (kad G 133))] [] := by
    intro na
    induction na with
    | zero =>
      intro q wva hn_a hq hru hmq h144 hfra
      exact absurd hn_a (by omega)
    | succ na iha =>
      intro q wva hn_a hq hru hmq h144 hfra
      have hin : q < n → byL bt n q = bt q := fun z9 => if_pos z9
      have hout : ¬ q < n → byL bt n q = -1 := fun z9 => if_neg z9
      refine k_aload_n hC dX12_scan_0 rfl 0 rfl ?_
      refine k_aload_n hC dX12_scan_1 rfl 0 rfl ?_
      refine k_get hC fd_X12_371 (kl hN (by decide)) hmq rfl dX12_scan_2 ?_
      refine k_topv (vI (q : Int)) rfl ?_
      refine k_pureV hC (c_X12_byteAt l hls G hN wva fl (kup u 19 (q : Int)) bt n q (by omega) hn7 hb hmq h18 h144) yy_X12_byteAt wm_X12_368 (kl hN (by decide)) hmq rfl rfl rfl rfl (Nat.le_of_ble_eq_true rfl) (by decide) (by decide) ⟨by decide, by decide⟩ dX12_scan_5 ?_
      have hbv_16 := byL_b hb n q
      refine k_bipush hC dX12_scan_8 (by decide) ?_
      refine k_icmp_eq hC 26 dX12_scan_10 rfl (by omega) (by omega) (fun c_10 => ?_) (fun c_10 => ?_)
      · refine k_aload_n hC dX12_scan_26 rfl 0 rfl ?_
        refine k_dup hC dX12_scan_27 rfl ?_
        refine k_get hC fd_X12_371 (kl hN (by decide)) hmq rfl dX12_scan_28 ?_
        refine k_topv (vI (q : Int)) rfl ?_
        refine k_iconst hC dX12_scan_31 ?_
        refine k_iadd hC dX12_scan_32 ?_
        refine k_put hC fd_X12_371 (kl hN (by decide)) hmq [.ref (kad G 134), .ref (kad G 135), .ref (kad G 136), .ref (kad G 137), vI (u 4), vI (u 5), vI (u 6), .ref (kad G 138), .ref (kad G 139), .ref (kad G 140), .ref (kad G 141), .ref (kad G 142), vL (u 12), vL (u 13), .ref (kad G 143), vI (u 15), .ref (kad G 144), vI (u 17), vI (u 18), vI ((q : Int) + 1), vI (u 20), vI (u 21), vI (u 22), vI (u 23), vI (u 24), vI (u 25), .ref (kad G 145), .ref (kad G 146), .ref (kad G 147), vI (u 29)] rfl (Nat.le_of_ble_eq_true rfl) rfl rfl dX12_scan_33 (fun w17 hw17 hf17 => ?_)
        refine k_goto hC 0 dX12_scan_36 rfl ?_
        have h_18 : w17 144 = iA G 700 bt := (hf17 144 (by decide)).trans h144
        exact iha (q + 1) w17 (by omega) (by omega) ((runM_s (by omega) (isBl_1.mpr (by omega))).trans hru) hw17 h_18 (fun j hj => (hf17 j (by omega)).trans (hfra j (by omega)))
      · refine k_aload_n hC dX12_scan_13 rfl 0 rfl ?_
        refine k_aload_n hC dX12_scan_14 rfl 0 rfl ?_
        refine k_get hC fd_X12_371 (kl hN (by decide)) hmq rfl dX12_scan_15 ?_
        refine k_topv (vI (q : Int)) rfl ?_
        refine k_pureV hC (c_X12_byteAt l hls G hN wva fl (kup u 19 (q : Int)) bt n q (by omega) hn7 hb hmq h18 h144) yy_X12_byteAt wm_X12_368 (kl hN (by decide)) hmq rfl rfl rfl rfl (Nat.le_of_ble_eq_true rfl) (by decide) (by decide) ⟨by decide, by decide⟩ dX12_scan_18 ?_
        have hbv_19 := byL_b hb n q
        refine k_bipush hC dX12_scan_21 (by decide) ?_
        refine k_icmp_ne hC 39 dX12_scan_23 rfl (by omega) (by omega) (fun c_23 => ?_) (fun c_23 => ?_)
        · exact joinA q wva (by omega) (by show q = runM isBl bt n p9; rw [← hru]; exact (runM_e (by by_cases hq9 : n ≤ q; exact Or.inl hq9; exact Or.inr (isBl_0.mpr (by have := hin (by omega); omega)))).symm) hmq h144 (fun j hj => hfra j (by omega))
        · refine k_aload_n hC dX12_scan_26 rfl 0 rfl ?_
          refine k_dup hC dX12_scan_27 rfl ?_
          refine k_get hC fd_X12_371 (kl hN (by decide)) hmq rfl dX12_scan_28 ?_
          refine k_topv (vI (q : Int)) rfl ?_
          refine k_iconst hC dX12_scan_31 ?_
          refine k_iadd hC dX12_scan_32 ?_
          refine k_put hC fd_X12_371 (kl hN (by decide)) hmq [.ref (kad G 134), .ref (kad G 135), .ref (kad G 136), .ref (kad G 137), vI (u 4), vI (u 5), vI (u 6), .ref (kad G 138), .ref (kad G 139), .ref (kad G 140), .ref (kad G 141), .ref (kad G 142), vL (u 12), vL (u 13), .ref (kad G 143), vI (u 15), .ref (kad G 144), vI (u 17), vI (u 18), vI ((q : Int) + 1), vI (u 20), vI (u 21), vI (u 22), vI (u 23), vI (u 24), vI (u 25), .ref (kad G 145), .ref (kad G 146), .ref (kad G 147), vI (u 29)] rfl (Nat.le_of_ble_eq_true rfl) rfl rfl dX12_scan_33 (fun w20 hw20 hf20 => ?_)
          refine k_goto hC 0 dX12_scan_36 rfl ?_
          have h_21 : w20 144 = iA G 700 bt := (hf20 144 (by decide)).trans h144
          exact iha (q + 1) w20 (by omega) (by omega) ((runM_s (by omega) (isBl_1.mpr (by omega))).trans hru) hw20 h_21 (fun j hj => (hf20 j (by omega)).trans (hfra j (by omega)))
  exact loopa (n + 1) p9 w (by omega) (by omega) rfl hm2 h144 (fun j hj => rfl)

