theorem NmB.hd {D D1 : Nat → Int} (h : NmB D) (e : ∀ j, (j = 0 ∨ (12 ≤ j ∧ j < 33)) → D1 j = D j) (h6 : D 0 ≤ 6) : NmB D1 := fun k hk => by
  rw [e 0 (Or.inl rfl)] at hk
  rw [e (12 + 4 * k) (by omega)]
  exact h k hk
theorem tkok {bt : Nat → Int} {n : Nat} {lo hi : Int} {x : PS} (h : (tkP bt n lo hi x).1 = 0) : x.1 = 0 := by
  by_cases q : x.1 = 0
  · exact q
  · rw [tkP_e q] at h; exact h
theorem sgok {bt : Nat → Int} {n : Nat} {mo : Int} {x : PS} (h : (sgP bt n mo x).1 = 0) : x.1 = 0 := by
  by_cases q : x.1 = 0
  · exact q
  · rw [sgP_e q] at h; exact h
theorem nsok {bt : Nat → Int} {n : Nat} {c : Int} {x : PS} (h : (nsP bt n c x).1 = 0) : x.1 = 0 := by
  by_cases q : x.1 = 0
  · exact q
  · rw [nsP_e q] at h; exact h
theorem cl_nmB {bt : Nat → Int} {n : Nat} {D : Nat → Int} {st : PS} (hI : Inv D) (hB : NmB D) (h : (clS0 bt n D st).1 = 0) : NmB (clD bt n D st) := by
  have hc := hI.c
  unfold clS0 at h
  unfold clD
  by_cases w1 : isW bt n 1 st
  · rw [selP_1 w1]; exact hB.hd (fun j hj => by unfold setM; rw [if_neg (by omega), if_neg (by omega)]) (by omega)
  rw [selP_0 w1] at h ⊢
  by_cases w2 : isW bt n 2 st
  · rw [selP_1 w2]; exact hB.hd (fun j hj => kup_n (by omega)) (by omega)
  rw [selP_0 w2] at h ⊢
  by_cases w3 : isW bt n 3 st
  · rw [selP_1 w3]; exact hB.hd (fun j hj => kup_n (by omega)) (by omega)
  rw [selP_0 w3] at h ⊢
  by_cases w4 : isW bt n 4 st
  · rw [selP_1 w4]; exact hB.hd (fun j hj => by unfold setM; rw [if_neg (by omega), if_neg (by omega)]) (by omega)
  rw [selP_0 w4] at h ⊢
  by_cases w5 : isW bt n 5 st
  · rw [selP_1 w5] at h ⊢
    unfold clBodyS at h
    unfold clBodyD
    by_cases q : 6 ≤ D 0
    · rw [selP_1 q] at h; exact absurd h (fl_c (by decide))
    rw [selP_0 q] at h
    have h4 : (bdB bt n D (adP bt n st)).1 = 0 := ad_c.mp (sgok (tkok h))
    have h5 : isNm bt n (adP bt n st) := by
      by_cases q5 : isNm bt n (adP bt n st)
      · exact q5
      · unfold bdB at h4; rw [selP_0 q5] at h4; exact absurd h4 (fl_c (by decide))
    have h6 := nmM_b h5.2.1 h5.2.2
    intro k hk
    have e0 : ∀ a b c d : Int, bodyD D a b c d 0 = D 0 + 1 := fun _ _ _ _ => rfl
    rw [e0] at hk
    by_cases e : (k : Int) = D 0
    · unfold bodyD; rw [if_neg (by omega), if_neg (by omega), if_neg (by omega), if_neg (by omega), if_pos (by omega)]; exact h6
    · unfold bodyD; rw [if_neg (by omega), if_neg (by omega), if_neg (by omega), if_neg (by omega), if_neg (by omega)]; exact hB k (by omega)
  rw [selP_0 w5] at h ⊢
  by_cases w6 : isW bt n 6 st
  · rw [selP_1 w6]; exact hB.hd (fun j hj => by unfold clLegD addLegM; rw [if_neg (by omega), if_neg (by omega), if_neg (by omega), if_neg (by omega)]) (by omega)
  rw [selP_0 w6] at h ⊢
  by_cases w7 : isW bt n 7 st
  · rw [selP_1 w7]; exact hB.hd (fun j hj => by unfold clSightD addSightM; rw [if_neg (by omega), if_neg (by omega), if_neg (by omega), if_neg (by omega)]) (by omega)
  rw [selP_0 w7]; exact hB
set_option maxRecDepth 100000 in
set_option maxHeartbeats 4000000 in
theorem c_X12_readBody (l : Launch) (hls : l.stackTraces = false) (G : kG) (hN : kN G = 150) (w : Nat → va_E) (fl : va_W) (u bt : Nat → Int) (n : Nat) (st : PS) (D : Nat → Int) (hz0 : st.1 = 0) (hI : Inv D) (hNb : NmB D) (hn7 : n ≤ 700) (hb : btOK bt) (hm : w 133 = mdO G u) (h144 : w 144 = iA G 700 bt) (hK : mkR u bt n st) (h135 : w 135 = lA G 93 D) : KM l G yX12_readBody cX12_readBody 2 (none) 6 0 0 [.ref (kad G 133)] w fl (kMuv fl (fun w1 => rT G u bt n (clBodyS bt n D st) w1 ∧ ((∃ D1, w1 135 = lA G 93 D1) ∧ ((clBodyS bt n D st).1 = 0 → w1 135 = lA G 93 (clBodyD bt n D st))) ∧ ∀ j, (j ≠ 133 ∧ j ≠ 135) → w1 j = w j)) := by
  refine KM_of2 hls (by decide +kernel) rfl (lv0 := [(0, .ref (kad G 133))]) rfl (Nat.le_of_ble_eq_true rfl) (fun p e R s m args below meth c Q hC hr hQ => ?_)
  have h18 := hK.1
  have h22 := hK.2.1
  have hrg := hK.2.2.1
  have hcb := hK.cb
  have h0 := hI.c
  have hzz : st.1 = 0 := by omega
  have hq0 := hK.2.2.2.1 hzz
  have hen := enM_b (bt := bt) hq0.2.2.2
  refine k_aload_n hC dX12_readBody_0 rfl 0 rfl ?_
  refine k_aload_n hC dX12_readBody_1 rfl 0 rfl ?_
  refine k_get hC fd_X12_13 (kl hN (by decide)) hm rfl dX12_readBody_2 ?_
  refine k_iconst hC dX12_readBody_5 ?_
  refine k_lald hC (kl hN (by decide)) h135 (by omega) (by decide) dX12_readBody_6 ?_
  refine k_topv (vL (D 0)) rfl ?_
  refine k_ldc2 hC (x := 6) (v := 6) dX12_readBody_7 (by decide) wk_X12_115 ?_
  refine k_lcmp_ge hC 18 dX12_readBody_10 dX12_readBody_11 rfl (by omega) (by omega) (fun c_10 => ?_) (fun c_10 => ?_)
  · refine k_iconst hC dX12_readBody_18 ?_
    refine k_iconst hC dX12_readBody_19 ?_
    refine k_muvV hC (c_X12_check0 l hls G hN w fl u bt n st 3 (by omega) hn7 hb hm h144 hK) yy_X12_check wm_X12_413 (kl hN (by decide)) hm rfl rfl rfl rfl (Nat.le_of_ble_eq_true rfl) (by decide) (by decide) ⟨by decide, by decide⟩ dX12_readBody_20 (fun w1 hp1 => ?_)
    obtain ⟨hT1, hf1⟩ := hp1
    obtain ⟨u1, hu1, hKr1, hs1⟩ := hT1
    obtain ⟨st_2, est_2⟩ : ∃ z : PS, z = flP 3 st := ⟨_, rfl⟩
    rw [← est_2] at hKr1
    have h18r1 := hKr1.1
    have h22r1 := hKr1.2.1
    have hrgr1 := hKr1.2.2.1
    have hcbr1 := hKr1.cb
    have hzzr1 : st_2.1 ≠ 0 := by rw [est_2]; exact fl_c (by omega)
    refine k_aload_n hC dX12_readBody_23 rfl 0 rfl ?_
    have h_4 : w1 144 = iA G 700 bt := (hf1 144 (by decide)).trans h144
    refine k_muvV hC (c_X12_advance l hls G hN w1 fl u1 bt n st_2  hn7 hb hu1 h_4 hKr1) yy_X12_advance wm_X12_417 (kl hN (by decide)) hu1 rfl rfl rfl rfl (Nat.le_of_ble_eq_true rfl) (by decide) (by decide) ⟨by decide, by decide⟩ dX12_readBody_24 (fun w3 hp3 => ?_)
    obtain ⟨hT3, hf3⟩ := hp3
    obtain ⟨u3, hu3, hKr3, hs3⟩ := hT3
    obtain ⟨st_5, est_5⟩ : ∃ z : PS, z = adP bt n st_2 := ⟨_, rfl⟩
    rw [← est_5] at hKr3
    have h18r3 := hKr3.1
    have h22r3 := hKr3.2.1
    have hrgr3 := hKr3.2.2.1
    have hcbr3 := hKr3.cb
    have hzzr3 : st_5.1 ≠ 0 := by rw [est_5, adP_e (by omega)]; omega
    refine k_aload_n hC dX12_readBody_27 rfl 0 rfl ?_
    refine k_aload_n hC dX12_readBody_28 rfl 0 rfl ?_
    refine k_get hC fd_X12_386 (kl hN (by decide)) hu3 rfl dX12_readBody_29 ?_
    refine k_if_ne hC 57 dX12_readBody_32 rfl (by omega) (fun c_32 => ?_) (fun c_32 => absurd c_32 (by omega))
    refine k_iconst hC dX12_readBody_57 ?_
    refine k_goto hC 62 dX12_readBody_58 rfl ?_
    refine k_iconst hC dX12_readBody_62 ?_
    have h_7 : w3 144 = iA G 700 bt := (hf3 144 (by decide)).trans h_4
    refine k_muvV hC (c_X12_check1 l hls G hN w3 fl u3 bt n st_5 1 (by omega) hn7 hb hu3 h_7 hKr3) yy_X12_check wm_X12_413 (kl hN (by decide)) hu3 rfl rfl rfl rfl (Nat.le_of_ble_eq_true rfl) (by decide) (by decide) ⟨by decide, by decide⟩ dX12_readBody_63 (fun w6 hp6 => ?_)
    obtain ⟨hT6, hf6⟩ := hp6
    obtain ⟨u6, hu6, hKr6, hs6⟩ := hT6
    have h18r6 := hKr6.1
    have h22r6 := hKr6.2.1
    have hrgr6 := hKr6.2.2.1
    have hcbr6 := hKr6.cb
    have hzzr6 : st_5.1 ≠ 0 := by omega
    refine k_aload_n hC dX12_readBody_66 rfl 0 rfl ?_
    refine k_aload_n hC dX12_readBody_67 rfl 0 rfl ?_
    refine k_get hC fd_X12_386 (kl hN (by decide)) hu6 rfl dX12_readBody_68 ?_
    refine k_if_ne hC 82 dX12_readBody_71 rfl (by omega) (fun c_71 => ?_) (fun c_71 => absurd c_71 (by omega))
    refine k_iconst hC dX12_readBody_82 ?_
    refine k_goto hC 87 dX12_readBody_83 rfl ?_
    refine k_iconst hC dX12_readBody_87 ?_
    have h_9 : w6 144 = iA G 700 bt := (hf6 144 (by decide)).trans h_7
    refine k_muvV hC (c_X12_check1 l hls G hN w6 fl u6 bt n st_5 4 (by omega) hn7 hb hu6 h_9 hKr6) yy_X12_check wm_X12_413 (kl hN (by decide)) hu6 rfl rfl rfl rfl (Nat.le_of_ble_eq_true rfl) (by decide) (by decide) ⟨by decide, by decide⟩ dX12_readBody_88 (fun w8 hp8 => ?_)
    obtain ⟨hT8, hf8⟩ := hp8
    obtain ⟨u8, hu8, hKr8, hs8⟩ := hT8
    have h18r8 := hKr8.1
    have h22r8 := hKr8.2.1
    have hrgr8 := hKr8.2.2.1
    have hcbr8 := hKr8.cb
    have hzzr8 : st_5.1 ≠ 0 := by omega
    refine k_aload_n hC dX12_readBody_91 rfl 0 rfl ?_
    refine k_get hC fd_X12_386 (kl hN (by decide)) hu8 rfl dX12_readBody_92 ?_
    refine k_if_eq hC 99 dX12_readBody_95 rfl (by omega) (fun c_95 => absurd c_95 (by omega)) (fun c_95 => ?_)
    have h_10 : w8 135 = lA G 93 D := (hf8 135 (by decide)).trans ((hf6 135 (by decide)).trans ((hf3 135 (by decide)).trans ((hf1 135 (by decide)).trans h135)))
    subst hQ
    exact k_vret hC hr ⟨by decide, by decide⟩ (⟨rfl, rfl, ⟨_, hu8, (by have e : st_5 = clBodyS bt n D st := (by unfold clBodyS; rw [selP_1 (by omega), ← est_2, est_5, adP_e (by omega)]); rw [← e]; exact hKr8), (uS.tr (uS.tr (uS.tr (uS.tr (fun j _ => rfl) hs1) hs3) hs6) hs8)⟩, ⟨⟨_, h_10⟩, fun hc => absurd hc (by have hq : st_5 = clBodyS bt n D st := (by unfold clBodyS; rw [selP_1 (by omega), ← est_2, est_5, adP_e (by omega)]); rw [← hq]; omega)⟩, fun j hj => (hf8 j (by omega)).trans ((hf6 j (by omega)).trans ((hf3 j (by omega)).trans (hf1 j (by omega))))⟩) dX12_readBody_98
  · refine k_iconst hC dX12_readBody_14 ?_
    refine k_goto hC 19 dX12_readBody_15 rfl ?_
    refine k_iconst hC dX12_readBody_19 ?_
    refine k_muvV hC (c_X12_check1 l hls G hN w fl u bt n st 3 (by omega) hn7 hb hm h144 hK) yy_X12_check wm_X12_413 (kl hN (by decide)) hm rfl rfl rfl rfl (Nat.le_of_ble_eq_true rfl) (by decide) (by decide) ⟨by decide, by decide⟩ dX12_readBody_20 (fun w11 hp11 => ?_)
    obtain ⟨hT11, hf11⟩ := hp11
    obtain ⟨u11, hu11, hKr11, hs11⟩ := hT11
    have h18r11 := hKr11.1
    have h22r11 := hKr11.2.1
    have hrgr11 := hKr11.2.2.1
    have hcbr11 := hKr11.cb
    have hzzr11 : st.1 = 0 := by omega
    have hq0r11 := hKr11.2.2.2.1 hzzr11
    have henr11 := enM_b (bt := bt) hq0r11.2.2.2
    refine k_aload_n hC dX12_readBody_23 rfl 0 rfl ?_
    have h_13 : w11 144 = iA G 700 bt := (hf11 144 (by decide)).trans h144
    refine k_muvV hC (c_X12_advance l hls G hN w11 fl u11 bt n st  hn7 hb hu11 h_13 hKr11) yy_X12_advance wm_X12_417 (kl hN (by decide)) hu11 rfl rfl rfl rfl (Nat.le_of_ble_eq_true rfl) (by decide) (by decide) ⟨by decide, by decide⟩ dX12_readBody_24 (fun w12 hp12 => ?_)
    obtain ⟨hT12, hf12⟩ := hp12
    obtain ⟨u12, hu12, hKr12, hs12⟩ := hT12
    obtain ⟨st_14, est_14⟩ : ∃ z : PS, z = adP bt n st := ⟨_, rfl⟩
    rw [← est_14] at hKr12
    have h18r12 := hKr12.1
    have h22r12 := hKr12.2.1
    have hrgr12 := hKr12.2.2.1
    have hcbr12 := hKr12.cb
    have hzir12 : st_14.1 = 0 := by rw [est_14]; exact ad_c.mpr (by omega)
    have hzzr12 : st_14.1 = 0 := by omega
    have hq0r12 := hKr12.2.2.2.1 hzzr12
    have henr12 := enM_b (bt := bt) hq0r12.2.2.2
    refine k_aload_n hC dX12_readBody_27 rfl 0 rfl ?_
    refine k_aload_n hC dX12_readBody_28 rfl 0 rfl ?_
    refine k_get hC fd_X12_386 (kl hN (by decide)) hu12 rfl dX12_readBody_29 ?_
    refine k_topv (vI 0) (congrArg vI (by omega)) ?_
    refine k_if_ne hC 57 dX12_readBody_32 rfl (by omega) (fun c_32 => absurd c_32 (by omega)) (fun c_32 => ?_)
    refine k_aload_n hC dX12_readBody_35 rfl 0 rfl ?_
    refine k_get hC fd_X12_377 (kl hN (by decide)) hu12 rfl dX12_readBody_36 ?_
    refine k_iconst hC dX12_readBody_39 ?_
    refine k_icmp_ne hC 61 dX12_readBody_40 rfl (by omega) (by omega) (fun c_40 => ?_) (fun c_40 => ?_)
    · refine k_iconst hC dX12_readBody_61 ?_
      refine k_iconst hC dX12_readBody_62 ?_
      have h_16 : w12 144 = iA G 700 bt := (hf12 144 (by decide)).trans h_13
      refine k_muvV hC (c_X12_check0 l hls G hN w12 fl u12 bt n st_14 1 (by omega) hn7 hb hu12 h_16 hKr12) yy_X12_check wm_X12_413 (kl hN (by decide)) hu12 rfl rfl rfl rfl (Nat.le_of_ble_eq_true rfl) (by decide) (by decide) ⟨by decide, by decide⟩ dX12_readBody_63 (fun w15 hp15 => ?_)
      obtain ⟨hT15, hf15⟩ := hp15
      obtain ⟨u15, hu15, hKr15, hs15⟩ := hT15
      obtain ⟨st_17, est_17⟩ : ∃ z : PS, z = flP 1 st_14 := ⟨_, rfl⟩
      rw [← est_17] at hKr15
      have h18r15 := hKr15.1
      have h22r15 := hKr15.2.1
      have hrgr15 := hKr15.2.2.1
      have hcbr15 := hKr15.cb
      have hzzr15 : st_17.1 ≠ 0 := by rw [est_17]; exact fl_c (by omega)
      refine k_aload_n hC dX12_readBody_66 rfl 0 rfl ?_
      refine k_aload_n hC dX12_readBody_67 rfl 0 rfl ?_
      refine k_get hC fd_X12_386 (kl hN (by decide)) hu15 rfl dX12_readBody_68 ?_
      refine k_if_ne hC 82 dX12_readBody_71 rfl (by omega) (fun c_71 => ?_) (fun c_71 => absurd c_71 (by omega))
      refine k_iconst hC dX12_readBody_82 ?_
      refine k_goto hC 87 dX12_readBody_83 rfl ?_
      refine k_iconst hC dX12_readBody_87 ?_
      have h_19 : w15 144 = iA G 700 bt := (hf15 144 (by decide)).trans h_16
      refine k_muvV hC (c_X12_check1 l hls G hN w15 fl u15 bt n st_17 4 (by omega) hn7 hb hu15 h_19 hKr15) yy_X12_check wm_X12_413 (kl hN (by decide)) hu15 rfl rfl rfl rfl (Nat.le_of_ble_eq_true rfl) (by decide) (by decide) ⟨by decide, by decide⟩ dX12_readBody_88 (fun w18 hp18 => ?_)
      obtain ⟨hT18, hf18⟩ := hp18
      obtain ⟨u18, hu18, hKr18, hs18⟩ := hT18
      have h18r18 := hKr18.1
      have h22r18 := hKr18.2.1
      have hrgr18 := hKr18.2.2.1
      have hcbr18 := hKr18.cb
      have hzzr18 : st_17.1 ≠ 0 := by omega
      refine k_aload_n hC dX12_readBody_91 rfl 0 rfl ?_
      refine k_get hC fd_X12_386 (kl hN (by decide)) hu18 rfl dX12_readBody_92 ?_
      refine k_if_eq hC 99 dX12_readBody_95 rfl (by omega) (fun c_95 => absurd c_95 (by omega)) (fun c_95 => ?_)
      have h_20 : w18 135 = lA G 93 D := (hf18 135 (by decide)).trans ((hf15 135 (by decide)).trans ((hf12 135 (by decide)).trans ((hf11 135 (by decide)).trans h135)))
      subst hQ
      exact k_vret hC hr ⟨by decide, by decide⟩ (⟨rfl, rfl, ⟨_, hu18, (by have e : st_17 = clBodyS bt n D st := (by unfold clBodyS; rw [selP_0 (by omega), ← est_14]; have hbb : bdB bt n D st_14 = st_17 := (by unfold bdB; rw [selP_0 (fun q => by have q1 := q.1; have q2 := q.2.1; have q3 := q.2.2; omega)]; exact est_17.symm); rw [hbb, adP_e (by omega), sgP_e (by omega), tkP_e (by omega)]); rw [← e]; exact hKr18), (uS.tr (uS.tr (uS.tr (uS.tr (fun j _ => rfl) hs11) hs12) hs15) hs18)⟩, ⟨⟨_, h_20⟩, fun hc => absurd hc (by have hq : st_17 = clBodyS bt n D st := (by unfold clBodyS; rw [selP_0 (by omega), ← est_14]; have hbb : bdB bt n D st_14 = st_17 := (by unfold bdB; rw [selP_0 (fun q => by have q1 := q.1; have q2 := q.2.1; have q3 := q.2.2; omega)]; exact est_17.symm); rw [hbb, adP_e (by omega), sgP_e (by omega), tkP_e (by omega)]); rw [← hq]; omega)⟩, fun j hj => (hf18 j (by omega)).trans ((hf15 j (by omega)).trans ((hf12 j (by omega)).trans (hf11 j (by omega))))⟩) dX12_readBody_98
    · refine k_aload_n hC dX12_readBody_43 rfl 0 rfl ?_
      refine k_get hC fd_X12_371 (kl hN (by decide)) hu12 rfl dX12_readBody_44 ?_
      refine k_aload_n hC dX12_readBody_47 rfl 0 rfl ?_
      refine k_get hC fd_X12_374 (kl hN (by decide)) hu12 rfl dX12_readBody_48 ?_
      refine k_isub hC dX12_readBody_51 ?_
      refine k_bipush hC dX12_readBody_52 (by decide) ?_
      refine k_icmp_gt hC 61 dX12_readBody_54 rfl (by omega) (by omega) (fun c_54 => ?_) (fun c_54 => ?_)
      · refine k_iconst hC dX12_readBody_61 ?_
        refine k_iconst hC dX12_readBody_62 ?_
        have h_22 : w12 144 = iA G 700 bt := (hf12 144 (by decide)).trans h_13
        refine k_muvV hC (c_X12_check0 l hls G hN w12 fl u12 bt n st_14 1 (by omega) hn7 hb hu12 h_22 hKr12) yy_X12_check wm_X12_413 (kl hN (by decide)) hu12 rfl rfl rfl rfl (Nat.le_of_ble_eq_true rfl) (by decide) (by decide) ⟨by decide, by decide⟩ dX12_readBody_63 (fun w21 hp21 => ?_)
        obtain ⟨hT21, hf21⟩ := hp21
        obtain ⟨u21, hu21, hKr21, hs21⟩ := hT21
        obtain ⟨st_23, est_23⟩ : ∃ z : PS, z = flP 1 st_14 := ⟨_, rfl⟩
        rw [← est_23] at hKr21
        have h18r21 := hKr21.1
        have h22r21 := hKr21.2.1
        have hrgr21 := hKr21.2.2.1
        have hcbr21 := hKr21.cb
        have hzzr21 : st_23.1 ≠ 0 := by rw [est_23]; exact fl_c (by omega)
        refine k_aload_n hC dX12_readBody_66 rfl 0 rfl ?_
        refine k_aload_n hC dX12_readBody_67 rfl 0 rfl ?_
        refine k_get hC fd_X12_386 (kl hN (by decide)) hu21 rfl dX12_readBody_68 ?_
        refine k_if_ne hC 82 dX12_readBody_71 rfl (by omega) (fun c_71 => ?_) (fun c_71 => absurd c_71 (by omega))
        refine k_iconst hC dX12_readBody_82 ?_
        refine k_goto hC 87 dX12_readBody_83 rfl ?_
        refine k_iconst hC dX12_readBody_87 ?_
        have h_25 : w21 144 = iA G 700 bt := (hf21 144 (by decide)).trans h_22
        refine k_muvV hC (c_X12_check1 l hls G hN w21 fl u21 bt n st_23 4 (by omega) hn7 hb hu21 h_25 hKr21) yy_X12_check wm_X12_413 (kl hN (by decide)) hu21 rfl rfl rfl rfl (Nat.le_of_ble_eq_true rfl) (by decide) (by decide) ⟨by decide, by decide⟩ dX12_readBody_88 (fun w24 hp24 => ?_)
        obtain ⟨hT24, hf24⟩ := hp24
        obtain ⟨u24, hu24, hKr24, hs24⟩ := hT24
        have h18r24 := hKr24.1
        have h22r24 := hKr24.2.1
        have hrgr24 := hKr24.2.2.1
        have hcbr24 := hKr24.cb
        have hzzr24 : st_23.1 ≠ 0 := by omega
        refine k_aload_n hC dX12_readBody_91 rfl 0 rfl ?_
        refine k_get hC fd_X12_386 (kl hN (by decide)) hu24 rfl dX12_readBody_92 ?_
        refine k_if_eq hC 99 dX12_readBody_95 rfl (by omega) (fun c_95 => absurd c_95 (by omega)) (fun c_95 => ?_)
        have h_26 : w24 135 = lA G 93 D := (hf24 135 (by decide)).trans ((hf21 135 (by decide)).trans ((hf12 135 (by decide)).trans ((hf11 135 (by decide)).trans h135)))
        subst hQ
        exact k_vret hC hr ⟨by decide, by decide⟩ (⟨rfl, rfl, ⟨_, hu24, (by have e : st_23 = clBodyS bt n D st := (by unfold clBodyS; rw [selP_0 (by omega), ← est_14]; have hbb : bdB bt n D st_14 = st_23 := (by unfold bdB; rw [selP_0 (fun q => by have q1 := q.1; have q2 := q.2.1; have q3 := q.2.2; omega)]; exact est_23.symm); rw [hbb, adP_e (by omega), sgP_e (by omega), tkP_e (by omega)]); rw [← e]; exact hKr24), (uS.tr (uS.tr (uS.tr (uS.tr (fun j _ => rfl) hs11) hs12) hs21) hs24)⟩, ⟨⟨_, h_26⟩, fun hc => absurd hc (by have hq : st_23 = clBodyS bt n D st := (by unfold clBodyS; rw [selP_0 (by omega), ← est_14]; have hbb : bdB bt n D st_14 = st_23 := (by unfold bdB; rw [selP_0 (fun q => by have q1 := q.1; have q2 := q.2.1; have q3 := q.2.2; omega)]; exact est_23.symm); rw [hbb, adP_e (by omega), sgP_e (by omega), tkP_e (by omega)]); rw [← hq]; omega)⟩, fun j hj => (hf24 j (by omega)).trans ((hf21 j (by omega)).trans ((hf12 j (by omega)).trans (hf11 j (by omega))))⟩) dX12_readBody_98
      · refine k_iconst hC dX12_readBody_57 ?_
        refine k_goto hC 62 dX12_readBody_58 rfl ?_
        refine k_iconst hC dX12_readBody_62 ?_
        have h_28 : w12 144 = iA G 700 bt := (hf12 144 (by decide)).trans h_13
        refine k_muvV hC (c_X12_check1 l hls G hN w12 fl u12 bt n st_14 1 (by omega) hn7 hb hu12 h_28 hKr12) yy_X12_check wm_X12_413 (kl hN (by decide)) hu12 rfl rfl rfl rfl (Nat.le_of_ble_eq_true rfl) (by decide) (by decide) ⟨by decide, by decide⟩ dX12_readBody_63 (fun w27 hp27 => ?_)
        obtain ⟨hT27, hf27⟩ := hp27
        obtain ⟨u27, hu27, hKr27, hs27⟩ := hT27
        have h18r27 := hKr27.1
        have h22r27 := hKr27.2.1
        have hrgr27 := hKr27.2.2.1
        have hcbr27 := hKr27.cb
        have hzzr27 : st_14.1 = 0 := by omega
        have hq0r27 := hKr27.2.2.2.1 hzzr27
        have henr27 := enM_b (bt := bt) hq0r27.2.2.2
        refine k_aload_n hC dX12_readBody_66 rfl 0 rfl ?_
        refine k_aload_n hC dX12_readBody_67 rfl 0 rfl ?_
        refine k_get hC fd_X12_386 (kl hN (by decide)) hu27 rfl dX12_readBody_68 ?_
        refine k_topv (vI 0) (congrArg vI (by omega)) ?_
        refine k_if_ne hC 82 dX12_readBody_71 rfl (by omega) (fun c_71 => absurd c_71 (by omega)) (fun c_71 => ?_)
        refine k_aload_n hC dX12_readBody_74 rfl 0 rfl ?_
        have h_29 : w27 135 = lA G 93 D := (hf27 135 (by decide)).trans ((hf12 135 (by decide)).trans ((hf11 135 (by decide)).trans h135))
        have h_30 : w27 144 = iA G 700 bt := (hf27 144 (by decide)).trans h_28
        refine k_pureV hC (c_X12_bodyHere l hls G hN w27 fl u27 bt n st_14 D (by omega) (by omega) hNb hn7 hb hu27 h_30 hKr27 h_29) yy_X12_bodyHere wm_X12_439 (kl hN (by decide)) hu27 rfl rfl rfl rfl (Nat.le_of_ble_eq_true rfl) (by decide) (by decide) ⟨by decide, by decide⟩ dX12_readBody_75 ?_
        have hbm_31 := bdM_b (bt := bt) (n := n) (st := st_14) hI
        refine k_iconst hC dX12_readBody_78 ?_
        refine k_icmp_ne hC 86 dX12_readBody_79 rfl (by omega) (by omega) (fun c_79 => ?_) (fun c_79 => ?_)
        · refine k_iconst hC dX12_readBody_86 ?_
          refine k_iconst hC dX12_readBody_87 ?_
          refine k_muvV hC (c_X12_check0 l hls G hN w27 fl u27 bt n st_14 4 (by omega) hn7 hb hu27 h_30 hKr27) yy_X12_check wm_X12_413 (kl hN (by decide)) hu27 rfl rfl rfl rfl (Nat.le_of_ble_eq_true rfl) (by decide) (by decide) ⟨by decide, by decide⟩ dX12_readBody_88 (fun w32 hp32 => ?_)
          obtain ⟨hT32, hf32⟩ := hp32
          obtain ⟨u32, hu32, hKr32, hs32⟩ := hT32
          obtain ⟨st_33, est_33⟩ : ∃ z : PS, z = flP 4 st_14 := ⟨_, rfl⟩
          rw [← est_33] at hKr32
          have h18r32 := hKr32.1
          have h22r32 := hKr32.2.1
          have hrgr32 := hKr32.2.2.1
          have hcbr32 := hKr32.cb
          have hzzr32 : st_33.1 ≠ 0 := by rw [est_33]; exact fl_c (by omega)
          refine k_aload_n hC dX12_readBody_91 rfl 0 rfl ?_
          refine k_get hC fd_X12_386 (kl hN (by decide)) hu32 rfl dX12_readBody_92 ?_
          refine k_if_eq hC 99 dX12_readBody_95 rfl (by omega) (fun c_95 => absurd c_95 (by omega)) (fun c_95 => ?_)
          have h_34 : w32 135 = lA G 93 D := (hf32 135 (by decide)).trans h_29
          subst hQ
          exact k_vret hC hr ⟨by decide, by decide⟩ (⟨rfl, rfl, ⟨_, hu32, (by have e : st_33 = clBodyS bt n D st := (by unfold clBodyS; rw [selP_0 (by omega), ← est_14]; have hbb : bdB bt n D st_14 = st_33 := (by unfold bdB; rw [selP_1 ⟨by omega, by omega, by omega⟩, selP_0 (by omega)]; exact est_33.symm); rw [hbb, adP_e (by omega), sgP_e (by omega), tkP_e (by omega)]); rw [← e]; exact hKr32), (uS.tr (uS.tr (uS.tr (uS.tr (fun j _ => rfl) hs11) hs12) hs27) hs32)⟩, ⟨⟨_, h_34⟩, fun hc => absurd hc (by have hq : st_33 = clBodyS bt n D st := (by unfold clBodyS; rw [selP_0 (by omega), ← est_14]; have hbb : bdB bt n D st_14 = st_33 := (by unfold bdB; rw [selP_1 ⟨by omega, by omega, by omega⟩, selP_0 (by omega)]; exact est_33.symm); rw [hbb, adP_e (by omega), sgP_e (by omega), tkP_e (by omega)]); rw [← hq]; omega)⟩, fun j hj => (hf32 j (by omega)).trans ((hf27 j (by omega)).trans ((hf12 j (by omega)).trans (hf11 j (by omega))))⟩) dX12_readBody_98
        · refine k_iconst hC dX12_readBody_82 ?_
          refine k_goto hC 87 dX12_readBody_83 rfl ?_
          refine k_iconst hC dX12_readBody_87 ?_
          refine k_muvV hC (c_X12_check1 l hls G hN w27 fl u27 bt n st_14 4 (by omega) hn7 hb hu27 h_30 hKr27) yy_X12_check wm_X12_413 (kl hN (by decide)) hu27 rfl rfl rfl rfl (Nat.le_of_ble_eq_true rfl) (by decide) (by decide) ⟨by decide, by decide⟩ dX12_readBody_88 (fun w35 hp35 => ?_)
          obtain ⟨hT35, hf35⟩ := hp35
          obtain ⟨u35, hu35, hKr35, hs35⟩ := hT35
          have h18r35 := hKr35.1
          have h22r35 := hKr35.2.1
          have hrgr35 := hKr35.2.2.1
          have hcbr35 := hKr35.cb
          have hzzr35 : st_14.1 = 0 := by omega
          have hq0r35 := hKr35.2.2.2.1 hzzr35
          have henr35 := enM_b (bt := bt) hq0r35.2.2.2
          refine k_aload_n hC dX12_readBody_91 rfl 0 rfl ?_
          refine k_get hC fd_X12_386 (kl hN (by decide)) hu35 rfl dX12_readBody_92 ?_
          refine k_topv (vI 0) (congrArg vI (by omega)) ?_
          refine k_if_eq hC 99 dX12_readBody_95 rfl (by omega) (fun c_95 => ?_) (fun c_95 => absurd c_95 (by omega))
          refine k_bipush hC dX12_readBody_99 (by decide) ?_
          refine k_iconst hC dX12_readBody_101 ?_
          refine k_aload_n hC dX12_readBody_102 rfl 0 rfl ?_
          refine k_get hC fd_X12_13 (kl hN (by decide)) hu35 rfl dX12_readBody_103 ?_
          refine k_iconst hC dX12_readBody_106 ?_
          have h_36 : w35 135 = lA G 93 D := (hf35 135 (by decide)).trans h_29
          refine k_lald hC (kl hN (by decide)) h_36 (by omega) (by decide) dX12_readBody_107 ?_
          refine k_topv (vL (D 0)) rfl ?_
          obtain ⟨kz, ekz⟩ : ∃ z : Nat, D 0 = (z : Int) := ⟨(D 0).toNat, by omega⟩
          refine k_l2i hC dX12_readBody_108 ?_
          refine k_topv (vI ((kz : Int))) (congrArg vI (by omega)) ?_
          refine k_imul hC dX12_readBody_109 ?_
          refine k_iadd hC dX12_readBody_110 ?_
          refine k_topv (vI (((9 + 4 * kz : Nat) : Int))) (congrArg vI (by omega)) ?_
          refine k_istore_n hC [(1, vI ((9 + 4 * kz : Nat) : Int)), (0, .ref (kad G 133))] dX12_readBody_111 rfl (by decide) rfl ?_
          refine k_aload_n hC dX12_readBody_112 rfl 1 rfl ?_
          refine k_get hC fd_X12_13 (kl hN (by decide)) hu35 rfl dX12_readBody_113 ?_
          refine k_iload_n hC dX12_readBody_116 rfl 0 rfl ?_
          refine k_iconst hC dX12_readBody_117 ?_
          refine k_iadd hC dX12_readBody_118 ?_
          refine k_topv (vI (((12 + 4 * kz : Nat) : Int))) (congrArg vI (by omega)) ?_
          refine k_aload_n hC dX12_readBody_119 rfl 1 rfl ?_
          have h_37 : w35 144 = iA G 700 bt := (hf35 144 (by decide)).trans h_30
          refine k_pureV hC (c_X12_nameHere l hls G hN w35 fl u35 bt n st_14 ⟨by omega, by omega, by omega⟩ hn7 hb hu35 h_37 hKr35) yy_X12_nameHere wm_X12_432 (kl hN (by decide)) hu35 rfl rfl rfl rfl (Nat.le_of_ble_eq_true rfl) (by decide) (by decide) ⟨by decide, by decide⟩ dX12_readBody_120 ?_
          have hnb_38 := nmM_b (bt := bt) (n := n) (s := st_14.2.2) (by omega) (by omega)
          refine k_last hC (kl hN (by decide)) h_36 (by omega) (by decide) dX12_readBody_123 (fun w39 hw39 hf39 => ?_)
          refine k_aload_n hC dX12_readBody_124 rfl 1 rfl ?_
          have h_40 : w39 133 = .inr (12, [.ref (kad G 134), .ref (kad G 135), .ref (kad G 136), .ref (kad G 137), vI (u35 4), vI (u35 5), vI (u35 6), .ref (kad G 138), .ref (kad G 139), .ref (kad G 140), .ref (kad G 141), .ref (kad G 142), vL (u35 12), vL (u35 13), .ref (kad G 143), vI (u35 15), .ref (kad G 144), vI (u35 17), vI (u35 18), vI (u35 19), vI (u35 20), vI (u35 21), vI (u35 22), vI (u35 23), vI (u35 24), vI (u35 25), .ref (kad G 145), .ref (kad G 146), .ref (kad G 147), vI (u35 29)]) := (hf39 133 (by decide)).trans hu35
          refine k_get hC fd_X12_13 (kl hN (by decide)) h_40 rfl dX12_readBody_125 ?_
          refine k_iload_n hC dX12_readBody_128 rfl 0 rfl ?_
          refine k_iconst hC dX12_readBody_129 ?_
          refine k_iadd hC dX12_readBody_130 ?_
          refine k_topv (vI (((11 + 4 * kz : Nat) : Int))) (congrArg vI (by omega)) ?_
          refine k_aload_n hC dX12_readBody_131 rfl 1 rfl ?_
          refine k_get hC fd_X12_371 (kl hN (by decide)) h_40 rfl dX12_readBody_132 ?_
          refine k_aload_n hC dX12_readBody_135 rfl 1 rfl ?_
          refine k_get hC fd_X12_374 (kl hN (by decide)) h_40 rfl dX12_readBody_136 ?_
          refine k_isub hC dX12_readBody_139 ?_
          refine k_i2l hC dX12_readBody_140 (by omega) ?_
          refine k_last hC (kl hN (by decide)) hw39 (by omega) (by decide) dX12_readBody_141 (fun w41 hw41 hf41 => ?_)
          refine k_aload_n hC dX12_readBody_142 rfl 1 rfl ?_
          have h_43 : w41 133 = .inr (12, [.ref (kad G 134), .ref (kad G 135), .ref (kad G 136), .ref (kad G 137), vI (u35 4), vI (u35 5), vI (u35 6), .ref (kad G 138), .ref (kad G 139), .ref (kad G 140), .ref (kad G 141), .ref (kad G 142), vL (u35 12), vL (u35 13), .ref (kad G 143), vI (u35 15), .ref (kad G 144), vI (u35 17), vI (u35 18), vI (u35 19), vI (u35 20), vI (u35 21), vI (u35 22), vI (u35 23), vI (u35 24), vI (u35 25), .ref (kad G 145), .ref (kad G 146), .ref (kad G 147), vI (u35 29)]) := (hf41 133 (by decide)).trans h_40
          have h_44 : w41 144 = iA G 700 bt := (hf41 144 (by decide)).trans ((hf39 144 (by decide)).trans h_37)
          refine k_muvV hC (c_X12_advance l hls G hN w41 fl u35 bt n st_14  hn7 hb h_43 h_44 hKr35) yy_X12_advance wm_X12_417 (kl hN (by decide)) h_43 rfl rfl rfl rfl (Nat.le_of_ble_eq_true rfl) (by decide) (by decide) ⟨by decide, by decide⟩ dX12_readBody_143 (fun w42 hp42 => ?_)
          obtain ⟨hT42, hf42⟩ := hp42
          obtain ⟨u42, hu42, hKr42, hs42⟩ := hT42
          obtain ⟨st_45, est_45⟩ : ∃ z : PS, z = adP bt n st_14 := ⟨_, rfl⟩
          rw [← est_45] at hKr42
          have h18r42 := hKr42.1
          have h22r42 := hKr42.2.1
          have hrgr42 := hKr42.2.2.1
          have hcbr42 := hKr42.cb
          have hzir42 : st_45.1 = 0 := by rw [est_45]; exact ad_c.mpr (by omega)
          have hzzr42 : st_45.1 = 0 := by omega
          have hq0r42 := hKr42.2.2.2.1 hzzr42
          have henr42 := enM_b (bt := bt) hq0r42.2.2.2
          refine k_aload_n hC dX12_readBody_146 rfl 1 rfl ?_
          refine k_get hC fd_X12_13 (kl hN (by decide)) hu42 rfl dX12_readBody_147 ?_
          refine k_iload_n hC dX12_readBody_150 rfl 0 rfl ?_
          refine k_iconst hC dX12_readBody_151 ?_
          refine k_iadd hC dX12_readBody_152 ?_
          refine k_topv (vI (((9 + 4 * kz : Nat) : Int))) (congrArg vI (by omega)) ?_
          refine k_aload_n hC dX12_readBody_153 rfl 1 rfl ?_
          refine k_sipush hC dX12_readBody_154 (by decide) ?_
          have h_47 : w42 144 = iA G 700 bt := (hf42 144 (by decide)).trans h_44
          refine k_mutV hC (c_X12_readSigned l hls G hN w42 fl u42 bt n st_45 3600 (by omega) hn7 hb hu42 h_47 hKr42) yy_X12_readSigned wm_X12_442 (kl hN (by decide)) hu42 rfl rfl rfl rfl (Nat.le_of_ble_eq_true rfl) (by decide) (by decide) ⟨by decide, by decide⟩ dX12_readBody_157 (fun w46 hp46 => ?_)
          obtain ⟨hT46, hf46⟩ := hp46
          have hnv_48 := rsV_b (bt := bt) (n := n) (m := 3600) (st := st_45) (by omega)
          obtain ⟨u46, hu46, hKr46, hs46⟩ := hT46
          obtain ⟨st_49, est_49⟩ : ∃ z : PS, z = sgP bt n 3600 st_45 := ⟨_, rfl⟩
          rw [← est_49] at hKr46
          have h18r46 := hKr46.1
          have h22r46 := hKr46.2.1
          have hrgr46 := hKr46.2.2.1
          have hcbr46 := hKr46.cb
          refine k_i2l hC dX12_readBody_160 (by omega) ?_
          have h_50 : w46 135 = lA G 93 (kup (kup D (((12 + 4 * kz : Nat) : Int)).toNat (nmM bt n st_14.2.2)) (((11 + 4 * kz : Nat) : Int)).toNat ((u35 19) - (u35 20))) := (hf46 135 (by decide)).trans ((hf42 135 (by decide)).trans hw41)
          refine k_last hC (kl hN (by decide)) h_50 (by omega) (by decide) dX12_readBody_161 (fun w51 hw51 hf51 => ?_)
          refine k_aload_n hC dX12_readBody_162 rfl 1 rfl ?_
          have h_52 : w51 133 = .inr (12, [.ref (kad G 134), .ref (kad G 135), .ref (kad G 136), .ref (kad G 137), vI (u46 4), vI (u46 5), vI (u46 6), .ref (kad G 138), .ref (kad G 139), .ref (kad G 140), .ref (kad G 141), .ref (kad G 142), vL (u46 12), vL (u46 13), .ref (kad G 143), vI (u46 15), .ref (kad G 144), vI (u46 17), vI (u46 18), vI (u46 19), vI (u46 20), vI (u46 21), vI (u46 22), vI (u46 23), vI (u46 24), vI (u46 25), .ref (kad G 145), .ref (kad G 146), .ref (kad G 147), vI (u46 29)]) := (hf51 133 (by decide)).trans hu46
          refine k_get hC fd_X12_13 (kl hN (by decide)) h_52 rfl dX12_readBody_163 ?_
          refine k_iload_n hC dX12_readBody_166 rfl 0 rfl ?_
          refine k_iconst hC dX12_readBody_167 ?_
          refine k_iadd hC dX12_readBody_168 ?_
          refine k_topv (vI (((10 + 4 * kz : Nat) : Int))) (congrArg vI (by omega)) ?_
          refine k_aload_n hC dX12_readBody_169 rfl 1 rfl ?_
          refine k_iconst hC dX12_readBody_170 ?_
          refine k_sipush hC dX12_readBody_171 (by decide) ?_
          have h_54 : w51 144 = iA G 700 bt := (hf51 144 (by decide)).trans ((hf46 144 (by decide)).trans h_47)
          refine k_mutV hC (c_X12_readNumber l hls G hN w51 fl u46 bt n st_49 0 21599 (by omega) (by omega) hn7 hb h_52 h_54 hKr46) yy_X12_readNumber wm_X12_435 (kl hN (by decide)) h_52 rfl rfl rfl rfl (Nat.le_of_ble_eq_true rfl) (by decide) (by decide) ⟨by decide, by decide⟩ dX12_readBody_174 (fun w53 hp53 => ?_)
          obtain ⟨hT53, hf53⟩ := hp53
          have hnv_55 := rnV_b (bt := bt) (n := n) (lo := 0) (hi := 21599) (st := st_49) (by omega)
          obtain ⟨u53, hu53, hKr53, hs53⟩ := hT53
          obtain ⟨st_56, est_56⟩ : ∃ z : PS, z = tkP bt n 0 21599 st_49 := ⟨_, rfl⟩
          rw [← est_56] at hKr53
          have h18r53 := hKr53.1
          have h22r53 := hKr53.2.1
          have hrgr53 := hKr53.2.2.1
          have hcbr53 := hKr53.cb
          refine k_i2l hC dX12_readBody_177 (by omega) ?_
          have h_57 : w53 135 = lA G 93 (kup (kup (kup D (((12 + 4 * kz : Nat) : Int)).toNat (nmM bt n st_14.2.2)) (((11 + 4 * kz : Nat) : Int)).toNat ((u35 19) - (u35 20))) (((9 + 4 * kz : Nat) : Int)).toNat (rsV bt n 3600 st_45)) := (hf53 135 (by decide)).trans hw51
          refine k_last hC (kl hN (by decide)) h_57 (by omega) (by decide) dX12_readBody_178 (fun w58 hw58 hf58 => ?_)
          refine k_aload_n hC dX12_readBody_179 rfl 1 rfl ?_
          have h_59 : w58 133 = .inr (12, [.ref (kad G 134), .ref (kad G 135), .ref (kad G 136), .ref (kad G 137), vI (u53 4), vI (u53 5), vI (u53 6), .ref (kad G 138), .ref (kad G 139), .ref (kad G 140), .ref (kad G 141), .ref (kad G 142), vL (u53 12), vL (u53 13), .ref (kad G 143), vI (u53 15), .ref (kad G 144), vI (u53 17), vI (u53 18), vI (u53 19), vI (u53 20), vI (u53 21), vI (u53 22), vI (u53 23), vI (u53 24), vI (u53 25), .ref (kad G 145), .ref (kad G 146), .ref (kad G 147), vI (u53 29)]) := (hf58 133 (by decide)).trans hu53
          refine k_get hC fd_X12_13 (kl hN (by decide)) h_59 rfl dX12_readBody_180 ?_
          refine k_iconst hC dX12_readBody_183 ?_
          refine k_dup2 hC dX12_readBody_184 rfl rfl ?_
          refine k_lald hC (kl hN (by decide)) hw58 (by omega) (by decide) dX12_readBody_185 ?_
          refine k_topv (vL ((kup (kup (kup (kup D (((12 + 4 * kz : Nat) : Int)).toNat (nmM bt n st_14.2.2)) (((11 + 4 * kz : Nat) : Int)).toNat ((u35 19) - (u35 20))) (((9 + 4 * kz : Nat) : Int)).toNat (rsV bt n 3600 st_45)) (((10 + 4 * kz : Nat) : Int)).toNat (rnV bt n 0 21599 st_49)) (0 : Nat))) rfl ?_
          refine k_topv (vL (D 0)) (congrArg vL (by simp only [kup]; repeat (first | omega | rfl | split))) ?_
          refine k_lconst (x := 1) hC dX12_readBody_186 (by decide) ?_
          refine k_ladd hC dX12_readBody_187 ?_
          refine k_last hC (kl hN (by decide)) hw58 (by omega) (by decide) dX12_readBody_188 (fun w60 hw60 hf60 => ?_)
          have h_61 : w60 133 = .inr (12, [.ref (kad G 134), .ref (kad G 135), .ref (kad G 136), .ref (kad G 137), vI (u53 4), vI (u53 5), vI (u53 6), .ref (kad G 138), .ref (kad G 139), .ref (kad G 140), .ref (kad G 141), .ref (kad G 142), vL (u53 12), vL (u53 13), .ref (kad G 143), vI (u53 15), .ref (kad G 144), vI (u53 17), vI (u53 18), vI (u53 19), vI (u53 20), vI (u53 21), vI (u53 22), vI (u53 23), vI (u53 24), vI (u53 25), .ref (kad G 145), .ref (kad G 146), .ref (kad G 147), vI (u53 29)]) := (hf60 133 (by decide)).trans h_59
          subst hQ
          exact k_vret hC hr ⟨by decide, by decide⟩ (⟨rfl, rfl, ⟨_, h_61, (by have e : st_56 = clBodyS bt n D st := (by unfold clBodyS; rw [selP_0 (by omega), ← est_14]; have hbb : bdB bt n D st_14 = st_14 := (by unfold bdB; rw [selP_1 ⟨by omega, by omega, by omega⟩, selP_1 (by omega)]); rw [hbb, ← est_45, ← est_49]; exact est_56); rw [← e]; exact hKr53), (uS.tr (uS.tr (uS.tr (uS.tr (uS.tr (uS.tr (uS.tr (fun j _ => rfl) hs11) hs12) hs27) hs35) hs42) hs46) hs53)⟩, ⟨⟨_, hw60⟩, fun hc => hw60.trans (by have hq : st_56 = clBodyS bt n D st := (by unfold clBodyS; rw [selP_0 (by omega), ← est_14]; have hbb : bdB bt n D st_14 = st_14 := (by unfold bdB; rw [selP_1 ⟨by omega, by omega, by omega⟩, selP_1 (by omega)]); rw [hbb, ← est_45, ← est_49]; exact est_56); rw [← hq] at hc; unfold clBodyD; rw [← est_14]; have hbb : bdB bt n D st_14 = st_14 := (by unfold bdB; rw [selP_1 ⟨by omega, by omega, by omega⟩, selP_1 (by omega)]); have hx1 : st_49.1 = 0 := (by have h := hc; rw [est_56] at h; exact tkok h); rw [hbb, ← est_45, ← est_49, ← rsV_0 (m := 3600) (st := st_45) (by rw [← est_49]; exact hx1), ← rnV_0 (lo := 0) (hi := 21599) (st := st_49) (by rw [← est_56]; exact hc)]; exact lA_congr (fun j hj => by simp only [kup, bodyD]; repeat (first | omega | rfl | split)))⟩, fun j hj => (hf60 j (by omega)).trans ((hf58 j (by omega)).trans ((hf53 j (by omega)).trans ((hf51 j (by omega)).trans ((hf46 j (by omega)).trans ((hf42 j (by omega)).trans ((hf41 j (by omega)).trans ((hf39 j (by omega)).trans ((hf35 j (by omega)).trans ((hf27 j (by omega)).trans ((hf12 j (by omega)).trans (hf11 j (by omega))))))))))))⟩) dX12_readBody_189

set_option maxRecDepth 100000 in
set_option maxHeartbeats 4000000 in
theorem c_X12_readLeg (l : Launch) (hls : l.stackTraces = false) (G : kG) (hN : kN G = 150) (w : Nat → va_E) (fl : va_W) (u bt : Nat → Int) (n : Nat) (st : PS) (D : Nat → Int) (hz0 : st.1 = 0) (hI : Inv D) (hNb : NmB D) (hn7 : n ≤ 700) (hb : btOK bt) (hm : w 133 = mdO G u) (h144 : w 144 = iA G 700 bt) (hK : mkR u bt n st) (h135 : w 135 = lA G 93 D) : KM l G yX12_readLeg cX12_readLeg 4 (none) 5 0 0 [.ref (kad G 133)] w fl (kMuv fl (fun w1 => rT G u bt n (clLegS bt n D st) w1 ∧ ((∃ D1, w1 135 = lA G 93 D1) ∧ ((clLegS bt n D st).1 = 0 → w1 135 = lA G 93 (clLegD bt n D st))) ∧ ∀ j, (j ≠ 133 ∧ j ≠ 135) → w1 j = w j)) := by
  refine KM_of2 hls (by decide +kernel) rfl (lv0 := [(0, .ref (kad G 133))]) rfl (Nat.le_of_ble_eq_true rfl) (fun p e R s m args below meth c Q hC hr hQ => ?_)
  have h18 := hK.1
  have h22 := hK.2.1
  have hrg := hK.2.2.1
  have hcb := hK.cb
  have h0 := hI.c
  have hzz : st.1 = 0 := by omega
  have hq0 := hK.2.2.2.1 hzz
  have hen := enM_b (bt := bt) hq0.2.2.2
  refine k_aload_n hC dX12_readLeg_0 rfl 0 rfl ?_
  refine k_aload_n hC dX12_readLeg_1 rfl 0 rfl ?_
  refine k_get hC fd_X12_13 (kl hN (by decide)) hm rfl dX12_readLeg_2 ?_
  refine k_iconst hC dX12_readLeg_5 ?_
  refine k_lald hC (kl hN (by decide)) h135 (by omega) (by decide) dX12_readLeg_6 ?_
  refine k_topv (vL (D 1)) rfl ?_
  refine k_ldc2 hC (x := 8) (v := 8) dX12_readLeg_7 (by decide) wk_X12_251 ?_
  refine k_lcmp_ge hC 18 dX12_readLeg_10 dX12_readLeg_11 rfl (by omega) (by omega) (fun c_10 => ?_) (fun c_10 => ?_)
  · refine k_iconst hC dX12_readLeg_18 ?_
    refine k_iconst hC dX12_readLeg_19 ?_
    refine k_muvV hC (c_X12_check0 l hls G hN w fl u bt n st 3 (by omega) hn7 hb hm h144 hK) yy_X12_check wm_X12_413 (kl hN (by decide)) hm rfl rfl rfl rfl (Nat.le_of_ble_eq_true rfl) (by decide) (by decide) ⟨by decide, by decide⟩ dX12_readLeg_20 (fun w1 hp1 => ?_)
    obtain ⟨hT1, hf1⟩ := hp1
    obtain ⟨u1, hu1, hKr1, hs1⟩ := hT1
    obtain ⟨st_2, est_2⟩ : ∃ z : PS, z = flP 3 st := ⟨_, rfl⟩
    rw [← est_2] at hKr1
    have h18r1 := hKr1.1
    have h22r1 := hKr1.2.1
    have hrgr1 := hKr1.2.2.1
    have hcbr1 := hKr1.cb
    have hzzr1 : st_2.1 ≠ 0 := by rw [est_2]; exact fl_c (by omega)
    refine k_aload_n hC dX12_readLeg_23 rfl 0 rfl ?_
    have h_4 : w1 144 = iA G 700 bt := (hf1 144 (by decide)).trans h144
    refine k_muvV hC (c_X12_advance l hls G hN w1 fl u1 bt n st_2  hn7 hb hu1 h_4 hKr1) yy_X12_advance wm_X12_417 (kl hN (by decide)) hu1 rfl rfl rfl rfl (Nat.le_of_ble_eq_true rfl) (by decide) (by decide) ⟨by decide, by decide⟩ dX12_readLeg_24 (fun w3 hp3 => ?_)
    obtain ⟨hT3, hf3⟩ := hp3
    obtain ⟨u3, hu3, hKr3, hs3⟩ := hT3
    obtain ⟨st_5, est_5⟩ : ∃ z : PS, z = adP bt n st_2 := ⟨_, rfl⟩
    rw [← est_5] at hKr3
    have h18r3 := hKr3.1
    have h22r3 := hKr3.2.1
    have hrgr3 := hKr3.2.2.1
    have hcbr3 := hKr3.cb
    have hzzr3 : st_5.1 ≠ 0 := by rw [est_5, adP_e (by omega)]; omega
    refine k_aload_n hC dX12_readLeg_27 rfl 0 rfl ?_
    refine k_aload_n hC dX12_readLeg_28 rfl 0 rfl ?_
    refine k_get hC fd_X12_386 (kl hN (by decide)) hu3 rfl dX12_readLeg_29 ?_
    refine k_if_ne hC 43 dX12_readLeg_32 rfl (by omega) (fun c_32 => ?_) (fun c_32 => absurd c_32 (by omega))
    refine k_iconst hC dX12_readLeg_43 ?_
    refine k_goto hC 48 dX12_readLeg_44 rfl ?_
    refine k_iconst hC dX12_readLeg_48 ?_
    have h_7 : w3 144 = iA G 700 bt := (hf3 144 (by decide)).trans h_4
    refine k_muvV hC (c_X12_check1 l hls G hN w3 fl u3 bt n st_5 1 (by omega) hn7 hb hu3 h_7 hKr3) yy_X12_check wm_X12_413 (kl hN (by decide)) hu3 rfl rfl rfl rfl (Nat.le_of_ble_eq_true rfl) (by decide) (by decide) ⟨by decide, by decide⟩ dX12_readLeg_49 (fun w6 hp6 => ?_)
    obtain ⟨hT6, hf6⟩ := hp6
    obtain ⟨u6, hu6, hKr6, hs6⟩ := hT6
    have h18r6 := hKr6.1
    have h22r6 := hKr6.2.1
    have hrgr6 := hKr6.2.2.1
    have hcbr6 := hKr6.cb
    have hzzr6 : st_5.1 ≠ 0 := by omega
    refine k_aload_n hC dX12_readLeg_52 rfl 0 rfl ?_
    refine k_aload_n hC dX12_readLeg_53 rfl 0 rfl ?_
    refine k_get hC fd_X12_386 (kl hN (by decide)) hu6 rfl dX12_readLeg_54 ?_
    refine k_if_ne hC 75 dX12_readLeg_57 rfl (by omega) (fun c_57 => ?_) (fun c_57 => absurd c_57 (by omega))
    refine k_iconst hC dX12_readLeg_75 ?_
    refine k_goto hC 80 dX12_readLeg_76 rfl ?_
    refine k_iconst hC dX12_readLeg_80 ?_
    have h_9 : w6 144 = iA G 700 bt := (hf6 144 (by decide)).trans h_7
    refine k_muvV hC (c_X12_check1 l hls G hN w6 fl u6 bt n st_5 2 (by omega) hn7 hb hu6 h_9 hKr6) yy_X12_check wm_X12_413 (kl hN (by decide)) hu6 rfl rfl rfl rfl (Nat.le_of_ble_eq_true rfl) (by decide) (by decide) ⟨by decide, by decide⟩ dX12_readLeg_81 (fun w8 hp8 => ?_)
    obtain ⟨hT8, hf8⟩ := hp8
    obtain ⟨u8, hu8, hKr8, hs8⟩ := hT8
    have h18r8 := hKr8.1
    have h22r8 := hKr8.2.1
    have hrgr8 := hKr8.2.2.1
    have hcbr8 := hKr8.cb
    have hzzr8 : st_5.1 ≠ 0 := by omega
    refine k_aload_n hC dX12_readLeg_84 rfl 0 rfl ?_
    refine k_aload_n hC dX12_readLeg_85 rfl 0 rfl ?_
    refine k_get hC fd_X12_386 (kl hN (by decide)) hu8 rfl dX12_readLeg_86 ?_
    refine k_if_ne hC 131 dX12_readLeg_89 rfl (by omega) (fun c_89 => ?_) (fun c_89 => absurd c_89 (by omega))
    refine k_iconst hC dX12_readLeg_131 ?_
    refine k_goto hC 136 dX12_readLeg_132 rfl ?_
    refine k_iconst hC dX12_readLeg_136 ?_
    have h_11 : w8 144 = iA G 700 bt := (hf8 144 (by decide)).trans h_9
    refine k_muvV hC (c_X12_check1 l hls G hN w8 fl u8 bt n st_5 5 (by omega) hn7 hb hu8 h_11 hKr8) yy_X12_check wm_X12_413 (kl hN (by decide)) hu8 rfl rfl rfl rfl (Nat.le_of_ble_eq_true rfl) (by decide) (by decide) ⟨by decide, by decide⟩ dX12_readLeg_137 (fun w10 hp10 => ?_)
    obtain ⟨hT10, hf10⟩ := hp10
    obtain ⟨u10, hu10, hKr10, hs10⟩ := hT10
    have h18r10 := hKr10.1
    have h22r10 := hKr10.2.1
    have hrgr10 := hKr10.2.2.1
    have hcbr10 := hKr10.cb
    have hzzr10 : st_5.1 ≠ 0 := by omega
    refine k_aload_n hC dX12_readLeg_140 rfl 0 rfl ?_
    refine k_get hC fd_X12_386 (kl hN (by decide)) hu10 rfl dX12_readLeg_141 ?_
    refine k_if_ne hC 158 dX12_readLeg_144 rfl (by omega) (fun c_144 => ?_) (fun c_144 => absurd c_144 (by omega))
    refine k_iconst hC dX12_readLeg_158 ?_
    refine k_istore_n hC [(1, vI 0), (0, .ref (kad G 133))] dX12_readLeg_159 rfl (by decide) rfl ?_
    refine k_aload_n hC dX12_readLeg_160 rfl 1 rfl ?_
    refine k_iconst hC dX12_readLeg_161 ?_
    refine k_sipush hC dX12_readLeg_162 (by decide) ?_
    have h_13 : w10 144 = iA G 700 bt := (hf10 144 (by decide)).trans h_11
    refine k_mutV hC (c_X12_readNumber l hls G hN w10 fl u10 bt n st_5 0 21599 (by omega) (by omega) hn7 hb hu10 h_13 hKr10) yy_X12_readNumber wm_X12_435 (kl hN (by decide)) hu10 rfl rfl rfl rfl (Nat.le_of_ble_eq_true rfl) (by decide) (by decide) ⟨by decide, by decide⟩ dX12_readLeg_165 (fun w12 hp12 => ?_)
    obtain ⟨hT12, hf12⟩ := hp12
    have hnv_14 := rnV_b (bt := bt) (n := n) (lo := 0) (hi := 21599) (st := st_5) (by omega)
    obtain ⟨u12, hu12, hKr12, hs12⟩ := hT12
    obtain ⟨st_15, est_15⟩ : ∃ z : PS, z = tkP bt n 0 21599 st_5 := ⟨_, rfl⟩
    rw [← est_15] at hKr12
    have h18r12 := hKr12.1
    have h22r12 := hKr12.2.1
    have hrgr12 := hKr12.2.2.1
    have hcbr12 := hKr12.cb
    have hzzr12 : st_15.1 ≠ 0 := by rw [est_15, tkP_e (by omega)]; omega
    refine k_istore_n hC [(2, vI (rnV bt n 0 21599 st_5)), (1, vI 0), (0, .ref (kad G 133))] dX12_readLeg_168 rfl (by decide) rfl ?_
    refine k_aload_n hC dX12_readLeg_169 rfl 2 rfl ?_
    refine k_iconst hC dX12_readLeg_170 ?_
    refine k_sipush hC dX12_readLeg_171 (by decide) ?_
    have h_17 : w12 144 = iA G 700 bt := (hf12 144 (by decide)).trans h_13
    refine k_mutV hC (c_X12_readNumber l hls G hN w12 fl u12 bt n st_15 0 400 (by omega) (by omega) hn7 hb hu12 h_17 hKr12) yy_X12_readNumber wm_X12_435 (kl hN (by decide)) hu12 rfl rfl rfl rfl (Nat.le_of_ble_eq_true rfl) (by decide) (by decide) ⟨by decide, by decide⟩ dX12_readLeg_174 (fun w16 hp16 => ?_)
    obtain ⟨hT16, hf16⟩ := hp16
    have hnv_18 := rnV_b (bt := bt) (n := n) (lo := 0) (hi := 400) (st := st_15) (by omega)
    obtain ⟨u16, hu16, hKr16, hs16⟩ := hT16
    obtain ⟨st_19, est_19⟩ : ∃ z : PS, z = tkP bt n 0 400 st_15 := ⟨_, rfl⟩
    rw [← est_19] at hKr16
    have h18r16 := hKr16.1
    have h22r16 := hKr16.2.1
    have hrgr16 := hKr16.2.2.1
    have hcbr16 := hKr16.cb
    have hzzr16 : st_19.1 ≠ 0 := by rw [est_19, tkP_e (by omega)]; omega
    refine k_istore_n hC [(3, vI (rnV bt n 0 400 st_15)), (2, vI (rnV bt n 0 21599 st_5)), (1, vI 0), (0, .ref (kad G 133))] dX12_readLeg_177 rfl (by decide) rfl ?_
    refine k_aload_n hC dX12_readLeg_178 rfl 3 rfl ?_
    refine k_get hC fd_X12_386 (kl hN (by decide)) hu16 rfl dX12_readLeg_179 ?_
    refine k_if_ne hC 198 dX12_readLeg_182 rfl (by omega) (fun c_182 => ?_) (fun c_182 => absurd c_182 (by omega))
    have h_20 : w16 135 = lA G 93 D := (hf16 135 (by decide)).trans ((hf12 135 (by decide)).trans ((hf10 135 (by decide)).trans ((hf8 135 (by decide)).trans ((hf6 135 (by decide)).trans ((hf3 135 (by decide)).trans ((hf1 135 (by decide)).trans h135))))))
    subst hQ
    exact k_vret hC hr ⟨by decide, by decide⟩ (⟨rfl, rfl, ⟨_, hu16, (by have e : st_19 = clLegS bt n D st := (by unfold clLegS; rw [selP_1 (by omega), ← est_2]; rw [est_19, tkP_e (by omega), est_15, tkP_e (by omega), est_5, adP_e (by omega)]); rw [← e]; exact hKr16), (uS.tr (uS.tr (uS.tr (uS.tr (uS.tr (uS.tr (uS.tr (fun j _ => rfl) hs1) hs3) hs6) hs8) hs10) hs12) hs16)⟩, ⟨⟨_, h_20⟩, fun hc => absurd hc (by have hq : st_19 = clLegS bt n D st := (by unfold clLegS; rw [selP_1 (by omega), ← est_2]; rw [est_19, tkP_e (by omega), est_15, tkP_e (by omega), est_5, adP_e (by omega)]); rw [← hq]; omega)⟩, fun j hj => (hf16 j (by omega)).trans ((hf12 j (by omega)).trans ((hf10 j (by omega)).trans ((hf8 j (by omega)).trans ((hf6 j (by omega)).trans ((hf3 j (by omega)).trans (hf1 j (by omega)))))))⟩) dX12_readLeg_198
  · refine k_iconst hC dX12_readLeg_14 ?_
    refine k_goto hC 19 dX12_readLeg_15 rfl ?_
    refine k_iconst hC dX12_readLeg_19 ?_
    refine k_muvV hC (c_X12_check1 l hls G hN w fl u bt n st 3 (by omega) hn7 hb hm h144 hK) yy_X12_check wm_X12_413 (kl hN (by decide)) hm rfl rfl rfl rfl (Nat.le_of_ble_eq_true rfl) (by decide) (by decide) ⟨by decide, by decide⟩ dX12_readLeg_20 (fun w21 hp21 => ?_)
    obtain ⟨hT21, hf21⟩ := hp21
    obtain ⟨u21, hu21, hKr21, hs21⟩ := hT21
    have h18r21 := hKr21.1
    have h22r21 := hKr21.2.1
    have hrgr21 := hKr21.2.2.1
    have hcbr21 := hKr21.cb
    have hzzr21 : st.1 = 0 := by omega
    have hq0r21 := hKr21.2.2.2.1 hzzr21
    have henr21 := enM_b (bt := bt) hq0r21.2.2.2
    refine k_aload_n hC dX12_readLeg_23 rfl 0 rfl ?_
    have h_23 : w21 144 = iA G 700 bt := (hf21 144 (by decide)).trans h144
    refine k_muvV hC (c_X12_advance l hls G hN w21 fl u21 bt n st  hn7 hb hu21 h_23 hKr21) yy_X12_advance wm_X12_417 (kl hN (by decide)) hu21 rfl rfl rfl rfl (Nat.le_of_ble_eq_true rfl) (by decide) (by decide) ⟨by decide, by decide⟩ dX12_readLeg_24 (fun w22 hp22 => ?_)
    obtain ⟨hT22, hf22⟩ := hp22
    obtain ⟨u22, hu22, hKr22, hs22⟩ := hT22
    obtain ⟨st_24, est_24⟩ : ∃ z : PS, z = adP bt n st := ⟨_, rfl⟩
    rw [← est_24] at hKr22
    have h18r22 := hKr22.1
    have h22r22 := hKr22.2.1
    have hrgr22 := hKr22.2.2.1
    have hcbr22 := hKr22.cb
    have hzir22 : st_24.1 = 0 := by rw [est_24]; exact ad_c.mpr (by omega)
    have hzzr22 : st_24.1 = 0 := by omega
    have hq0r22 := hKr22.2.2.2.1 hzzr22
    have henr22 := enM_b (bt := bt) hq0r22.2.2.2
    refine k_aload_n hC dX12_readLeg_27 rfl 0 rfl ?_
    refine k_aload_n hC dX12_readLeg_28 rfl 0 rfl ?_
    refine k_get hC fd_X12_386 (kl hN (by decide)) hu22 rfl dX12_readLeg_29 ?_
    refine k_topv (vI 0) (congrArg vI (by omega)) ?_
    refine k_if_ne hC 43 dX12_readLeg_32 rfl (by omega) (fun c_32 => absurd c_32 (by omega)) (fun c_32 => ?_)
    refine k_aload_n hC dX12_readLeg_35 rfl 0 rfl ?_
    refine k_get hC fd_X12_377 (kl hN (by decide)) hu22 rfl dX12_readLeg_36 ?_
    refine k_iconst hC dX12_readLeg_39 ?_
    refine k_icmp_ne hC 47 dX12_readLeg_40 rfl (by omega) (by omega) (fun c_40 => ?_) (fun c_40 => ?_)
    · refine k_iconst hC dX12_readLeg_47 ?_
      refine k_iconst hC dX12_readLeg_48 ?_
      have h_26 : w22 144 = iA G 700 bt := (hf22 144 (by decide)).trans h_23
      refine k_muvV hC (c_X12_check0 l hls G hN w22 fl u22 bt n st_24 1 (by omega) hn7 hb hu22 h_26 hKr22) yy_X12_check wm_X12_413 (kl hN (by decide)) hu22 rfl rfl rfl rfl (Nat.le_of_ble_eq_true rfl) (by decide) (by decide) ⟨by decide, by decide⟩ dX12_readLeg_49 (fun w25 hp25 => ?_)
      obtain ⟨hT25, hf25⟩ := hp25
      obtain ⟨u25, hu25, hKr25, hs25⟩ := hT25
      obtain ⟨st_27, est_27⟩ : ∃ z : PS, z = flP 1 st_24 := ⟨_, rfl⟩
      rw [← est_27] at hKr25
      have h18r25 := hKr25.1
      have h22r25 := hKr25.2.1
      have hrgr25 := hKr25.2.2.1
      have hcbr25 := hKr25.cb
      have hzzr25 : st_27.1 ≠ 0 := by rw [est_27]; exact fl_c (by omega)
      refine k_aload_n hC dX12_readLeg_52 rfl 0 rfl ?_
      refine k_aload_n hC dX12_readLeg_53 rfl 0 rfl ?_
      refine k_get hC fd_X12_386 (kl hN (by decide)) hu25 rfl dX12_readLeg_54 ?_
      refine k_if_ne hC 75 dX12_readLeg_57 rfl (by omega) (fun c_57 => ?_) (fun c_57 => absurd c_57 (by omega))
      refine k_iconst hC dX12_readLeg_75 ?_
      refine k_goto hC 80 dX12_readLeg_76 rfl ?_
      refine k_iconst hC dX12_readLeg_80 ?_
      have h_29 : w25 144 = iA G 700 bt := (hf25 144 (by decide)).trans h_26
      refine k_muvV hC (c_X12_check1 l hls G hN w25 fl u25 bt n st_27 2 (by omega) hn7 hb hu25 h_29 hKr25) yy_X12_check wm_X12_413 (kl hN (by decide)) hu25 rfl rfl rfl rfl (Nat.le_of_ble_eq_true rfl) (by decide) (by decide) ⟨by decide, by decide⟩ dX12_readLeg_81 (fun w28 hp28 => ?_)
      obtain ⟨hT28, hf28⟩ := hp28
      obtain ⟨u28, hu28, hKr28, hs28⟩ := hT28
      have h18r28 := hKr28.1
      have h22r28 := hKr28.2.1
      have hrgr28 := hKr28.2.2.1
      have hcbr28 := hKr28.cb
      have hzzr28 : st_27.1 ≠ 0 := by omega
      refine k_aload_n hC dX12_readLeg_84 rfl 0 rfl ?_
      refine k_aload_n hC dX12_readLeg_85 rfl 0 rfl ?_
      refine k_get hC fd_X12_386 (kl hN (by decide)) hu28 rfl dX12_readLeg_86 ?_
      refine k_if_ne hC 131 dX12_readLeg_89 rfl (by omega) (fun c_89 => ?_) (fun c_89 => absurd c_89 (by omega))
      refine k_iconst hC dX12_readLeg_131 ?_
      refine k_goto hC 136 dX12_readLeg_132 rfl ?_
      refine k_iconst hC dX12_readLeg_136 ?_
      have h_31 : w28 144 = iA G 700 bt := (hf28 144 (by decide)).trans h_29
      refine k_muvV hC (c_X12_check1 l hls G hN w28 fl u28 bt n st_27 5 (by omega) hn7 hb hu28 h_31 hKr28) yy_X12_check wm_X12_413 (kl hN (by decide)) hu28 rfl rfl rfl rfl (Nat.le_of_ble_eq_true rfl) (by decide) (by decide) ⟨by decide, by decide⟩ dX12_readLeg_137 (fun w30 hp30 => ?_)
      obtain ⟨hT30, hf30⟩ := hp30
      obtain ⟨u30, hu30, hKr30, hs30⟩ := hT30
      have h18r30 := hKr30.1
      have h22r30 := hKr30.2.1
      have hrgr30 := hKr30.2.2.1
      have hcbr30 := hKr30.cb
      have hzzr30 : st_27.1 ≠ 0 := by omega
      refine k_aload_n hC dX12_readLeg_140 rfl 0 rfl ?_
      refine k_get hC fd_X12_386 (kl hN (by decide)) hu30 rfl dX12_readLeg_141 ?_
      refine k_if_ne hC 158 dX12_readLeg_144 rfl (by omega) (fun c_144 => ?_) (fun c_144 => absurd c_144 (by omega))
      refine k_iconst hC dX12_readLeg_158 ?_
      refine k_istore_n hC [(1, vI 0), (0, .ref (kad G 133))] dX12_readLeg_159 rfl (by decide) rfl ?_
      refine k_aload_n hC dX12_readLeg_160 rfl 1 rfl ?_
      refine k_iconst hC dX12_readLeg_161 ?_
      refine k_sipush hC dX12_readLeg_162 (by decide) ?_
      have h_33 : w30 144 = iA G 700 bt := (hf30 144 (by decide)).trans h_31
      refine k_mutV hC (c_X12_readNumber l hls G hN w30 fl u30 bt n st_27 0 21599 (by omega) (by omega) hn7 hb hu30 h_33 hKr30) yy_X12_readNumber wm_X12_435 (kl hN (by decide)) hu30 rfl rfl rfl rfl (Nat.le_of_ble_eq_true rfl) (by decide) (by decide) ⟨by decide, by decide⟩ dX12_readLeg_165 (fun w32 hp32 => ?_)
      obtain ⟨hT32, hf32⟩ := hp32
      have hnv_34 := rnV_b (bt := bt) (n := n) (lo := 0) (hi := 21599) (st := st_27) (by omega)
      obtain ⟨u32, hu32, hKr32, hs32⟩ := hT32
      obtain ⟨st_35, est_35⟩ : ∃ z : PS, z = tkP bt n 0 21599 st_27 := ⟨_, rfl⟩
      rw [← est_35] at hKr32
      have h18r32 := hKr32.1
      have h22r32 := hKr32.2.1
      have hrgr32 := hKr32.2.2.1
      have hcbr32 := hKr32.cb
      have hzzr32 : st_35.1 ≠ 0 := by rw [est_35, tkP_e (by omega)]; omega
      refine k_istore_n hC [(2, vI (rnV bt n 0 21599 st_27)), (1, vI 0), (0, .ref (kad G 133))] dX12_readLeg_168 rfl (by decide) rfl ?_
      refine k_aload_n hC dX12_readLeg_169 rfl 2 rfl ?_
      refine k_iconst hC dX12_readLeg_170 ?_
      refine k_sipush hC dX12_readLeg_171 (by decide) ?_
      have h_37 : w32 144 = iA G 700 bt := (hf32 144 (by decide)).trans h_33
      refine k_mutV hC (c_X12_readNumber l hls G hN w32 fl u32 bt n st_35 0 400 (by omega) (by omega) hn7 hb hu32 h_37 hKr32) yy_X12_readNumber wm_X12_435 (kl hN (by decide)) hu32 rfl rfl rfl rfl (Nat.le_of_ble_eq_true rfl) (by decide) (by decide) ⟨by decide, by decide⟩ dX12_readLeg_174 (fun w36 hp36 => ?_)
      obtain ⟨hT36, hf36⟩ := hp36
      have hnv_38 := rnV_b (bt := bt) (n := n) (lo := 0) (hi := 400) (st := st_35) (by omega)
      obtain ⟨u36, hu36, hKr36, hs36⟩ := hT36
      obtain ⟨st_39, est_39⟩ : ∃ z : PS, z = tkP bt n 0 400 st_35 := ⟨_, rfl⟩
      rw [← est_39] at hKr36
      have h18r36 := hKr36.1
      have h22r36 := hKr36.2.1
      have hrgr36 := hKr36.2.2.1
      have hcbr36 := hKr36.cb
      have hzzr36 : st_39.1 ≠ 0 := by rw [est_39, tkP_e (by omega)]; omega
      refine k_istore_n hC [(3, vI (rnV bt n 0 400 st_35)), (2, vI (rnV bt n 0 21599 st_27)), (1, vI 0), (0, .ref (kad G 133))] dX12_readLeg_177 rfl (by decide) rfl ?_
      refine k_aload_n hC dX12_readLeg_178 rfl 3 rfl ?_
      refine k_get hC fd_X12_386 (kl hN (by decide)) hu36 rfl dX12_readLeg_179 ?_
      refine k_if_ne hC 198 dX12_readLeg_182 rfl (by omega) (fun c_182 => ?_) (fun c_182 => absurd c_182 (by omega))
      have h_40 : w36 135 = lA G 93 D := (hf36 135 (by decide)).trans ((hf32 135 (by decide)).trans ((hf30 135 (by decide)).trans ((hf28 135 (by decide)).trans ((hf25 135 (by decide)).trans ((hf22 135 (by decide)).trans ((hf21 135 (by decide)).trans h135))))))
      subst hQ
      exact k_vret hC hr ⟨by decide, by decide⟩ (⟨rfl, rfl, ⟨_, hu36, (by have e : st_39 = clLegS bt n D st := (by unfold clLegS; rw [selP_0 (by omega), ← est_24]; have hbb : lgB bt n D st_24 = st_27 := (by have hn : nhP bt n 0 5000 st_24 = st_27 := (by unfold nhP; rw [selP_0 (fun q => by have q2 := q.2; omega)]; exact est_27.symm); unfold lgB; rw [hn, selP_0 (fun q => by have q1 := q.1; omega)]); rw [hbb, adP_e (by omega), ← est_35]; exact est_39); rw [← e]; exact hKr36), (uS.tr (uS.tr (uS.tr (uS.tr (uS.tr (uS.tr (uS.tr (fun j _ => rfl) hs21) hs22) hs25) hs28) hs30) hs32) hs36)⟩, ⟨⟨_, h_40⟩, fun hc => absurd hc (by have hq : st_39 = clLegS bt n D st := (by unfold clLegS; rw [selP_0 (by omega), ← est_24]; have hbb : lgB bt n D st_24 = st_27 := (by have hn : nhP bt n 0 5000 st_24 = st_27 := (by unfold nhP; rw [selP_0 (fun q => by have q2 := q.2; omega)]; exact est_27.symm); unfold lgB; rw [hn, selP_0 (fun q => by have q1 := q.1; omega)]); rw [hbb, adP_e (by omega), ← est_35]; exact est_39); rw [← hq]; omega)⟩, fun j hj => (hf36 j (by omega)).trans ((hf32 j (by omega)).trans ((hf30 j (by omega)).trans ((hf28 j (by omega)).trans ((hf25 j (by omega)).trans ((hf22 j (by omega)).trans (hf21 j (by omega)))))))⟩) dX12_readLeg_198
    · refine k_iconst hC dX12_readLeg_43 ?_
      refine k_goto hC 48 dX12_readLeg_44 rfl ?_
      refine k_iconst hC dX12_readLeg_48 ?_
      have h_42 : w22 144 = iA G 700 bt := (hf22 144 (by decide)).trans h_23
      refine k_muvV hC (c_X12_check1 l hls G hN w22 fl u22 bt n st_24 1 (by omega) hn7 hb hu22 h_42 hKr22) yy_X12_check wm_X12_413 (kl hN (by decide)) hu22 rfl rfl rfl rfl (Nat.le_of_ble_eq_true rfl) (by decide) (by decide) ⟨by decide, by decide⟩ dX12_readLeg_49 (fun w41 hp41 => ?_)
      obtain ⟨hT41, hf41⟩ := hp41
      obtain ⟨u41, hu41, hKr41, hs41⟩ := hT41
      have h18r41 := hKr41.1
      have h22r41 := hKr41.2.1
      have hrgr41 := hKr41.2.2.1
      have hcbr41 := hKr41.cb
      have hzzr41 : st_24.1 = 0 := by omega
      have hq0r41 := hKr41.2.2.2.1 hzzr41
      have henr41 := enM_b (bt := bt) hq0r41.2.2.2
      refine k_aload_n hC dX12_readLeg_52 rfl 0 rfl ?_
      refine k_aload_n hC dX12_readLeg_53 rfl 0 rfl ?_
      refine k_get hC fd_X12_386 (kl hN (by decide)) hu41 rfl dX12_readLeg_54 ?_
      refine k_topv (vI 0) (congrArg vI (by omega)) ?_
      refine k_if_ne hC 75 dX12_readLeg_57 rfl (by omega) (fun c_57 => absurd c_57 (by omega)) (fun c_57 => ?_)
      refine k_aload_n hC dX12_readLeg_60 rfl 0 rfl ?_
      have h_43 : w41 144 = iA G 700 bt := (hf41 144 (by decide)).trans h_42
      refine k_pureV hC (c_X12_value l hls G hN w41 fl u41 bt n st_24 st_24.2.2 (enM bt n st_24.2.2) (by omega) (by omega) hn7 hb hu41 h_43 hKr41) yy_X12_value wm_X12_427 (kl hN (by decide)) hu41 rfl rfl rfl rfl (Nat.le_of_ble_eq_true rfl) (by decide) (by decide) ⟨by decide, by decide⟩ dX12_readLeg_61 ?_
      refine k_topI (fun vl_44 evl_44 => ?_)
      have hbvl_44 : 0 ≤ vl_44 ∧ vl_44 ≤ 2000000000 := by rw [evl_44]; exact vlM_b (fun q i h1 h2 => hKr41.2.2.2.2.2 q i (by omega) (by omega))
      have hnvl_44 : vl_44 = min 2000000000 (nv bt n st_24) := by rw [evl_44]; exact if_pos (by omega)
      refine k_i2l hC dX12_readLeg_64 (by omega) ?_
      refine k_lconst (x := 0) hC dX12_readLeg_65 (by decide) ?_
      refine k_ldc2 hC (x := 5000) (v := 5000) dX12_readLeg_66 (by decide) wk_X12_260 ?_
      refine k_pureS hC (c_X12_inRange l hls G hN w41 fl vl_44 0 5000 (by omega) (by omega) (by omega)) yy_X12_inRange wm_X12_243 rfl rfl (Nat.le_of_ble_eq_true rfl) (by decide) (by decide) ⟨by decide, by decide⟩ dX12_readLeg_69 ?_
      refine k_topv (vI (if 0 ≤ vl_44 ∧ vl_44 ≤ 5000 then 1 else 0)) rfl ?_
      obtain ⟨z_45, ez_45, hz_45⟩ := k_bI (0 ≤ vl_44 ∧ vl_44 ≤ 5000)
      refine k_topv (vI z_45) (by rw [ez_45]) ?_
      refine k_if_eq hC 79 dX12_readLeg_72 rfl (by omega) (fun c_72 => ?_) (fun c_72 => ?_)
      · refine k_iconst hC dX12_readLeg_79 ?_
        refine k_iconst hC dX12_readLeg_80 ?_
        refine k_muvV hC (c_X12_check0 l hls G hN w41 fl u41 bt n st_24 2 (by omega) hn7 hb hu41 h_43 hKr41) yy_X12_check wm_X12_413 (kl hN (by decide)) hu41 rfl rfl rfl rfl (Nat.le_of_ble_eq_true rfl) (by decide) (by decide) ⟨by decide, by decide⟩ dX12_readLeg_81 (fun w46 hp46 => ?_)
        obtain ⟨hT46, hf46⟩ := hp46
        obtain ⟨u46, hu46, hKr46, hs46⟩ := hT46
        obtain ⟨st_47, est_47⟩ : ∃ z : PS, z = flP 2 st_24 := ⟨_, rfl⟩
        rw [← est_47] at hKr46
        have h18r46 := hKr46.1
        have h22r46 := hKr46.2.1
        have hrgr46 := hKr46.2.2.1
        have hcbr46 := hKr46.cb
        have hzzr46 : st_47.1 ≠ 0 := by rw [est_47]; exact fl_c (by omega)
        refine k_aload_n hC dX12_readLeg_84 rfl 0 rfl ?_
        refine k_aload_n hC dX12_readLeg_85 rfl 0 rfl ?_
        refine k_get hC fd_X12_386 (kl hN (by decide)) hu46 rfl dX12_readLeg_86 ?_
        refine k_if_ne hC 131 dX12_readLeg_89 rfl (by omega) (fun c_89 => ?_) (fun c_89 => absurd c_89 (by omega))
        refine k_iconst hC dX12_readLeg_131 ?_
        refine k_goto hC 136 dX12_readLeg_132 rfl ?_
        refine k_iconst hC dX12_readLeg_136 ?_
        have h_49 : w46 144 = iA G 700 bt := (hf46 144 (by decide)).trans h_43
        refine k_muvV hC (c_X12_check1 l hls G hN w46 fl u46 bt n st_47 5 (by omega) hn7 hb hu46 h_49 hKr46) yy_X12_check wm_X12_413 (kl hN (by decide)) hu46 rfl rfl rfl rfl (Nat.le_of_ble_eq_true rfl) (by decide) (by decide) ⟨by decide, by decide⟩ dX12_readLeg_137 (fun w48 hp48 => ?_)
        obtain ⟨hT48, hf48⟩ := hp48
        obtain ⟨u48, hu48, hKr48, hs48⟩ := hT48
        have h18r48 := hKr48.1
        have h22r48 := hKr48.2.1
        have hrgr48 := hKr48.2.2.1
        have hcbr48 := hKr48.cb
        have hzzr48 : st_47.1 ≠ 0 := by omega
        refine k_aload_n hC dX12_readLeg_140 rfl 0 rfl ?_
        refine k_get hC fd_X12_386 (kl hN (by decide)) hu48 rfl dX12_readLeg_141 ?_
        refine k_if_ne hC 158 dX12_readLeg_144 rfl (by omega) (fun c_144 => ?_) (fun c_144 => absurd c_144 (by omega))
        refine k_iconst hC dX12_readLeg_158 ?_
        refine k_istore_n hC [(1, vI 0), (0, .ref (kad G 133))] dX12_readLeg_159 rfl (by decide) rfl ?_
        refine k_aload_n hC dX12_readLeg_160 rfl 1 rfl ?_
        refine k_iconst hC dX12_readLeg_161 ?_
        refine k_sipush hC dX12_readLeg_162 (by decide) ?_
        have h_51 : w48 144 = iA G 700 bt := (hf48 144 (by decide)).trans h_49
        refine k_mutV hC (c_X12_readNumber l hls G hN w48 fl u48 bt n st_47 0 21599 (by omega) (by omega) hn7 hb hu48 h_51 hKr48) yy_X12_readNumber wm_X12_435 (kl hN (by decide)) hu48 rfl rfl rfl rfl (Nat.le_of_ble_eq_true rfl) (by decide) (by decide) ⟨by decide, by decide⟩ dX12_readLeg_165 (fun w50 hp50 => ?_)
        obtain ⟨hT50, hf50⟩ := hp50
        have hnv_52 := rnV_b (bt := bt) (n := n) (lo := 0) (hi := 21599) (st := st_47) (by omega)
        obtain ⟨u50, hu50, hKr50, hs50⟩ := hT50
        obtain ⟨st_53, est_53⟩ : ∃ z : PS, z = tkP bt n 0 21599 st_47 := ⟨_, rfl⟩
        rw [← est_53] at hKr50
        have h18r50 := hKr50.1
        have h22r50 := hKr50.2.1
        have hrgr50 := hKr50.2.2.1
        have hcbr50 := hKr50.cb
        have hzzr50 : st_53.1 ≠ 0 := by rw [est_53, tkP_e (by omega)]; omega
        refine k_istore_n hC [(2, vI (rnV bt n 0 21599 st_47)), (1, vI 0), (0, .ref (kad G 133))] dX12_readLeg_168 rfl (by decide) rfl ?_
        refine k_aload_n hC dX12_readLeg_169 rfl 2 rfl ?_
        refine k_iconst hC dX12_readLeg_170 ?_
        refine k_sipush hC dX12_readLeg_171 (by decide) ?_
        have h_55 : w50 144 = iA G 700 bt := (hf50 144 (by decide)).trans h_51
        refine k_mutV hC (c_X12_readNumber l hls G hN w50 fl u50 bt n st_53 0 400 (by omega) (by omega) hn7 hb hu50 h_55 hKr50) yy_X12_readNumber wm_X12_435 (kl hN (by decide)) hu50 rfl rfl rfl rfl (Nat.le_of_ble_eq_true rfl) (by decide) (by decide) ⟨by decide, by decide⟩ dX12_readLeg_174 (fun w54 hp54 => ?_)
        obtain ⟨hT54, hf54⟩ := hp54
        have hnv_56 := rnV_b (bt := bt) (n := n) (lo := 0) (hi := 400) (st := st_53) (by omega)
        obtain ⟨u54, hu54, hKr54, hs54⟩ := hT54
        obtain ⟨st_57, est_57⟩ : ∃ z : PS, z = tkP bt n 0 400 st_53 := ⟨_, rfl⟩
        rw [← est_57] at hKr54
        have h18r54 := hKr54.1
        have h22r54 := hKr54.2.1
        have hrgr54 := hKr54.2.2.1
        have hcbr54 := hKr54.cb
        have hzzr54 : st_57.1 ≠ 0 := by rw [est_57, tkP_e (by omega)]; omega
        refine k_istore_n hC [(3, vI (rnV bt n 0 400 st_53)), (2, vI (rnV bt n 0 21599 st_47)), (1, vI 0), (0, .ref (kad G 133))] dX12_readLeg_177 rfl (by decide) rfl ?_
        refine k_aload_n hC dX12_readLeg_178 rfl 3 rfl ?_
        refine k_get hC fd_X12_386 (kl hN (by decide)) hu54 rfl dX12_readLeg_179 ?_
        refine k_if_ne hC 198 dX12_readLeg_182 rfl (by omega) (fun c_182 => ?_) (fun c_182 => absurd c_182 (by omega))
        have h_58 : w54 135 = lA G 93 D := (hf54 135 (by decide)).trans ((hf50 135 (by decide)).trans ((hf48 135 (by decide)).trans ((hf46 135 (by decide)).trans ((hf41 135 (by decide)).trans ((hf22 135 (by decide)).trans ((hf21 135 (by decide)).trans h135))))))
        subst hQ
        exact k_vret hC hr ⟨by decide, by decide⟩ (⟨rfl, rfl, ⟨_, hu54, (by have e : st_57 = clLegS bt n D st := (by unfold clLegS; rw [selP_0 (by omega), ← est_24]; have hbb : lgB bt n D st_24 = st_47 := (by have hn : nhP bt n 0 5000 st_24 = st_47 := (by unfold nhP; rw [selP_1 ⟨by omega, by omega⟩, selP_0 (fun q => by omega)]; exact est_47.symm); unfold lgB; rw [hn, selP_0 (fun q => by have q1 := q.1; omega)]); rw [hbb, adP_e (by omega), ← est_53]; exact est_57); rw [← e]; exact hKr54), (uS.tr (uS.tr (uS.tr (uS.tr (uS.tr (uS.tr (uS.tr (fun j _ => rfl) hs21) hs22) hs41) hs46) hs48) hs50) hs54)⟩, ⟨⟨_, h_58⟩, fun hc => absurd hc (by have hq : st_57 = clLegS bt n D st := (by unfold clLegS; rw [selP_0 (by omega), ← est_24]; have hbb : lgB bt n D st_24 = st_47 := (by have hn : nhP bt n 0 5000 st_24 = st_47 := (by unfold nhP; rw [selP_1 ⟨by omega, by omega⟩, selP_0 (fun q => by omega)]; exact est_47.symm); unfold lgB; rw [hn, selP_0 (fun q => by have q1 := q.1; omega)]); rw [hbb, adP_e (by omega), ← est_53]; exact est_57); rw [← hq]; omega)⟩, fun j hj => (hf54 j (by omega)).trans ((hf50 j (by omega)).trans ((hf48 j (by omega)).trans ((hf46 j (by omega)).trans ((hf41 j (by omega)).trans ((hf22 j (by omega)).trans (hf21 j (by omega)))))))⟩) dX12_readLeg_198
      · refine k_iconst hC dX12_readLeg_75 ?_
        refine k_goto hC 80 dX12_readLeg_76 rfl ?_
        refine k_iconst hC dX12_readLeg_80 ?_
        refine k_muvV hC (c_X12_check1 l hls G hN w41 fl u41 bt n st_24 2 (by omega) hn7 hb hu41 h_43 hKr41) yy_X12_check wm_X12_413 (kl hN (by decide)) hu41 rfl rfl rfl rfl (Nat.le_of_ble_eq_true rfl) (by decide) (by decide) ⟨by decide, by decide⟩ dX12_readLeg_81 (fun w59 hp59 => ?_)
        obtain ⟨hT59, hf59⟩ := hp59
        obtain ⟨u59, hu59, hKr59, hs59⟩ := hT59
        have h18r59 := hKr59.1
        have h22r59 := hKr59.2.1
        have hrgr59 := hKr59.2.2.1
        have hcbr59 := hKr59.cb
        have hzzr59 : st_24.1 = 0 := by omega
        have hq0r59 := hKr59.2.2.2.1 hzzr59
        have henr59 := enM_b (bt := bt) hq0r59.2.2.2
        refine k_aload_n hC dX12_readLeg_84 rfl 0 rfl ?_
        refine k_aload_n hC dX12_readLeg_85 rfl 0 rfl ?_
        refine k_get hC fd_X12_386 (kl hN (by decide)) hu59 rfl dX12_readLeg_86 ?_
        refine k_topv (vI 0) (congrArg vI (by omega)) ?_
        refine k_if_ne hC 131 dX12_readLeg_89 rfl (by omega) (fun c_89 => absurd c_89 (by omega)) (fun c_89 => ?_)
        refine k_aload_n hC dX12_readLeg_92 rfl 0 rfl ?_
        refine k_get hC fd_X12_13 (kl hN (by decide)) hu59 rfl dX12_readLeg_93 ?_
        refine k_iconst hC dX12_readLeg_96 ?_
        have h_60 : w59 135 = lA G 93 D := (hf59 135 (by decide)).trans ((hf41 135 (by decide)).trans ((hf22 135 (by decide)).trans ((hf21 135 (by decide)).trans h135)))
        refine k_lald hC (kl hN (by decide)) h_60 (by omega) (by decide) dX12_readLeg_97 ?_
        refine k_topv (vL (D 1)) rfl ?_
        refine k_lconst (x := 0) hC dX12_readLeg_98 (by decide) ?_
        refine k_lcmp_eq hC 131 dX12_readLeg_99 dX12_readLeg_100 rfl (by omega) (by omega) (fun c_99 => ?_) (fun c_99 => ?_)
        · have elm : lastM D = -1 := by unfold lastM; rw [if_pos (by omega)]
          refine k_iconst hC dX12_readLeg_131 ?_
          refine k_goto hC 136 dX12_readLeg_132 rfl ?_
          refine k_iconst hC dX12_readLeg_136 ?_
          have h_62 : w59 144 = iA G 700 bt := (hf59 144 (by decide)).trans h_43
          refine k_muvV hC (c_X12_check1 l hls G hN w59 fl u59 bt n st_24 5 (by omega) hn7 hb hu59 h_62 hKr59) yy_X12_check wm_X12_413 (kl hN (by decide)) hu59 rfl rfl rfl rfl (Nat.le_of_ble_eq_true rfl) (by decide) (by decide) ⟨by decide, by decide⟩ dX12_readLeg_137 (fun w61 hp61 => ?_)
          obtain ⟨hT61, hf61⟩ := hp61
          obtain ⟨u61, hu61, hKr61, hs61⟩ := hT61
          have h18r61 := hKr61.1
          have h22r61 := hKr61.2.1
          have hrgr61 := hKr61.2.2.1
          have hcbr61 := hKr61.cb
          have hzzr61 : st_24.1 = 0 := by omega
          have hq0r61 := hKr61.2.2.2.1 hzzr61
          have henr61 := enM_b (bt := bt) hq0r61.2.2.2
          refine k_aload_n hC dX12_readLeg_140 rfl 0 rfl ?_
          refine k_get hC fd_X12_386 (kl hN (by decide)) hu61 rfl dX12_readLeg_141 ?_
          refine k_topv (vI 0) (congrArg vI (by omega)) ?_
          refine k_if_ne hC 158 dX12_readLeg_144 rfl (by omega) (fun c_144 => absurd c_144 (by omega)) (fun c_144 => ?_)
          refine k_aload_n hC dX12_readLeg_147 rfl 0 rfl ?_
          refine k_iconst hC dX12_readLeg_148 ?_
          refine k_sipush hC dX12_readLeg_149 (by decide) ?_
          have h_64 : w61 144 = iA G 700 bt := (hf61 144 (by decide)).trans h_62
          refine k_mutV hC (c_X12_readNumber l hls G hN w61 fl u61 bt n st_24 0 5000 (by omega) (by omega) hn7 hb hu61 h_64 hKr61) yy_X12_readNumber wm_X12_435 (kl hN (by decide)) hu61 rfl rfl rfl rfl (Nat.le_of_ble_eq_true rfl) (by decide) (by decide) ⟨by decide, by decide⟩ dX12_readLeg_152 (fun w63 hp63 => ?_)
          obtain ⟨hT63, hf63⟩ := hp63
          have hnv_65 := rnV_b (bt := bt) (n := n) (lo := 0) (hi := 5000) (st := st_24) (by omega)
          obtain ⟨u63, hu63, hKr63, hs63⟩ := hT63
          obtain ⟨st_66, est_66⟩ : ∃ z : PS, z = tkP bt n 0 5000 st_24 := ⟨_, rfl⟩
          rw [← est_66] at hKr63
          have h18r63 := hKr63.1
          have h22r63 := hKr63.2.1
          have hrgr63 := hKr63.2.2.1
          have hcbr63 := hKr63.cb
          refine k_goto hC 159 dX12_readLeg_155 rfl ?_
          refine k_istore_n hC [(1, vI (rnV bt n 0 5000 st_24)), (0, .ref (kad G 133))] dX12_readLeg_159 rfl (by decide) rfl ?_
          refine k_aload_n hC dX12_readLeg_160 rfl 1 rfl ?_
          refine k_iconst hC dX12_readLeg_161 ?_
          refine k_sipush hC dX12_readLeg_162 (by decide) ?_
          have h_68 : w63 144 = iA G 700 bt := (hf63 144 (by decide)).trans h_64
          refine k_mutV hC (c_X12_readNumber l hls G hN w63 fl u63 bt n st_66 0 21599 (by omega) (by omega) hn7 hb hu63 h_68 hKr63) yy_X12_readNumber wm_X12_435 (kl hN (by decide)) hu63 rfl rfl rfl rfl (Nat.le_of_ble_eq_true rfl) (by decide) (by decide) ⟨by decide, by decide⟩ dX12_readLeg_165 (fun w67 hp67 => ?_)
          obtain ⟨hT67, hf67⟩ := hp67
          have hnv_69 := rnV_b (bt := bt) (n := n) (lo := 0) (hi := 21599) (st := st_66) (by omega)
          obtain ⟨u67, hu67, hKr67, hs67⟩ := hT67
          obtain ⟨st_70, est_70⟩ : ∃ z : PS, z = tkP bt n 0 21599 st_66 := ⟨_, rfl⟩
          rw [← est_70] at hKr67
          have h18r67 := hKr67.1
          have h22r67 := hKr67.2.1
          have hrgr67 := hKr67.2.2.1
          have hcbr67 := hKr67.cb
          refine k_istore_n hC [(2, vI (rnV bt n 0 21599 st_66)), (1, vI (rnV bt n 0 5000 st_24)), (0, .ref (kad G 133))] dX12_readLeg_168 rfl (by decide) rfl ?_
          refine k_aload_n hC dX12_readLeg_169 rfl 2 rfl ?_
          refine k_iconst hC dX12_readLeg_170 ?_
          refine k_sipush hC dX12_readLeg_171 (by decide) ?_
          have h_72 : w67 144 = iA G 700 bt := (hf67 144 (by decide)).trans h_68
          refine k_mutV hC (c_X12_readNumber l hls G hN w67 fl u67 bt n st_70 0 400 (by omega) (by omega) hn7 hb hu67 h_72 hKr67) yy_X12_readNumber wm_X12_435 (kl hN (by decide)) hu67 rfl rfl rfl rfl (Nat.le_of_ble_eq_true rfl) (by decide) (by decide) ⟨by decide, by decide⟩ dX12_readLeg_174 (fun w71 hp71 => ?_)
          obtain ⟨hT71, hf71⟩ := hp71
          have hnv_73 := rnV_b (bt := bt) (n := n) (lo := 0) (hi := 400) (st := st_70) (by omega)
          obtain ⟨u71, hu71, hKr71, hs71⟩ := hT71
          obtain ⟨st_74, est_74⟩ : ∃ z : PS, z = tkP bt n 0 400 st_70 := ⟨_, rfl⟩
          rw [← est_74] at hKr71
          have h18r71 := hKr71.1
          have h22r71 := hKr71.2.1
          have hrgr71 := hKr71.2.2.1
          have hcbr71 := hKr71.cb
          refine k_istore_n hC [(3, vI (rnV bt n 0 400 st_70)), (2, vI (rnV bt n 0 21599 st_66)), (1, vI (rnV bt n 0 5000 st_24)), (0, .ref (kad G 133))] dX12_readLeg_177 rfl (by decide) rfl ?_
          refine k_aload_n hC dX12_readLeg_178 rfl 3 rfl ?_
          refine k_get hC fd_X12_386 (kl hN (by decide)) hu71 rfl dX12_readLeg_179 ?_
          refine k_if_ne hC 198 dX12_readLeg_182 rfl (by omega) (fun c_182 => ?_) (fun c_182 => ?_)
          · have hzzr71 : st_74.1 ≠ 0 := by omega
            have h_75 : w71 135 = lA G 93 D := (hf71 135 (by decide)).trans ((hf67 135 (by decide)).trans ((hf63 135 (by decide)).trans ((hf61 135 (by decide)).trans h_60)))
            subst hQ
            exact k_vret hC hr ⟨by decide, by decide⟩ (⟨rfl, rfl, ⟨_, hu71, (by have e : st_74 = clLegS bt n D st := (by unfold clLegS; rw [selP_0 (by omega), ← est_24]; have hbb : adP bt n (lgB bt n D st_24) = st_66 := (by unfold lgB; rw [selP_0 (fun q => by have q1 := q.2; omega)]; exact est_66.symm); rw [hbb, ← est_70]; exact est_74); rw [← e]; exact hKr71), (uS.tr (uS.tr (uS.tr (uS.tr (uS.tr (uS.tr (uS.tr (uS.tr (fun j _ => rfl) hs21) hs22) hs41) hs59) hs61) hs63) hs67) hs71)⟩, ⟨⟨_, h_75⟩, fun hc => absurd hc (by have hq : st_74 = clLegS bt n D st := (by unfold clLegS; rw [selP_0 (by omega), ← est_24]; have hbb : adP bt n (lgB bt n D st_24) = st_66 := (by unfold lgB; rw [selP_0 (fun q => by have q1 := q.2; omega)]; exact est_66.symm); rw [hbb, ← est_70]; exact est_74); rw [← hq]; omega)⟩, fun j hj => (hf71 j (by omega)).trans ((hf67 j (by omega)).trans ((hf63 j (by omega)).trans ((hf61 j (by omega)).trans ((hf59 j (by omega)).trans ((hf41 j (by omega)).trans ((hf22 j (by omega)).trans (hf21 j (by omega))))))))⟩) dX12_readLeg_198
          · have hzzr71 : st_74.1 = 0 := by omega
            have hq0r71 := hKr71.2.2.2.1 hzzr71
            have henr71 := enM_b (bt := bt) hq0r71.2.2.2
            refine k_aload_n hC dX12_readLeg_185 rfl 3 rfl ?_
            refine k_get hC fd_X12_13 (kl hN (by decide)) hu71 rfl dX12_readLeg_186 ?_
            refine k_iload_n hC dX12_readLeg_189 rfl 2 rfl ?_
            refine k_i2l hC dX12_readLeg_190 (by omega) ?_
            refine k_iload_n hC dX12_readLeg_191 rfl 1 rfl ?_
            refine k_i2l hC dX12_readLeg_192 (by omega) ?_
            refine k_iload_n hC dX12_readLeg_193 rfl 0 rfl ?_
            refine k_i2l hC dX12_readLeg_194 (by omega) ?_
            have h_76 : w71 135 = lA G 93 D := (hf71 135 (by decide)).trans ((hf67 135 (by decide)).trans ((hf63 135 (by decide)).trans ((hf61 135 (by decide)).trans h_60)))
            refine k_muvS hC (c_X12_addLeg l hls G hN w71 fl 135 D (rnV bt n 0 5000 st_24) (rnV bt n 0 21599 st_66) (rnV bt n 0 400 st_70) (by decide) (by omega) h_76) yy_X12_addLeg wm_X12_322 rfl rfl (Nat.le_of_ble_eq_true rfl) (by decide) (by decide) ⟨by decide, by decide⟩ dX12_readLeg_195 (fun w77 hp77 => ?_)
            obtain ⟨hr77, hf77⟩ := hp77
            have h_78 : w77 133 = .inr (12, [.ref (kad G 134), .ref (kad G 135), .ref (kad G 136), .ref (kad G 137), vI (u71 4), vI (u71 5), vI (u71 6), .ref (kad G 138), .ref (kad G 139), .ref (kad G 140), .ref (kad G 141), .ref (kad G 142), vL (u71 12), vL (u71 13), .ref (kad G 143), vI (u71 15), .ref (kad G 144), vI (u71 17), vI (u71 18), vI (u71 19), vI (u71 20), vI (u71 21), vI (u71 22), vI (u71 23), vI (u71 24), vI (u71 25), .ref (kad G 145), .ref (kad G 146), .ref (kad G 147), vI (u71 29)]) := (hf77 133 (by decide)).trans hu71
            subst hQ
            exact k_vret hC hr ⟨by decide, by decide⟩ (⟨rfl, rfl, ⟨_, h_78, (by have e : st_74 = clLegS bt n D st := (by unfold clLegS; rw [selP_0 (by omega), ← est_24]; have hbb : adP bt n (lgB bt n D st_24) = st_66 := (by unfold lgB; rw [selP_0 (fun q => by have q1 := q.2; omega)]; exact est_66.symm); rw [hbb, ← est_70]; exact est_74); rw [← e]; exact hKr71), (uS.tr (uS.tr (uS.tr (uS.tr (uS.tr (uS.tr (uS.tr (uS.tr (fun j _ => rfl) hs21) hs22) hs41) hs59) hs61) hs63) hs67) hs71)⟩, ⟨⟨_, hr77⟩, fun hc => hr77.trans (by have hq : st_74 = clLegS bt n D st := (by unfold clLegS; rw [selP_0 (by omega), ← est_24]; have hbb : adP bt n (lgB bt n D st_24) = st_66 := (by unfold lgB; rw [selP_0 (fun q => by have q1 := q.2; omega)]; exact est_66.symm); rw [hbb, ← est_70]; exact est_74); rw [← hq] at hc; unfold clLegD; rw [← est_24]; have hbb : adP bt n (lgB bt n D st_24) = st_66 := (by unfold lgB; rw [selP_0 (fun q => by have q1 := q.2; omega)]; exact est_66.symm); have hx1 : st_70.1 = 0 := (by have h := hc; rw [est_74] at h; exact tkok h); have hx0 : st_66.1 = 0 := (by have h := hx1; rw [est_70] at h; exact tkok h); rw [hbb, ← est_70, ← rnV_0 (lo := 0) (hi := 5000) (st := st_24) (by rw [← est_66]; exact hx0), ← rnV_0 (lo := 0) (hi := 21599) (st := st_66) (by rw [← est_70]; exact hx1), ← rnV_0 (lo := 0) (hi := 400) (st := st_70) (by rw [← est_74]; exact hc)])⟩, fun j hj => (hf77 j (by omega)).trans ((hf71 j (by omega)).trans ((hf67 j (by omega)).trans ((hf63 j (by omega)).trans ((hf61 j (by omega)).trans ((hf59 j (by omega)).trans ((hf41 j (by omega)).trans ((hf22 j (by omega)).trans (hf21 j (by omega)))))))))⟩) dX12_readLeg_198
        · obtain ⟨kz, ekz⟩ : ∃ z : Nat, D 1 - 1 = (z : Int) := ⟨(D 1 - 1).toNat, by omega⟩
          have elm : lastM D = D (33 + 3 * kz) := by unfold lastM; rw [if_neg (by omega), show (D 1 - 1).toNat = kz by omega]
          have hlk := hI.leg kz (by omega)
          refine k_aload_n hC dX12_readLeg_103 rfl 0 rfl ?_
          have h_79 : w59 144 = iA G 700 bt := (hf59 144 (by decide)).trans h_43
          refine k_pureV hC (c_X12_value l hls G hN w59 fl u59 bt n st_24 st_24.2.2 (enM bt n st_24.2.2) (by omega) (by omega) hn7 hb hu59 h_79 hKr59) yy_X12_value wm_X12_427 (kl hN (by decide)) hu59 rfl rfl rfl rfl (Nat.le_of_ble_eq_true rfl) (by decide) (by decide) ⟨by decide, by decide⟩ dX12_readLeg_104 ?_
          refine k_topI (fun vl_80 evl_80 => ?_)
          have hbvl_80 : 0 ≤ vl_80 ∧ vl_80 ≤ 2000000000 := by rw [evl_80]; exact vlM_b (fun q i h1 h2 => hKr59.2.2.2.2.2 q i (by omega) (by omega))
          have hnvl_80 : vl_80 = min 2000000000 (nv bt n st_24) := by rw [evl_80]; exact if_pos (by omega)
          refine k_i2l hC dX12_readLeg_107 (by omega) ?_
          refine k_aload_n hC dX12_readLeg_108 rfl 0 rfl ?_
          refine k_get hC fd_X12_13 (kl hN (by decide)) hu59 rfl dX12_readLeg_109 ?_
          refine k_bipush hC dX12_readLeg_112 (by decide) ?_
          refine k_iconst hC dX12_readLeg_114 ?_
          refine k_aload_n hC dX12_readLeg_115 rfl 0 rfl ?_
          refine k_get hC fd_X12_13 (kl hN (by decide)) hu59 rfl dX12_readLeg_116 ?_
          refine k_iconst hC dX12_readLeg_119 ?_
          refine k_lald hC (kl hN (by decide)) h_60 (by omega) (by decide) dX12_readLeg_120 ?_
          refine k_topv (vL (D 1)) rfl ?_
          refine k_l2i hC dX12_readLeg_121 ?_
          refine k_iconst hC dX12_readLeg_122 ?_
          refine k_isub hC dX12_readLeg_123 ?_
          refine k_imul hC dX12_readLeg_124 ?_
          refine k_iadd hC dX12_readLeg_125 ?_
          refine k_topv (vI (((33 + 3 * kz : Nat) : Int))) (congrArg vI (by omega)) ?_
          refine k_lald hC (kl hN (by decide)) h_60 (by omega) (by decide) dX12_readLeg_126 ?_
          refine k_topv (vL (D (33 + 3 * kz))) rfl ?_
          refine k_lcmp_le hC 135 dX12_readLeg_127 dX12_readLeg_128 rfl (by omega) (by omega) (fun c_127 => ?_) (fun c_127 => ?_)
          · refine k_iconst hC dX12_readLeg_135 ?_
            refine k_iconst hC dX12_readLeg_136 ?_
            refine k_muvV hC (c_X12_check0 l hls G hN w59 fl u59 bt n st_24 5 (by omega) hn7 hb hu59 h_79 hKr59) yy_X12_check wm_X12_413 (kl hN (by decide)) hu59 rfl rfl rfl rfl (Nat.le_of_ble_eq_true rfl) (by decide) (by decide) ⟨by decide, by decide⟩ dX12_readLeg_137 (fun w81 hp81 => ?_)
            obtain ⟨hT81, hf81⟩ := hp81
            obtain ⟨u81, hu81, hKr81, hs81⟩ := hT81
            obtain ⟨st_82, est_82⟩ : ∃ z : PS, z = flP 5 st_24 := ⟨_, rfl⟩
            rw [← est_82] at hKr81
            have h18r81 := hKr81.1
            have h22r81 := hKr81.2.1
            have hrgr81 := hKr81.2.2.1
            have hcbr81 := hKr81.cb
            have hzzr81 : st_82.1 ≠ 0 := by rw [est_82]; exact fl_c (by omega)
            refine k_aload_n hC dX12_readLeg_140 rfl 0 rfl ?_
            refine k_get hC fd_X12_386 (kl hN (by decide)) hu81 rfl dX12_readLeg_141 ?_
            refine k_if_ne hC 158 dX12_readLeg_144 rfl (by omega) (fun c_144 => ?_) (fun c_144 => absurd c_144 (by omega))
            refine k_iconst hC dX12_readLeg_158 ?_
            refine k_istore_n hC [(1, vI 0), (0, .ref (kad G 133))] dX12_readLeg_159 rfl (by decide) rfl ?_
            refine k_aload_n hC dX12_readLeg_160 rfl 1 rfl ?_
            refine k_iconst hC dX12_readLeg_161 ?_
            refine k_sipush hC dX12_readLeg_162 (by decide) ?_
            have h_84 : w81 144 = iA G 700 bt := (hf81 144 (by decide)).trans h_79
            refine k_mutV hC (c_X12_readNumber l hls G hN w81 fl u81 bt n st_82 0 21599 (by omega) (by omega) hn7 hb hu81 h_84 hKr81) yy_X12_readNumber wm_X12_435 (kl hN (by decide)) hu81 rfl rfl rfl rfl (Nat.le_of_ble_eq_true rfl) (by decide) (by decide) ⟨by decide, by decide⟩ dX12_readLeg_165 (fun w83 hp83 => ?_)
            obtain ⟨hT83, hf83⟩ := hp83
            have hnv_85 := rnV_b (bt := bt) (n := n) (lo := 0) (hi := 21599) (st := st_82) (by omega)
            obtain ⟨u83, hu83, hKr83, hs83⟩ := hT83
            obtain ⟨st_86, est_86⟩ : ∃ z : PS, z = tkP bt n 0 21599 st_82 := ⟨_, rfl⟩
            rw [← est_86] at hKr83
            have h18r83 := hKr83.1
            have h22r83 := hKr83.2.1
            have hrgr83 := hKr83.2.2.1
            have hcbr83 := hKr83.cb
            have hzzr83 : st_86.1 ≠ 0 := by rw [est_86, tkP_e (by omega)]; omega
            refine k_istore_n hC [(2, vI (rnV bt n 0 21599 st_82)), (1, vI 0), (0, .ref (kad G 133))] dX12_readLeg_168 rfl (by decide) rfl ?_
            refine k_aload_n hC dX12_readLeg_169 rfl 2 rfl ?_
            refine k_iconst hC dX12_readLeg_170 ?_
            refine k_sipush hC dX12_readLeg_171 (by decide) ?_
            have h_88 : w83 144 = iA G 700 bt := (hf83 144 (by decide)).trans h_84
            refine k_mutV hC (c_X12_readNumber l hls G hN w83 fl u83 bt n st_86 0 400 (by omega) (by omega) hn7 hb hu83 h_88 hKr83) yy_X12_readNumber wm_X12_435 (kl hN (by decide)) hu83 rfl rfl rfl rfl (Nat.le_of_ble_eq_true rfl) (by decide) (by decide) ⟨by decide, by decide⟩ dX12_readLeg_174 (fun w87 hp87 => ?_)
            obtain ⟨hT87, hf87⟩ := hp87
            have hnv_89 := rnV_b (bt := bt) (n := n) (lo := 0) (hi := 400) (st := st_86) (by omega)
            obtain ⟨u87, hu87, hKr87, hs87⟩ := hT87
            obtain ⟨st_90, est_90⟩ : ∃ z : PS, z = tkP bt n 0 400 st_86 := ⟨_, rfl⟩
            rw [← est_90] at hKr87
            have h18r87 := hKr87.1
            have h22r87 := hKr87.2.1
            have hrgr87 := hKr87.2.2.1
            have hcbr87 := hKr87.cb
            have hzzr87 : st_90.1 ≠ 0 := by rw [est_90, tkP_e (by omega)]; omega
            refine k_istore_n hC [(3, vI (rnV bt n 0 400 st_86)), (2, vI (rnV bt n 0 21599 st_82)), (1, vI 0), (0, .ref (kad G 133))] dX12_readLeg_177 rfl (by decide) rfl ?_
            refine k_aload_n hC dX12_readLeg_178 rfl 3 rfl ?_
            refine k_get hC fd_X12_386 (kl hN (by decide)) hu87 rfl dX12_readLeg_179 ?_
            refine k_if_ne hC 198 dX12_readLeg_182 rfl (by omega) (fun c_182 => ?_) (fun c_182 => absurd c_182 (by omega))
            have h_91 : w87 135 = lA G 93 D := (hf87 135 (by decide)).trans ((hf83 135 (by decide)).trans ((hf81 135 (by decide)).trans h_60))
            subst hQ
            exact k_vret hC hr ⟨by decide, by decide⟩ (⟨rfl, rfl, ⟨_, hu87, (by have e : st_90 = clLegS bt n D st := (by unfold clLegS; rw [selP_0 (by omega), ← est_24]; have hbb : lgB bt n D st_24 = st_82 := (by have hn : nhP bt n 0 5000 st_24 = st_24 := (by unfold nhP; rw [selP_1 ⟨by omega, by omega⟩, selP_1 ⟨by omega, by omega⟩]); unfold lgB; rw [hn, selP_1 ⟨by omega, by omega⟩]; exact est_82.symm); rw [hbb, adP_e (by omega), ← est_86]; exact est_90); rw [← e]; exact hKr87), (uS.tr (uS.tr (uS.tr (uS.tr (uS.tr (uS.tr (uS.tr (fun j _ => rfl) hs21) hs22) hs41) hs59) hs81) hs83) hs87)⟩, ⟨⟨_, h_91⟩, fun hc => absurd hc (by have hq : st_90 = clLegS bt n D st := (by unfold clLegS; rw [selP_0 (by omega), ← est_24]; have hbb : lgB bt n D st_24 = st_82 := (by have hn : nhP bt n 0 5000 st_24 = st_24 := (by unfold nhP; rw [selP_1 ⟨by omega, by omega⟩, selP_1 ⟨by omega, by omega⟩]); unfold lgB; rw [hn, selP_1 ⟨by omega, by omega⟩]; exact est_82.symm); rw [hbb, adP_e (by omega), ← est_86]; exact est_90); rw [← hq]; omega)⟩, fun j hj => (hf87 j (by omega)).trans ((hf83 j (by omega)).trans ((hf81 j (by omega)).trans ((hf59 j (by omega)).trans ((hf41 j (by omega)).trans ((hf22 j (by omega)).trans (hf21 j (by omega)))))))⟩) dX12_readLeg_198
          · refine k_iconst hC dX12_readLeg_131 ?_
            refine k_goto hC 136 dX12_readLeg_132 rfl ?_
            refine k_iconst hC dX12_readLeg_136 ?_
            refine k_muvV hC (c_X12_check1 l hls G hN w59 fl u59 bt n st_24 5 (by omega) hn7 hb hu59 h_79 hKr59) yy_X12_check wm_X12_413 (kl hN (by decide)) hu59 rfl rfl rfl rfl (Nat.le_of_ble_eq_true rfl) (by decide) (by decide) ⟨by decide, by decide⟩ dX12_readLeg_137 (fun w92 hp92 => ?_)
            obtain ⟨hT92, hf92⟩ := hp92
            obtain ⟨u92, hu92, hKr92, hs92⟩ := hT92
            have h18r92 := hKr92.1
            have h22r92 := hKr92.2.1
            have hrgr92 := hKr92.2.2.1
            have hcbr92 := hKr92.cb
            have hzzr92 : st_24.1 = 0 := by omega
            have hq0r92 := hKr92.2.2.2.1 hzzr92
            have henr92 := enM_b (bt := bt) hq0r92.2.2.2
            refine k_aload_n hC dX12_readLeg_140 rfl 0 rfl ?_
            refine k_get hC fd_X12_386 (kl hN (by decide)) hu92 rfl dX12_readLeg_141 ?_
            refine k_topv (vI 0) (congrArg vI (by omega)) ?_
            refine k_if_ne hC 158 dX12_readLeg_144 rfl (by omega) (fun c_144 => absurd c_144 (by omega)) (fun c_144 => ?_)
            refine k_aload_n hC dX12_readLeg_147 rfl 0 rfl ?_
            refine k_iconst hC dX12_readLeg_148 ?_
            refine k_sipush hC dX12_readLeg_149 (by decide) ?_
            have h_94 : w92 144 = iA G 700 bt := (hf92 144 (by decide)).trans h_79
            refine k_mutV hC (c_X12_readNumber l hls G hN w92 fl u92 bt n st_24 0 5000 (by omega) (by omega) hn7 hb hu92 h_94 hKr92) yy_X12_readNumber wm_X12_435 (kl hN (by decide)) hu92 rfl rfl rfl rfl (Nat.le_of_ble_eq_true rfl) (by decide) (by decide) ⟨by decide, by decide⟩ dX12_readLeg_152 (fun w93 hp93 => ?_)
            obtain ⟨hT93, hf93⟩ := hp93
            have hnv_95 := rnV_b (bt := bt) (n := n) (lo := 0) (hi := 5000) (st := st_24) (by omega)
            obtain ⟨u93, hu93, hKr93, hs93⟩ := hT93
            obtain ⟨st_96, est_96⟩ : ∃ z : PS, z = tkP bt n 0 5000 st_24 := ⟨_, rfl⟩
            rw [← est_96] at hKr93
            have h18r93 := hKr93.1
            have h22r93 := hKr93.2.1
            have hrgr93 := hKr93.2.2.1
            have hcbr93 := hKr93.cb
            refine k_goto hC 159 dX12_readLeg_155 rfl ?_
            refine k_istore_n hC [(1, vI (rnV bt n 0 5000 st_24)), (0, .ref (kad G 133))] dX12_readLeg_159 rfl (by decide) rfl ?_
            refine k_aload_n hC dX12_readLeg_160 rfl 1 rfl ?_
            refine k_iconst hC dX12_readLeg_161 ?_
            refine k_sipush hC dX12_readLeg_162 (by decide) ?_
            have h_98 : w93 144 = iA G 700 bt := (hf93 144 (by decide)).trans h_94
            refine k_mutV hC (c_X12_readNumber l hls G hN w93 fl u93 bt n st_96 0 21599 (by omega) (by omega) hn7 hb hu93 h_98 hKr93) yy_X12_readNumber wm_X12_435 (kl hN (by decide)) hu93 rfl rfl rfl rfl (Nat.le_of_ble_eq_true rfl) (by decide) (by decide) ⟨by decide, by decide⟩ dX12_readLeg_165 (fun w97 hp97 => ?_)
            obtain ⟨hT97, hf97⟩ := hp97
            have hnv_99 := rnV_b (bt := bt) (n := n) (lo := 0) (hi := 21599) (st := st_96) (by omega)
            obtain ⟨u97, hu97, hKr97, hs97⟩ := hT97
            obtain ⟨st_100, est_100⟩ : ∃ z : PS, z = tkP bt n 0 21599 st_96 := ⟨_, rfl⟩
            rw [← est_100] at hKr97
            have h18r97 := hKr97.1
            have h22r97 := hKr97.2.1
            have hrgr97 := hKr97.2.2.1
            have hcbr97 := hKr97.cb
            refine k_istore_n hC [(2, vI (rnV bt n 0 21599 st_96)), (1, vI (rnV bt n 0 5000 st_24)), (0, .ref (kad G 133))] dX12_readLeg_168 rfl (by decide) rfl ?_
            refine k_aload_n hC dX12_readLeg_169 rfl 2 rfl ?_
            refine k_iconst hC dX12_readLeg_170 ?_
            refine k_sipush hC dX12_readLeg_171 (by decide) ?_
            have h_102 : w97 144 = iA G 700 bt := (hf97 144 (by decide)).trans h_98
            refine k_mutV hC (c_X12_readNumber l hls G hN w97 fl u97 bt n st_100 0 400 (by omega) (by omega) hn7 hb hu97 h_102 hKr97) yy_X12_readNumber wm_X12_435 (kl hN (by decide)) hu97 rfl rfl rfl rfl (Nat.le_of_ble_eq_true rfl) (by decide) (by decide) ⟨by decide, by decide⟩ dX12_readLeg_174 (fun w101 hp101 => ?_)
            obtain ⟨hT101, hf101⟩ := hp101
            have hnv_103 := rnV_b (bt := bt) (n := n) (lo := 0) (hi := 400) (st := st_100) (by omega)
            obtain ⟨u101, hu101, hKr101, hs101⟩ := hT101
            obtain ⟨st_104, est_104⟩ : ∃ z : PS, z = tkP bt n 0 400 st_100 := ⟨_, rfl⟩
            rw [← est_104] at hKr101
            have h18r101 := hKr101.1
            have h22r101 := hKr101.2.1
            have hrgr101 := hKr101.2.2.1
            have hcbr101 := hKr101.cb
            refine k_istore_n hC [(3, vI (rnV bt n 0 400 st_100)), (2, vI (rnV bt n 0 21599 st_96)), (1, vI (rnV bt n 0 5000 st_24)), (0, .ref (kad G 133))] dX12_readLeg_177 rfl (by decide) rfl ?_
            refine k_aload_n hC dX12_readLeg_178 rfl 3 rfl ?_
            refine k_get hC fd_X12_386 (kl hN (by decide)) hu101 rfl dX12_readLeg_179 ?_
            refine k_if_ne hC 198 dX12_readLeg_182 rfl (by omega) (fun c_182 => ?_) (fun c_182 => ?_)
            · have hzzr101 : st_104.1 ≠ 0 := by omega
              have h_105 : w101 135 = lA G 93 D := (hf101 135 (by decide)).trans ((hf97 135 (by decide)).trans ((hf93 135 (by decide)).trans ((hf92 135 (by decide)).trans h_60)))
              subst hQ
              exact k_vret hC hr ⟨by decide, by decide⟩ (⟨rfl, rfl, ⟨_, hu101, (by have e : st_104 = clLegS bt n D st := (by unfold clLegS; rw [selP_0 (by omega), ← est_24]; have hbb : adP bt n (lgB bt n D st_24) = st_96 := (by unfold lgB; rw [selP_0 (fun q => by have q1 := q.2; omega)]; exact est_96.symm); rw [hbb, ← est_100]; exact est_104); rw [← e]; exact hKr101), (uS.tr (uS.tr (uS.tr (uS.tr (uS.tr (uS.tr (uS.tr (uS.tr (fun j _ => rfl) hs21) hs22) hs41) hs59) hs92) hs93) hs97) hs101)⟩, ⟨⟨_, h_105⟩, fun hc => absurd hc (by have hq : st_104 = clLegS bt n D st := (by unfold clLegS; rw [selP_0 (by omega), ← est_24]; have hbb : adP bt n (lgB bt n D st_24) = st_96 := (by unfold lgB; rw [selP_0 (fun q => by have q1 := q.2; omega)]; exact est_96.symm); rw [hbb, ← est_100]; exact est_104); rw [← hq]; omega)⟩, fun j hj => (hf101 j (by omega)).trans ((hf97 j (by omega)).trans ((hf93 j (by omega)).trans ((hf92 j (by omega)).trans ((hf59 j (by omega)).trans ((hf41 j (by omega)).trans ((hf22 j (by omega)).trans (hf21 j (by omega))))))))⟩) dX12_readLeg_198
            · have hzzr101 : st_104.1 = 0 := by omega
              have hq0r101 := hKr101.2.2.2.1 hzzr101
              have henr101 := enM_b (bt := bt) hq0r101.2.2.2
              refine k_aload_n hC dX12_readLeg_185 rfl 3 rfl ?_
              refine k_get hC fd_X12_13 (kl hN (by decide)) hu101 rfl dX12_readLeg_186 ?_
              refine k_iload_n hC dX12_readLeg_189 rfl 2 rfl ?_
              refine k_i2l hC dX12_readLeg_190 (by omega) ?_
              refine k_iload_n hC dX12_readLeg_191 rfl 1 rfl ?_
              refine k_i2l hC dX12_readLeg_192 (by omega) ?_
              refine k_iload_n hC dX12_readLeg_193 rfl 0 rfl ?_
              refine k_i2l hC dX12_readLeg_194 (by omega) ?_
              have h_106 : w101 135 = lA G 93 D := (hf101 135 (by decide)).trans ((hf97 135 (by decide)).trans ((hf93 135 (by decide)).trans ((hf92 135 (by decide)).trans h_60)))
              refine k_muvS hC (c_X12_addLeg l hls G hN w101 fl 135 D (rnV bt n 0 5000 st_24) (rnV bt n 0 21599 st_96) (rnV bt n 0 400 st_100) (by decide) (by omega) h_106) yy_X12_addLeg wm_X12_322 rfl rfl (Nat.le_of_ble_eq_true rfl) (by decide) (by decide) ⟨by decide, by decide⟩ dX12_readLeg_195 (fun w107 hp107 => ?_)
              obtain ⟨hr107, hf107⟩ := hp107
              have h_108 : w107 133 = .inr (12, [.ref (kad G 134), .ref (kad G 135), .ref (kad G 136), .ref (kad G 137), vI (u101 4), vI (u101 5), vI (u101 6), .ref (kad G 138), .ref (kad G 139), .ref (kad G 140), .ref (kad G 141), .ref (kad G 142), vL (u101 12), vL (u101 13), .ref (kad G 143), vI (u101 15), .ref (kad G 144), vI (u101 17), vI (u101 18), vI (u101 19), vI (u101 20), vI (u101 21), vI (u101 22), vI (u101 23), vI (u101 24), vI (u101 25), .ref (kad G 145), .ref (kad G 146), .ref (kad G 147), vI (u101 29)]) := (hf107 133 (by decide)).trans hu101
              subst hQ
              exact k_vret hC hr ⟨by decide, by decide⟩ (⟨rfl, rfl, ⟨_, h_108, (by have e : st_104 = clLegS bt n D st := (by unfold clLegS; rw [selP_0 (by omega), ← est_24]; have hbb : adP bt n (lgB bt n D st_24) = st_96 := (by unfold lgB; rw [selP_0 (fun q => by have q1 := q.2; omega)]; exact est_96.symm); rw [hbb, ← est_100]; exact est_104); rw [← e]; exact hKr101), (uS.tr (uS.tr (uS.tr (uS.tr (uS.tr (uS.tr (uS.tr (uS.tr (fun j _ => rfl) hs21) hs22) hs41) hs59) hs92) hs93) hs97) hs101)⟩, ⟨⟨_, hr107⟩, fun hc => hr107.trans (by have hq : st_104 = clLegS bt n D st := (by unfold clLegS; rw [selP_0 (by omega), ← est_24]; have hbb : adP bt n (lgB bt n D st_24) = st_96 := (by unfold lgB; rw [selP_0 (fun q => by have q1 := q.2; omega)]; exact est_96.symm); rw [hbb, ← est_100]; exact est_104); rw [← hq] at hc; unfold clLegD; rw [← est_24]; have hbb : adP bt n (lgB bt n D st_24) = st_96 := (by unfold lgB; rw [selP_0 (fun q => by have q1 := q.2; omega)]; exact est_96.symm); have hx1 : st_100.1 = 0 := (by have h := hc; rw [est_104] at h; exact tkok h); have hx0 : st_96.1 = 0 := (by have h := hx1; rw [est_100] at h; exact tkok h); rw [hbb, ← est_100, ← rnV_0 (lo := 0) (hi := 5000) (st := st_24) (by rw [← est_96]; exact hx0), ← rnV_0 (lo := 0) (hi := 21599) (st := st_96) (by rw [← est_100]; exact hx1), ← rnV_0 (lo := 0) (hi := 400) (st := st_100) (by rw [← est_104]; exact hc)])⟩, fun j hj => (hf107 j (by omega)).trans ((hf101 j (by omega)).trans ((hf97 j (by omega)).trans ((hf93 j (by omega)).trans ((hf92 j (by omega)).trans ((hf59 j (by omega)).trans ((hf41 j (by omega)).trans ((hf22 j (by omega)).trans (hf21 j (by omega)))))))))⟩) dX12_readLeg_198

set_option maxRecDepth 100000 in
set_option maxHeartbeats 4000000 in
theorem c_X12_readSight (l : Launch) (hls : l.stackTraces = false) (G : kG) (hN : kN G = 150) (w : Nat → va_E) (fl : va_W) (u bt : Nat → Int) (n : Nat) (st : PS) (D : Nat → Int) (hz0 : st.1 = 0) (hI : Inv D) (hNb : NmB D) (hn7 : n ≤ 700) (hb : btOK bt) (hm : w 133 = mdO G u) (h144 : w 144 = iA G 700 bt) (hK : mkR u bt n st) (h135 : w 135 = lA G 93 D) : KM l G yX12_readSight cX12_readSight 4 (none) 5 0 0 [.ref (kad G 133)] w fl (kMuv fl (fun w1 => rT G u bt n (clSightS bt n D st) w1 ∧ ((∃ D1, w1 135 = lA G 93 D1) ∧ ((clSightS bt n D st).1 = 0 → w1 135 = lA G 93 (clSightD bt n D st))) ∧ ∀ j, (j ≠ 133 ∧ j ≠ 135) → w1 j = w j)) := by
  refine KM_of2 hls (by decide +kernel) rfl (lv0 := [(0, .ref (kad G 133))]) rfl (Nat.le_of_ble_eq_true rfl) (fun p e R s m args below meth c Q hC hr hQ => ?_)
  have h18 := hK.1
  have h22 := hK.2.1
  have hrg := hK.2.2.1
  have hcb := hK.cb
  have h0 := hI.c
  have hzz : st.1 = 0 := by omega
  have hq0 := hK.2.2.2.1 hzz
  have hen := enM_b (bt := bt) hq0.2.2.2
  refine k_aload_n hC dX12_readSight_0 rfl 0 rfl ?_
  refine k_aload_n hC dX12_readSight_1 rfl 0 rfl ?_
  refine k_get hC fd_X12_13 (kl hN (by decide)) hm rfl dX12_readSight_2 ?_
  refine k_iconst hC dX12_readSight_5 ?_
  refine k_lald hC (kl hN (by decide)) h135 (by omega) (by decide) dX12_readSight_6 ?_
  refine k_topv (vL (D 2)) rfl ?_
  refine k_ldc2 hC (x := 12) (v := 12) dX12_readSight_7 (by decide) wk_X12_307 ?_
  refine k_lcmp_ge hC 18 dX12_readSight_10 dX12_readSight_11 rfl (by omega) (by omega) (fun c_10 => ?_) (fun c_10 => ?_)
  · refine k_iconst hC dX12_readSight_18 ?_
    refine k_iconst hC dX12_readSight_19 ?_
    refine k_muvV hC (c_X12_check0 l hls G hN w fl u bt n st 3 (by omega) hn7 hb hm h144 hK) yy_X12_check wm_X12_413 (kl hN (by decide)) hm rfl rfl rfl rfl (Nat.le_of_ble_eq_true rfl) (by decide) (by decide) ⟨by decide, by decide⟩ dX12_readSight_20 (fun w1 hp1 => ?_)
    obtain ⟨hT1, hf1⟩ := hp1
    obtain ⟨u1, hu1, hKr1, hs1⟩ := hT1
    obtain ⟨st_2, est_2⟩ : ∃ z : PS, z = flP 3 st := ⟨_, rfl⟩
    rw [← est_2] at hKr1
    have h18r1 := hKr1.1
    have h22r1 := hKr1.2.1
    have hrgr1 := hKr1.2.2.1
    have hcbr1 := hKr1.cb
    have hzzr1 : st_2.1 ≠ 0 := by rw [est_2]; exact fl_c (by omega)
    refine k_aload_n hC dX12_readSight_23 rfl 0 rfl ?_
    have h_4 : w1 144 = iA G 700 bt := (hf1 144 (by decide)).trans h144
    refine k_muvV hC (c_X12_advance l hls G hN w1 fl u1 bt n st_2  hn7 hb hu1 h_4 hKr1) yy_X12_advance wm_X12_417 (kl hN (by decide)) hu1 rfl rfl rfl rfl (Nat.le_of_ble_eq_true rfl) (by decide) (by decide) ⟨by decide, by decide⟩ dX12_readSight_24 (fun w3 hp3 => ?_)
    obtain ⟨hT3, hf3⟩ := hp3
    obtain ⟨u3, hu3, hKr3, hs3⟩ := hT3
    obtain ⟨st_5, est_5⟩ : ∃ z : PS, z = adP bt n st_2 := ⟨_, rfl⟩
    rw [← est_5] at hKr3
    have h18r3 := hKr3.1
    have h22r3 := hKr3.2.1
    have hrgr3 := hKr3.2.2.1
    have hcbr3 := hKr3.cb
    have hzzr3 : st_5.1 ≠ 0 := by rw [est_5, adP_e (by omega)]; omega
    refine k_aload_n hC dX12_readSight_27 rfl 0 rfl ?_
    refine k_aload_n hC dX12_readSight_28 rfl 0 rfl ?_
    refine k_get hC fd_X12_386 (kl hN (by decide)) hu3 rfl dX12_readSight_29 ?_
    refine k_if_ne hC 43 dX12_readSight_32 rfl (by omega) (fun c_32 => ?_) (fun c_32 => absurd c_32 (by omega))
    refine k_iconst hC dX12_readSight_43 ?_
    refine k_goto hC 48 dX12_readSight_44 rfl ?_
    refine k_iconst hC dX12_readSight_48 ?_
    have h_7 : w3 144 = iA G 700 bt := (hf3 144 (by decide)).trans h_4
    refine k_muvV hC (c_X12_check1 l hls G hN w3 fl u3 bt n st_5 1 (by omega) hn7 hb hu3 h_7 hKr3) yy_X12_check wm_X12_413 (kl hN (by decide)) hu3 rfl rfl rfl rfl (Nat.le_of_ble_eq_true rfl) (by decide) (by decide) ⟨by decide, by decide⟩ dX12_readSight_49 (fun w6 hp6 => ?_)
    obtain ⟨hT6, hf6⟩ := hp6
    obtain ⟨u6, hu6, hKr6, hs6⟩ := hT6
    have h18r6 := hKr6.1
    have h22r6 := hKr6.2.1
    have hrgr6 := hKr6.2.2.1
    have hcbr6 := hKr6.cb
    have hzzr6 : st_5.1 ≠ 0 := by omega
    refine k_aload_n hC dX12_readSight_52 rfl 0 rfl ?_
    refine k_get hC fd_X12_386 (kl hN (by decide)) hu6 rfl dX12_readSight_53 ?_
    refine k_if_ne hC 66 dX12_readSight_56 rfl (by omega) (fun c_56 => ?_) (fun c_56 => absurd c_56 (by omega))
    refine k_iconst hC dX12_readSight_66 ?_
    refine k_istore_n hC [(1, vI (-1)), (0, .ref (kad G 133))] dX12_readSight_67 rfl (by decide) rfl ?_
    refine k_aload_n hC dX12_readSight_68 rfl 1 rfl ?_
    refine k_aload_n hC dX12_readSight_69 rfl 1 rfl ?_
    refine k_get hC fd_X12_386 (kl hN (by decide)) hu6 rfl dX12_readSight_70 ?_
    refine k_if_ne hC 81 dX12_readSight_73 rfl (by omega) (fun c_73 => ?_) (fun c_73 => absurd c_73 (by omega))
    refine k_iconst hC dX12_readSight_81 ?_
    refine k_goto hC 86 dX12_readSight_82 rfl ?_
    refine k_iconst hC dX12_readSight_86 ?_
    have h_9 : w6 144 = iA G 700 bt := (hf6 144 (by decide)).trans h_7
    refine k_muvV hC (c_X12_check1 l hls G hN w6 fl u6 bt n st_5 4 (by omega) hn7 hb hu6 h_9 hKr6) yy_X12_check wm_X12_413 (kl hN (by decide)) hu6 rfl rfl rfl rfl (Nat.le_of_ble_eq_true rfl) (by decide) (by decide) ⟨by decide, by decide⟩ dX12_readSight_87 (fun w8 hp8 => ?_)
    obtain ⟨hT8, hf8⟩ := hp8
    obtain ⟨u8, hu8, hKr8, hs8⟩ := hT8
    have h18r8 := hKr8.1
    have h22r8 := hKr8.2.1
    have hrgr8 := hKr8.2.2.1
    have hcbr8 := hKr8.cb
    have hzzr8 : st_5.1 ≠ 0 := by omega
    refine k_aload_n hC dX12_readSight_90 rfl 1 rfl ?_
    have h_11 : w8 144 = iA G 700 bt := (hf8 144 (by decide)).trans h_9
    refine k_muvV hC (c_X12_advance l hls G hN w8 fl u8 bt n st_5  hn7 hb hu8 h_11 hKr8) yy_X12_advance wm_X12_417 (kl hN (by decide)) hu8 rfl rfl rfl rfl (Nat.le_of_ble_eq_true rfl) (by decide) (by decide) ⟨by decide, by decide⟩ dX12_readSight_91 (fun w10 hp10 => ?_)
    obtain ⟨hT10, hf10⟩ := hp10
    obtain ⟨u10, hu10, hKr10, hs10⟩ := hT10
    obtain ⟨st_12, est_12⟩ : ∃ z : PS, z = adP bt n st_5 := ⟨_, rfl⟩
    rw [← est_12] at hKr10
    have h18r10 := hKr10.1
    have h22r10 := hKr10.2.1
    have hrgr10 := hKr10.2.2.1
    have hcbr10 := hKr10.cb
    have hzzr10 : st_12.1 ≠ 0 := by rw [est_12, adP_e (by omega)]; omega
    refine k_aload_n hC dX12_readSight_94 rfl 1 rfl ?_
    refine k_iconst hC dX12_readSight_95 ?_
    refine k_sipush hC dX12_readSight_96 (by decide) ?_
    have h_14 : w10 144 = iA G 700 bt := (hf10 144 (by decide)).trans h_11
    refine k_mutV hC (c_X12_readNumber l hls G hN w10 fl u10 bt n st_12 0 5000 (by omega) (by omega) hn7 hb hu10 h_14 hKr10) yy_X12_readNumber wm_X12_435 (kl hN (by decide)) hu10 rfl rfl rfl rfl (Nat.le_of_ble_eq_true rfl) (by decide) (by decide) ⟨by decide, by decide⟩ dX12_readSight_99 (fun w13 hp13 => ?_)
    obtain ⟨hT13, hf13⟩ := hp13
    have hnv_15 := rnV_b (bt := bt) (n := n) (lo := 0) (hi := 5000) (st := st_12) (by omega)
    obtain ⟨u13, hu13, hKr13, hs13⟩ := hT13
    obtain ⟨st_16, est_16⟩ : ∃ z : PS, z = tkP bt n 0 5000 st_12 := ⟨_, rfl⟩
    rw [← est_16] at hKr13
    have h18r13 := hKr13.1
    have h22r13 := hKr13.2.1
    have hrgr13 := hKr13.2.2.1
    have hcbr13 := hKr13.cb
    have hzzr13 : st_16.1 ≠ 0 := by rw [est_16, tkP_e (by omega)]; omega
    refine k_istore_n hC [(2, vI (rnV bt n 0 5000 st_12)), (1, vI (-1)), (0, .ref (kad G 133))] dX12_readSight_102 rfl (by decide) rfl ?_
    refine k_aload_n hC dX12_readSight_103 rfl 2 rfl ?_
    refine k_sipush hC dX12_readSight_104 (by decide) ?_
    refine k_sipush hC dX12_readSight_107 (by decide) ?_
    have h_18 : w13 144 = iA G 700 bt := (hf13 144 (by decide)).trans h_14
    refine k_mutV hC (c_X12_readNumber l hls G hN w13 fl u13 bt n st_16 300 5100 (by omega) (by omega) hn7 hb hu13 h_18 hKr13) yy_X12_readNumber wm_X12_435 (kl hN (by decide)) hu13 rfl rfl rfl rfl (Nat.le_of_ble_eq_true rfl) (by decide) (by decide) ⟨by decide, by decide⟩ dX12_readSight_110 (fun w17 hp17 => ?_)
    obtain ⟨hT17, hf17⟩ := hp17
    have hnv_19 := rnV_b (bt := bt) (n := n) (lo := 300) (hi := 5100) (st := st_16) (by omega)
    obtain ⟨u17, hu17, hKr17, hs17⟩ := hT17
    obtain ⟨st_20, est_20⟩ : ∃ z : PS, z = tkP bt n 300 5100 st_16 := ⟨_, rfl⟩
    rw [← est_20] at hKr17
    have h18r17 := hKr17.1
    have h22r17 := hKr17.2.1
    have hrgr17 := hKr17.2.2.1
    have hcbr17 := hKr17.cb
    have hzzr17 : st_20.1 ≠ 0 := by rw [est_20, tkP_e (by omega)]; omega
    refine k_istore_n hC [(3, vI (rnV bt n 300 5100 st_16)), (2, vI (rnV bt n 0 5000 st_12)), (1, vI (-1)), (0, .ref (kad G 133))] dX12_readSight_113 rfl (by decide) rfl ?_
    refine k_aload_n hC dX12_readSight_114 rfl 3 rfl ?_
    refine k_get hC fd_X12_386 (kl hN (by decide)) hu17 rfl dX12_readSight_115 ?_
    refine k_if_ne hC 134 dX12_readSight_118 rfl (by omega) (fun c_118 => ?_) (fun c_118 => absurd c_118 (by omega))
    have h_21 : w17 135 = lA G 93 D := (hf17 135 (by decide)).trans ((hf13 135 (by decide)).trans ((hf10 135 (by decide)).trans ((hf8 135 (by decide)).trans ((hf6 135 (by decide)).trans ((hf3 135 (by decide)).trans ((hf1 135 (by decide)).trans h135))))))
    subst hQ
    exact k_vret hC hr ⟨by decide, by decide⟩ (⟨rfl, rfl, ⟨_, hu17, (by have e : st_20 = clSightS bt n D st := (by unfold clSightS; rw [selP_1 (by omega), ← est_2]; rw [est_20, tkP_e (by omega), est_16, tkP_e (by omega), est_12, adP_e (by omega), est_5, adP_e (by omega)]); rw [← e]; exact hKr17), (uS.tr (uS.tr (uS.tr (uS.tr (uS.tr (uS.tr (uS.tr (fun j _ => rfl) hs1) hs3) hs6) hs8) hs10) hs13) hs17)⟩, ⟨⟨_, h_21⟩, fun hc => absurd hc (by have hq : st_20 = clSightS bt n D st := (by unfold clSightS; rw [selP_1 (by omega), ← est_2]; rw [est_20, tkP_e (by omega), est_16, tkP_e (by omega), est_12, adP_e (by omega), est_5, adP_e (by omega)]); rw [← hq]; omega)⟩, fun j hj => (hf17 j (by omega)).trans ((hf13 j (by omega)).trans ((hf10 j (by omega)).trans ((hf8 j (by omega)).trans ((hf6 j (by omega)).trans ((hf3 j (by omega)).trans (hf1 j (by omega)))))))⟩) dX12_readSight_134
  · refine k_iconst hC dX12_readSight_14 ?_
    refine k_goto hC 19 dX12_readSight_15 rfl ?_
    refine k_iconst hC dX12_readSight_19 ?_
    refine k_muvV hC (c_X12_check1 l hls G hN w fl u bt n st 3 (by omega) hn7 hb hm h144 hK) yy_X12_check wm_X12_413 (kl hN (by decide)) hm rfl rfl rfl rfl (Nat.le_of_ble_eq_true rfl) (by decide) (by decide) ⟨by decide, by decide⟩ dX12_readSight_20 (fun w22 hp22 => ?_)
    obtain ⟨hT22, hf22⟩ := hp22
    obtain ⟨u22, hu22, hKr22, hs22⟩ := hT22
    have h18r22 := hKr22.1
    have h22r22 := hKr22.2.1
    have hrgr22 := hKr22.2.2.1
    have hcbr22 := hKr22.cb
    have hzzr22 : st.1 = 0 := by omega
    have hq0r22 := hKr22.2.2.2.1 hzzr22
    have henr22 := enM_b (bt := bt) hq0r22.2.2.2
    refine k_aload_n hC dX12_readSight_23 rfl 0 rfl ?_
    have h_24 : w22 144 = iA G 700 bt := (hf22 144 (by decide)).trans h144
    refine k_muvV hC (c_X12_advance l hls G hN w22 fl u22 bt n st  hn7 hb hu22 h_24 hKr22) yy_X12_advance wm_X12_417 (kl hN (by decide)) hu22 rfl rfl rfl rfl (Nat.le_of_ble_eq_true rfl) (by decide) (by decide) ⟨by decide, by decide⟩ dX12_readSight_24 (fun w23 hp23 => ?_)
    obtain ⟨hT23, hf23⟩ := hp23
    obtain ⟨u23, hu23, hKr23, hs23⟩ := hT23
    obtain ⟨st_25, est_25⟩ : ∃ z : PS, z = adP bt n st := ⟨_, rfl⟩
    rw [← est_25] at hKr23
    have h18r23 := hKr23.1
    have h22r23 := hKr23.2.1
    have hrgr23 := hKr23.2.2.1
    have hcbr23 := hKr23.cb
    have hzir23 : st_25.1 = 0 := by rw [est_25]; exact ad_c.mpr (by omega)
    have hzzr23 : st_25.1 = 0 := by omega
    have hq0r23 := hKr23.2.2.2.1 hzzr23
    have henr23 := enM_b (bt := bt) hq0r23.2.2.2
    refine k_aload_n hC dX12_readSight_27 rfl 0 rfl ?_
    refine k_aload_n hC dX12_readSight_28 rfl 0 rfl ?_
    refine k_get hC fd_X12_386 (kl hN (by decide)) hu23 rfl dX12_readSight_29 ?_
    refine k_topv (vI 0) (congrArg vI (by omega)) ?_
    refine k_if_ne hC 43 dX12_readSight_32 rfl (by omega) (fun c_32 => absurd c_32 (by omega)) (fun c_32 => ?_)
    refine k_aload_n hC dX12_readSight_35 rfl 0 rfl ?_
    refine k_get hC fd_X12_377 (kl hN (by decide)) hu23 rfl dX12_readSight_36 ?_
    refine k_iconst hC dX12_readSight_39 ?_
    refine k_icmp_ne hC 47 dX12_readSight_40 rfl (by omega) (by omega) (fun c_40 => ?_) (fun c_40 => ?_)
    · refine k_iconst hC dX12_readSight_47 ?_
      refine k_iconst hC dX12_readSight_48 ?_
      have h_27 : w23 144 = iA G 700 bt := (hf23 144 (by decide)).trans h_24
      refine k_muvV hC (c_X12_check0 l hls G hN w23 fl u23 bt n st_25 1 (by omega) hn7 hb hu23 h_27 hKr23) yy_X12_check wm_X12_413 (kl hN (by decide)) hu23 rfl rfl rfl rfl (Nat.le_of_ble_eq_true rfl) (by decide) (by decide) ⟨by decide, by decide⟩ dX12_readSight_49 (fun w26 hp26 => ?_)
      obtain ⟨hT26, hf26⟩ := hp26
      obtain ⟨u26, hu26, hKr26, hs26⟩ := hT26
      obtain ⟨st_28, est_28⟩ : ∃ z : PS, z = flP 1 st_25 := ⟨_, rfl⟩
      rw [← est_28] at hKr26
      have h18r26 := hKr26.1
      have h22r26 := hKr26.2.1
      have hrgr26 := hKr26.2.2.1
      have hcbr26 := hKr26.cb
      have hzzr26 : st_28.1 ≠ 0 := by rw [est_28]; exact fl_c (by omega)
      refine k_aload_n hC dX12_readSight_52 rfl 0 rfl ?_
      refine k_get hC fd_X12_386 (kl hN (by decide)) hu26 rfl dX12_readSight_53 ?_
      refine k_if_ne hC 66 dX12_readSight_56 rfl (by omega) (fun c_56 => ?_) (fun c_56 => absurd c_56 (by omega))
      refine k_iconst hC dX12_readSight_66 ?_
      refine k_istore_n hC [(1, vI (-1)), (0, .ref (kad G 133))] dX12_readSight_67 rfl (by decide) rfl ?_
      refine k_aload_n hC dX12_readSight_68 rfl 1 rfl ?_
      refine k_aload_n hC dX12_readSight_69 rfl 1 rfl ?_
      refine k_get hC fd_X12_386 (kl hN (by decide)) hu26 rfl dX12_readSight_70 ?_
      refine k_if_ne hC 81 dX12_readSight_73 rfl (by omega) (fun c_73 => ?_) (fun c_73 => absurd c_73 (by omega))
      refine k_iconst hC dX12_readSight_81 ?_
      refine k_goto hC 86 dX12_readSight_82 rfl ?_
      refine k_iconst hC dX12_readSight_86 ?_
      have h_30 : w26 144 = iA G 700 bt := (hf26 144 (by decide)).trans h_27
      refine k_muvV hC (c_X12_check1 l hls G hN w26 fl u26 bt n st_28 4 (by omega) hn7 hb hu26 h_30 hKr26) yy_X12_check wm_X12_413 (kl hN (by decide)) hu26 rfl rfl rfl rfl (Nat.le_of_ble_eq_true rfl) (by decide) (by decide) ⟨by decide, by decide⟩ dX12_readSight_87 (fun w29 hp29 => ?_)
      obtain ⟨hT29, hf29⟩ := hp29
      obtain ⟨u29, hu29, hKr29, hs29⟩ := hT29
      have h18r29 := hKr29.1
      have h22r29 := hKr29.2.1
      have hrgr29 := hKr29.2.2.1
      have hcbr29 := hKr29.cb
      have hzzr29 : st_28.1 ≠ 0 := by omega
      refine k_aload_n hC dX12_readSight_90 rfl 1 rfl ?_
      have h_32 : w29 144 = iA G 700 bt := (hf29 144 (by decide)).trans h_30
      refine k_muvV hC (c_X12_advance l hls G hN w29 fl u29 bt n st_28  hn7 hb hu29 h_32 hKr29) yy_X12_advance wm_X12_417 (kl hN (by decide)) hu29 rfl rfl rfl rfl (Nat.le_of_ble_eq_true rfl) (by decide) (by decide) ⟨by decide, by decide⟩ dX12_readSight_91 (fun w31 hp31 => ?_)
      obtain ⟨hT31, hf31⟩ := hp31
      obtain ⟨u31, hu31, hKr31, hs31⟩ := hT31
      obtain ⟨st_33, est_33⟩ : ∃ z : PS, z = adP bt n st_28 := ⟨_, rfl⟩
      rw [← est_33] at hKr31
      have h18r31 := hKr31.1
      have h22r31 := hKr31.2.1
      have hrgr31 := hKr31.2.2.1
      have hcbr31 := hKr31.cb
      have hzzr31 : st_33.1 ≠ 0 := by rw [est_33, adP_e (by omega)]; omega
      refine k_aload_n hC dX12_readSight_94 rfl 1 rfl ?_
      refine k_iconst hC dX12_readSight_95 ?_
      refine k_sipush hC dX12_readSight_96 (by decide) ?_
      have h_35 : w31 144 = iA G 700 bt := (hf31 144 (by decide)).trans h_32
      refine k_mutV hC (c_X12_readNumber l hls G hN w31 fl u31 bt n st_33 0 5000 (by omega) (by omega) hn7 hb hu31 h_35 hKr31) yy_X12_readNumber wm_X12_435 (kl hN (by decide)) hu31 rfl rfl rfl rfl (Nat.le_of_ble_eq_true rfl) (by decide) (by decide) ⟨by decide, by decide⟩ dX12_readSight_99 (fun w34 hp34 => ?_)
      obtain ⟨hT34, hf34⟩ := hp34
      have hnv_36 := rnV_b (bt := bt) (n := n) (lo := 0) (hi := 5000) (st := st_33) (by omega)
      obtain ⟨u34, hu34, hKr34, hs34⟩ := hT34
      obtain ⟨st_37, est_37⟩ : ∃ z : PS, z = tkP bt n 0 5000 st_33 := ⟨_, rfl⟩
      rw [← est_37] at hKr34
      have h18r34 := hKr34.1
      have h22r34 := hKr34.2.1
      have hrgr34 := hKr34.2.2.1
      have hcbr34 := hKr34.cb
      have hzzr34 : st_37.1 ≠ 0 := by rw [est_37, tkP_e (by omega)]; omega
      refine k_istore_n hC [(2, vI (rnV bt n 0 5000 st_33)), (1, vI (-1)), (0, .ref (kad G 133))] dX12_readSight_102 rfl (by decide) rfl ?_
      refine k_aload_n hC dX12_readSight_103 rfl 2 rfl ?_
      refine k_sipush hC dX12_readSight_104 (by decide) ?_
      refine k_sipush hC dX12_readSight_107 (by decide) ?_
      have h_39 : w34 144 = iA G 700 bt := (hf34 144 (by decide)).trans h_35
      refine k_mutV hC (c_X12_readNumber l hls G hN w34 fl u34 bt n st_37 300 5100 (by omega) (by omega) hn7 hb hu34 h_39 hKr34) yy_X12_readNumber wm_X12_435 (kl hN (by decide)) hu34 rfl rfl rfl rfl (Nat.le_of_ble_eq_true rfl) (by decide) (by decide) ⟨by decide, by decide⟩ dX12_readSight_110 (fun w38 hp38 => ?_)
      obtain ⟨hT38, hf38⟩ := hp38
      have hnv_40 := rnV_b (bt := bt) (n := n) (lo := 300) (hi := 5100) (st := st_37) (by omega)
      obtain ⟨u38, hu38, hKr38, hs38⟩ := hT38
      obtain ⟨st_41, est_41⟩ : ∃ z : PS, z = tkP bt n 300 5100 st_37 := ⟨_, rfl⟩
      rw [← est_41] at hKr38
      have h18r38 := hKr38.1
      have h22r38 := hKr38.2.1
      have hrgr38 := hKr38.2.2.1
      have hcbr38 := hKr38.cb
      have hzzr38 : st_41.1 ≠ 0 := by rw [est_41, tkP_e (by omega)]; omega
      refine k_istore_n hC [(3, vI (rnV bt n 300 5100 st_37)), (2, vI (rnV bt n 0 5000 st_33)), (1, vI (-1)), (0, .ref (kad G 133))] dX12_readSight_113 rfl (by decide) rfl ?_
      refine k_aload_n hC dX12_readSight_114 rfl 3 rfl ?_
      refine k_get hC fd_X12_386 (kl hN (by decide)) hu38 rfl dX12_readSight_115 ?_
      refine k_if_ne hC 134 dX12_readSight_118 rfl (by omega) (fun c_118 => ?_) (fun c_118 => absurd c_118 (by omega))
      have h_42 : w38 135 = lA G 93 D := (hf38 135 (by decide)).trans ((hf34 135 (by decide)).trans ((hf31 135 (by decide)).trans ((hf29 135 (by decide)).trans ((hf26 135 (by decide)).trans ((hf23 135 (by decide)).trans ((hf22 135 (by decide)).trans h135))))))
      subst hQ
      exact k_vret hC hr ⟨by decide, by decide⟩ (⟨rfl, rfl, ⟨_, hu38, (by have e : st_41 = clSightS bt n D st := (by unfold clSightS; rw [selP_0 (by omega), ← est_25]; have hbb : sgB bt n D st_25 = st_28 := (by unfold sgB; rw [selP_0 (fun q => by have q2 := q.2; omega)]; exact est_28.symm); rw [hbb, ← est_33, ← est_37]; exact est_41); rw [← e]; exact hKr38), (uS.tr (uS.tr (uS.tr (uS.tr (uS.tr (uS.tr (uS.tr (fun j _ => rfl) hs22) hs23) hs26) hs29) hs31) hs34) hs38)⟩, ⟨⟨_, h_42⟩, fun hc => absurd hc (by have hq : st_41 = clSightS bt n D st := (by unfold clSightS; rw [selP_0 (by omega), ← est_25]; have hbb : sgB bt n D st_25 = st_28 := (by unfold sgB; rw [selP_0 (fun q => by have q2 := q.2; omega)]; exact est_28.symm); rw [hbb, ← est_33, ← est_37]; exact est_41); rw [← hq]; omega)⟩, fun j hj => (hf38 j (by omega)).trans ((hf34 j (by omega)).trans ((hf31 j (by omega)).trans ((hf29 j (by omega)).trans ((hf26 j (by omega)).trans ((hf23 j (by omega)).trans (hf22 j (by omega)))))))⟩) dX12_readSight_134
    · refine k_iconst hC dX12_readSight_43 ?_
      refine k_goto hC 48 dX12_readSight_44 rfl ?_
      refine k_iconst hC dX12_readSight_48 ?_
      have h_44 : w23 144 = iA G 700 bt := (hf23 144 (by decide)).trans h_24
      refine k_muvV hC (c_X12_check1 l hls G hN w23 fl u23 bt n st_25 1 (by omega) hn7 hb hu23 h_44 hKr23) yy_X12_check wm_X12_413 (kl hN (by decide)) hu23 rfl rfl rfl rfl (Nat.le_of_ble_eq_true rfl) (by decide) (by decide) ⟨by decide, by decide⟩ dX12_readSight_49 (fun w43 hp43 => ?_)
      obtain ⟨hT43, hf43⟩ := hp43
      obtain ⟨u43, hu43, hKr43, hs43⟩ := hT43
      have h18r43 := hKr43.1
      have h22r43 := hKr43.2.1
      have hrgr43 := hKr43.2.2.1
      have hcbr43 := hKr43.cb
      have hzzr43 : st_25.1 = 0 := by omega
      have hq0r43 := hKr43.2.2.2.1 hzzr43
      have henr43 := enM_b (bt := bt) hq0r43.2.2.2
      refine k_aload_n hC dX12_readSight_52 rfl 0 rfl ?_
      refine k_get hC fd_X12_386 (kl hN (by decide)) hu43 rfl dX12_readSight_53 ?_
      refine k_topv (vI 0) (congrArg vI (by omega)) ?_
      refine k_if_ne hC 66 dX12_readSight_56 rfl (by omega) (fun c_56 => absurd c_56 (by omega)) (fun c_56 => ?_)
      refine k_aload_n hC dX12_readSight_59 rfl 0 rfl ?_
      have h_45 : w43 135 = lA G 93 D := (hf43 135 (by decide)).trans ((hf23 135 (by decide)).trans ((hf22 135 (by decide)).trans h135))
      have h_46 : w43 144 = iA G 700 bt := (hf43 144 (by decide)).trans h_44
      refine k_pureV hC (c_X12_bodyHere l hls G hN w43 fl u43 bt n st_25 D (by omega) (by omega) hNb hn7 hb hu43 h_46 hKr43 h_45) yy_X12_bodyHere wm_X12_439 (kl hN (by decide)) hu43 rfl rfl rfl rfl (Nat.le_of_ble_eq_true rfl) (by decide) (by decide) ⟨by decide, by decide⟩ dX12_readSight_60 ?_
      have hbm_47 := bdM_b (bt := bt) (n := n) (st := st_25) hI
      refine k_goto hC 67 dX12_readSight_63 rfl ?_
      refine k_istore_n hC [(1, vI (bdM bt n D st_25)), (0, .ref (kad G 133))] dX12_readSight_67 rfl (by decide) rfl ?_
      refine k_aload_n hC dX12_readSight_68 rfl 1 rfl ?_
      refine k_aload_n hC dX12_readSight_69 rfl 1 rfl ?_
      refine k_get hC fd_X12_386 (kl hN (by decide)) hu43 rfl dX12_readSight_70 ?_
      refine k_topv (vI 0) (congrArg vI (by omega)) ?_
      refine k_if_ne hC 81 dX12_readSight_73 rfl (by omega) (fun c_73 => absurd c_73 (by omega)) (fun c_73 => ?_)
      refine k_iload_n hC dX12_readSight_76 rfl 0 rfl ?_
      refine k_iconst hC dX12_readSight_77 ?_
      refine k_icmp_eq hC 85 dX12_readSight_78 rfl (by omega) (by omega) (fun c_78 => ?_) (fun c_78 => ?_)
      · refine k_iconst hC dX12_readSight_85 ?_
        refine k_iconst hC dX12_readSight_86 ?_
        refine k_muvV hC (c_X12_check0 l hls G hN w43 fl u43 bt n st_25 4 (by omega) hn7 hb hu43 h_46 hKr43) yy_X12_check wm_X12_413 (kl hN (by decide)) hu43 rfl rfl rfl rfl (Nat.le_of_ble_eq_true rfl) (by decide) (by decide) ⟨by decide, by decide⟩ dX12_readSight_87 (fun w48 hp48 => ?_)
        obtain ⟨hT48, hf48⟩ := hp48
        obtain ⟨u48, hu48, hKr48, hs48⟩ := hT48
        obtain ⟨st_49, est_49⟩ : ∃ z : PS, z = flP 4 st_25 := ⟨_, rfl⟩
        rw [← est_49] at hKr48
        have h18r48 := hKr48.1
        have h22r48 := hKr48.2.1
        have hrgr48 := hKr48.2.2.1
        have hcbr48 := hKr48.cb
        have hzzr48 : st_49.1 ≠ 0 := by rw [est_49]; exact fl_c (by omega)
        refine k_aload_n hC dX12_readSight_90 rfl 1 rfl ?_
        have h_51 : w48 144 = iA G 700 bt := (hf48 144 (by decide)).trans h_46
        refine k_muvV hC (c_X12_advance l hls G hN w48 fl u48 bt n st_49  hn7 hb hu48 h_51 hKr48) yy_X12_advance wm_X12_417 (kl hN (by decide)) hu48 rfl rfl rfl rfl (Nat.le_of_ble_eq_true rfl) (by decide) (by decide) ⟨by decide, by decide⟩ dX12_readSight_91 (fun w50 hp50 => ?_)
        obtain ⟨hT50, hf50⟩ := hp50
        obtain ⟨u50, hu50, hKr50, hs50⟩ := hT50
        obtain ⟨st_52, est_52⟩ : ∃ z : PS, z = adP bt n st_49 := ⟨_, rfl⟩
        rw [← est_52] at hKr50
        have h18r50 := hKr50.1
        have h22r50 := hKr50.2.1
        have hrgr50 := hKr50.2.2.1
        have hcbr50 := hKr50.cb
        have hzzr50 : st_52.1 ≠ 0 := by rw [est_52, adP_e (by omega)]; omega
        refine k_aload_n hC dX12_readSight_94 rfl 1 rfl ?_
        refine k_iconst hC dX12_readSight_95 ?_
        refine k_sipush hC dX12_readSight_96 (by decide) ?_
        have h_54 : w50 144 = iA G 700 bt := (hf50 144 (by decide)).trans h_51
        refine k_mutV hC (c_X12_readNumber l hls G hN w50 fl u50 bt n st_52 0 5000 (by omega) (by omega) hn7 hb hu50 h_54 hKr50) yy_X12_readNumber wm_X12_435 (kl hN (by decide)) hu50 rfl rfl rfl rfl (Nat.le_of_ble_eq_true rfl) (by decide) (by decide) ⟨by decide, by decide⟩ dX12_readSight_99 (fun w53 hp53 => ?_)
        obtain ⟨hT53, hf53⟩ := hp53
        have hnv_55 := rnV_b (bt := bt) (n := n) (lo := 0) (hi := 5000) (st := st_52) (by omega)
        obtain ⟨u53, hu53, hKr53, hs53⟩ := hT53
        obtain ⟨st_56, est_56⟩ : ∃ z : PS, z = tkP bt n 0 5000 st_52 := ⟨_, rfl⟩
        rw [← est_56] at hKr53
        have h18r53 := hKr53.1
        have h22r53 := hKr53.2.1
        have hrgr53 := hKr53.2.2.1
        have hcbr53 := hKr53.cb
        have hzzr53 : st_56.1 ≠ 0 := by rw [est_56, tkP_e (by omega)]; omega
        refine k_istore_n hC [(2, vI (rnV bt n 0 5000 st_52)), (1, vI (bdM bt n D st_25)), (0, .ref (kad G 133))] dX12_readSight_102 rfl (by decide) rfl ?_
        refine k_aload_n hC dX12_readSight_103 rfl 2 rfl ?_
        refine k_sipush hC dX12_readSight_104 (by decide) ?_
        refine k_sipush hC dX12_readSight_107 (by decide) ?_
        have h_58 : w53 144 = iA G 700 bt := (hf53 144 (by decide)).trans h_54
        refine k_mutV hC (c_X12_readNumber l hls G hN w53 fl u53 bt n st_56 300 5100 (by omega) (by omega) hn7 hb hu53 h_58 hKr53) yy_X12_readNumber wm_X12_435 (kl hN (by decide)) hu53 rfl rfl rfl rfl (Nat.le_of_ble_eq_true rfl) (by decide) (by decide) ⟨by decide, by decide⟩ dX12_readSight_110 (fun w57 hp57 => ?_)
        obtain ⟨hT57, hf57⟩ := hp57
        have hnv_59 := rnV_b (bt := bt) (n := n) (lo := 300) (hi := 5100) (st := st_56) (by omega)
        obtain ⟨u57, hu57, hKr57, hs57⟩ := hT57
        obtain ⟨st_60, est_60⟩ : ∃ z : PS, z = tkP bt n 300 5100 st_56 := ⟨_, rfl⟩
        rw [← est_60] at hKr57
        have h18r57 := hKr57.1
        have h22r57 := hKr57.2.1
        have hrgr57 := hKr57.2.2.1
        have hcbr57 := hKr57.cb
        have hzzr57 : st_60.1 ≠ 0 := by rw [est_60, tkP_e (by omega)]; omega
        refine k_istore_n hC [(3, vI (rnV bt n 300 5100 st_56)), (2, vI (rnV bt n 0 5000 st_52)), (1, vI (bdM bt n D st_25)), (0, .ref (kad G 133))] dX12_readSight_113 rfl (by decide) rfl ?_
        refine k_aload_n hC dX12_readSight_114 rfl 3 rfl ?_
        refine k_get hC fd_X12_386 (kl hN (by decide)) hu57 rfl dX12_readSight_115 ?_
        refine k_if_ne hC 134 dX12_readSight_118 rfl (by omega) (fun c_118 => ?_) (fun c_118 => absurd c_118 (by omega))
        have h_61 : w57 135 = lA G 93 D := (hf57 135 (by decide)).trans ((hf53 135 (by decide)).trans ((hf50 135 (by decide)).trans ((hf48 135 (by decide)).trans h_45)))
        subst hQ
        exact k_vret hC hr ⟨by decide, by decide⟩ (⟨rfl, rfl, ⟨_, hu57, (by have e : st_60 = clSightS bt n D st := (by unfold clSightS; rw [selP_0 (by omega), ← est_25]; have hbb : sgB bt n D st_25 = st_49 := (by unfold sgB; rw [selP_1 ⟨by omega, by omega⟩, selP_1 (by omega)]; exact est_49.symm); rw [hbb, ← est_52, ← est_56]; exact est_60); rw [← e]; exact hKr57), (uS.tr (uS.tr (uS.tr (uS.tr (uS.tr (uS.tr (uS.tr (fun j _ => rfl) hs22) hs23) hs43) hs48) hs50) hs53) hs57)⟩, ⟨⟨_, h_61⟩, fun hc => absurd hc (by have hq : st_60 = clSightS bt n D st := (by unfold clSightS; rw [selP_0 (by omega), ← est_25]; have hbb : sgB bt n D st_25 = st_49 := (by unfold sgB; rw [selP_1 ⟨by omega, by omega⟩, selP_1 (by omega)]; exact est_49.symm); rw [hbb, ← est_52, ← est_56]; exact est_60); rw [← hq]; omega)⟩, fun j hj => (hf57 j (by omega)).trans ((hf53 j (by omega)).trans ((hf50 j (by omega)).trans ((hf48 j (by omega)).trans ((hf43 j (by omega)).trans ((hf23 j (by omega)).trans (hf22 j (by omega)))))))⟩) dX12_readSight_134
      · refine k_iconst hC dX12_readSight_81 ?_
        refine k_goto hC 86 dX12_readSight_82 rfl ?_
        refine k_iconst hC dX12_readSight_86 ?_
        refine k_muvV hC (c_X12_check1 l hls G hN w43 fl u43 bt n st_25 4 (by omega) hn7 hb hu43 h_46 hKr43) yy_X12_check wm_X12_413 (kl hN (by decide)) hu43 rfl rfl rfl rfl (Nat.le_of_ble_eq_true rfl) (by decide) (by decide) ⟨by decide, by decide⟩ dX12_readSight_87 (fun w62 hp62 => ?_)
        obtain ⟨hT62, hf62⟩ := hp62
        obtain ⟨u62, hu62, hKr62, hs62⟩ := hT62
        have h18r62 := hKr62.1
        have h22r62 := hKr62.2.1
        have hrgr62 := hKr62.2.2.1
        have hcbr62 := hKr62.cb
        have hzzr62 : st_25.1 = 0 := by omega
        have hq0r62 := hKr62.2.2.2.1 hzzr62
        have henr62 := enM_b (bt := bt) hq0r62.2.2.2
        refine k_aload_n hC dX12_readSight_90 rfl 1 rfl ?_
        have h_64 : w62 144 = iA G 700 bt := (hf62 144 (by decide)).trans h_46
        refine k_muvV hC (c_X12_advance l hls G hN w62 fl u62 bt n st_25  hn7 hb hu62 h_64 hKr62) yy_X12_advance wm_X12_417 (kl hN (by decide)) hu62 rfl rfl rfl rfl (Nat.le_of_ble_eq_true rfl) (by decide) (by decide) ⟨by decide, by decide⟩ dX12_readSight_91 (fun w63 hp63 => ?_)
        obtain ⟨hT63, hf63⟩ := hp63
        obtain ⟨u63, hu63, hKr63, hs63⟩ := hT63
        obtain ⟨st_65, est_65⟩ : ∃ z : PS, z = adP bt n st_25 := ⟨_, rfl⟩
        rw [← est_65] at hKr63
        have h18r63 := hKr63.1
        have h22r63 := hKr63.2.1
        have hrgr63 := hKr63.2.2.1
        have hcbr63 := hKr63.cb
        have hzir63 : st_65.1 = 0 := by rw [est_65]; exact ad_c.mpr (by omega)
        have hzzr63 : st_65.1 = 0 := by omega
        have hq0r63 := hKr63.2.2.2.1 hzzr63
        have henr63 := enM_b (bt := bt) hq0r63.2.2.2
        refine k_aload_n hC dX12_readSight_94 rfl 1 rfl ?_
        refine k_iconst hC dX12_readSight_95 ?_
        refine k_sipush hC dX12_readSight_96 (by decide) ?_
        have h_67 : w63 144 = iA G 700 bt := (hf63 144 (by decide)).trans h_64
        refine k_mutV hC (c_X12_readNumber l hls G hN w63 fl u63 bt n st_65 0 5000 (by omega) (by omega) hn7 hb hu63 h_67 hKr63) yy_X12_readNumber wm_X12_435 (kl hN (by decide)) hu63 rfl rfl rfl rfl (Nat.le_of_ble_eq_true rfl) (by decide) (by decide) ⟨by decide, by decide⟩ dX12_readSight_99 (fun w66 hp66 => ?_)
        obtain ⟨hT66, hf66⟩ := hp66
        have hnv_68 := rnV_b (bt := bt) (n := n) (lo := 0) (hi := 5000) (st := st_65) (by omega)
        obtain ⟨u66, hu66, hKr66, hs66⟩ := hT66
        obtain ⟨st_69, est_69⟩ : ∃ z : PS, z = tkP bt n 0 5000 st_65 := ⟨_, rfl⟩
        rw [← est_69] at hKr66
        have h18r66 := hKr66.1
        have h22r66 := hKr66.2.1
        have hrgr66 := hKr66.2.2.1
        have hcbr66 := hKr66.cb
        refine k_istore_n hC [(2, vI (rnV bt n 0 5000 st_65)), (1, vI (bdM bt n D st_25)), (0, .ref (kad G 133))] dX12_readSight_102 rfl (by decide) rfl ?_
        refine k_aload_n hC dX12_readSight_103 rfl 2 rfl ?_
        refine k_sipush hC dX12_readSight_104 (by decide) ?_
        refine k_sipush hC dX12_readSight_107 (by decide) ?_
        have h_71 : w66 144 = iA G 700 bt := (hf66 144 (by decide)).trans h_67
        refine k_mutV hC (c_X12_readNumber l hls G hN w66 fl u66 bt n st_69 300 5100 (by omega) (by omega) hn7 hb hu66 h_71 hKr66) yy_X12_readNumber wm_X12_435 (kl hN (by decide)) hu66 rfl rfl rfl rfl (Nat.le_of_ble_eq_true rfl) (by decide) (by decide) ⟨by decide, by decide⟩ dX12_readSight_110 (fun w70 hp70 => ?_)
        obtain ⟨hT70, hf70⟩ := hp70
        have hnv_72 := rnV_b (bt := bt) (n := n) (lo := 300) (hi := 5100) (st := st_69) (by omega)
        obtain ⟨u70, hu70, hKr70, hs70⟩ := hT70
        obtain ⟨st_73, est_73⟩ : ∃ z : PS, z = tkP bt n 300 5100 st_69 := ⟨_, rfl⟩
        rw [← est_73] at hKr70
        have h18r70 := hKr70.1
        have h22r70 := hKr70.2.1
        have hrgr70 := hKr70.2.2.1
        have hcbr70 := hKr70.cb
        refine k_istore_n hC [(3, vI (rnV bt n 300 5100 st_69)), (2, vI (rnV bt n 0 5000 st_65)), (1, vI (bdM bt n D st_25)), (0, .ref (kad G 133))] dX12_readSight_113 rfl (by decide) rfl ?_
        refine k_aload_n hC dX12_readSight_114 rfl 3 rfl ?_
        refine k_get hC fd_X12_386 (kl hN (by decide)) hu70 rfl dX12_readSight_115 ?_
        refine k_if_ne hC 134 dX12_readSight_118 rfl (by omega) (fun c_118 => ?_) (fun c_118 => ?_)
        · have hzzr70 : st_73.1 ≠ 0 := by omega
          have h_74 : w70 135 = lA G 93 D := (hf70 135 (by decide)).trans ((hf66 135 (by decide)).trans ((hf63 135 (by decide)).trans ((hf62 135 (by decide)).trans h_45)))
          subst hQ
          exact k_vret hC hr ⟨by decide, by decide⟩ (⟨rfl, rfl, ⟨_, hu70, (by have e : st_73 = clSightS bt n D st := (by unfold clSightS; rw [selP_0 (by omega), ← est_25]; have hbb : sgB bt n D st_25 = st_25 := (by unfold sgB; rw [selP_1 ⟨by omega, by omega⟩, selP_0 (by omega)]); rw [hbb, ← est_65, ← est_69]; exact est_73); rw [← e]; exact hKr70), (uS.tr (uS.tr (uS.tr (uS.tr (uS.tr (uS.tr (uS.tr (fun j _ => rfl) hs22) hs23) hs43) hs62) hs63) hs66) hs70)⟩, ⟨⟨_, h_74⟩, fun hc => absurd hc (by have hq : st_73 = clSightS bt n D st := (by unfold clSightS; rw [selP_0 (by omega), ← est_25]; have hbb : sgB bt n D st_25 = st_25 := (by unfold sgB; rw [selP_1 ⟨by omega, by omega⟩, selP_0 (by omega)]); rw [hbb, ← est_65, ← est_69]; exact est_73); rw [← hq]; omega)⟩, fun j hj => (hf70 j (by omega)).trans ((hf66 j (by omega)).trans ((hf63 j (by omega)).trans ((hf62 j (by omega)).trans ((hf43 j (by omega)).trans ((hf23 j (by omega)).trans (hf22 j (by omega)))))))⟩) dX12_readSight_134
        · have hzzr70 : st_73.1 = 0 := by omega
          have hq0r70 := hKr70.2.2.2.1 hzzr70
          have henr70 := enM_b (bt := bt) hq0r70.2.2.2
          refine k_aload_n hC dX12_readSight_121 rfl 3 rfl ?_
          refine k_get hC fd_X12_13 (kl hN (by decide)) hu70 rfl dX12_readSight_122 ?_
          refine k_iload_n hC dX12_readSight_125 rfl 2 rfl ?_
          refine k_i2l hC dX12_readSight_126 (by omega) ?_
          refine k_iload_n hC dX12_readSight_127 rfl 1 rfl ?_
          refine k_i2l hC dX12_readSight_128 (by omega) ?_
          refine k_iload_n hC dX12_readSight_129 rfl 0 rfl ?_
          refine k_i2l hC dX12_readSight_130 (by omega) ?_
          have h_75 : w70 135 = lA G 93 D := (hf70 135 (by decide)).trans ((hf66 135 (by decide)).trans ((hf63 135 (by decide)).trans ((hf62 135 (by decide)).trans h_45)))
          refine k_muvS hC (c_X12_addSight l hls G hN w70 fl 135 D (bdM bt n D st_25) (rnV bt n 0 5000 st_65) (rnV bt n 300 5100 st_69) (by decide) (by omega) h_75) yy_X12_addSight wm_X12_312 rfl rfl (Nat.le_of_ble_eq_true rfl) (by decide) (by decide) ⟨by decide, by decide⟩ dX12_readSight_131 (fun w76 hp76 => ?_)
          obtain ⟨hr76, hf76⟩ := hp76
          have h_77 : w76 133 = .inr (12, [.ref (kad G 134), .ref (kad G 135), .ref (kad G 136), .ref (kad G 137), vI (u70 4), vI (u70 5), vI (u70 6), .ref (kad G 138), .ref (kad G 139), .ref (kad G 140), .ref (kad G 141), .ref (kad G 142), vL (u70 12), vL (u70 13), .ref (kad G 143), vI (u70 15), .ref (kad G 144), vI (u70 17), vI (u70 18), vI (u70 19), vI (u70 20), vI (u70 21), vI (u70 22), vI (u70 23), vI (u70 24), vI (u70 25), .ref (kad G 145), .ref (kad G 146), .ref (kad G 147), vI (u70 29)]) := (hf76 133 (by decide)).trans hu70
          subst hQ
          exact k_vret hC hr ⟨by decide, by decide⟩ (⟨rfl, rfl, ⟨_, h_77, (by have e : st_73 = clSightS bt n D st := (by unfold clSightS; rw [selP_0 (by omega), ← est_25]; have hbb : sgB bt n D st_25 = st_25 := (by unfold sgB; rw [selP_1 ⟨by omega, by omega⟩, selP_0 (by omega)]); rw [hbb, ← est_65, ← est_69]; exact est_73); rw [← e]; exact hKr70), (uS.tr (uS.tr (uS.tr (uS.tr (uS.tr (uS.tr (uS.tr (fun j _ => rfl) hs22) hs23) hs43) hs62) hs63) hs66) hs70)⟩, ⟨⟨_, hr76⟩, fun hc => hr76.trans (by have hq : st_73 = clSightS bt n D st := (by unfold clSightS; rw [selP_0 (by omega), ← est_25]; have hbb : sgB bt n D st_25 = st_25 := (by unfold sgB; rw [selP_1 ⟨by omega, by omega⟩, selP_0 (by omega)]); rw [hbb, ← est_65, ← est_69]; exact est_73); rw [← hq] at hc; unfold clSightD; rw [← est_25]; have hbb : sgB bt n D st_25 = st_25 := (by unfold sgB; rw [selP_1 ⟨by omega, by omega⟩, selP_0 (by omega)]); have hx1 : st_69.1 = 0 := (by have h := hc; rw [est_73] at h; exact tkok h); rw [hbb, ← est_65, ← est_69, ← rnV_0 (lo := 0) (hi := 5000) (st := st_65) (by rw [← est_69]; exact hx1), ← rnV_0 (lo := 300) (hi := 5100) (st := st_69) (by rw [← est_73]; exact hc)])⟩, fun j hj => (hf76 j (by omega)).trans ((hf70 j (by omega)).trans ((hf66 j (by omega)).trans ((hf63 j (by omega)).trans ((hf62 j (by omega)).trans ((hf43 j (by omega)).trans ((hf23 j (by omega)).trans (hf22 j (by omega))))))))⟩) dX12_readSight_134

