def stP (bt : Nat → Int) (n : Nat) (st : PS) : Prop := isW bt n 1 st ∨ isW bt n 2 st ∨ isW bt n 3 st ∨ isW bt n 4 st
noncomputable def stS (bt : Nat → Int) (n : Nat) (st : PS) : PS :=
  selP (isW bt n 1 st) (sgP bt n 10799 (sgP bt n 3600 (adP bt n st)))
  (selP (isW bt n 2 st) (tkP bt n 0 50 (adP bt n st))
  (selP (isW bt n 3 st) (sgP bt n 60 (adP bt n st))
  (selP (isW bt n 4 st) (tkP bt n 0 100 (tkP bt n 0 21599 (adP bt n st))) st)))
noncomputable def stD (bt : Nat → Int) (n : Nat) (D : Nat → Int) (st : PS) : Nat → Int :=
  selP (isW bt n 1 st) (setM D 3 (sgV bt n (adP bt n st)) 4 (sgV bt n (sgP bt n 3600 (adP bt n st))))
  (selP (isW bt n 2 st) (kup D 5 (nv bt n (adP bt n st)))
  (selP (isW bt n 3 st) (kup D 6 (sgV bt n (adP bt n st)))
  (selP (isW bt n 4 st) (setM D 7 (nv bt n (adP bt n st)) 8 (nv bt n (tkP bt n 0 21599 (adP bt n st)))) D)))
theorem stS_0 {bt : Nat → Int} {n : Nat} {st : PS} (h : ¬ stP bt n st) : stS bt n st = st := by
  unfold stS; rw [selP_0 (fun q => h (Or.inl q)), selP_0 (fun q => h (Or.inr (Or.inl q))), selP_0 (fun q => h (Or.inr (Or.inr (Or.inl q)))), selP_0 (fun q => h (Or.inr (Or.inr (Or.inr q))))]
theorem cl_bad {bt : Nat → Int} {n : Nat} {D : Nat → Int} {st : PS} (h : ¬ stP bt n st) (h5 : ¬ isW bt n 5 st) (h6 : ¬ isW bt n 6 st) (h7 : ¬ isW bt n 7 st) : clS0 bt n D st = flP 1 st ∧ clD bt n D st = D := by
  unfold clS0 clD
  rw [selP_0 (fun q => h (Or.inl q)), selP_0 (fun q => h (Or.inr (Or.inl q))), selP_0 (fun q => h (Or.inr (Or.inr (Or.inl q)))), selP_0 (fun q => h (Or.inr (Or.inr (Or.inr q)))), selP_0 h5, selP_0 h6, selP_0 h7, selP_0 (fun q => h (Or.inl q)), selP_0 (fun q => h (Or.inr (Or.inl q))), selP_0 (fun q => h (Or.inr (Or.inr (Or.inl q)))), selP_0 (fun q => h (Or.inr (Or.inr (Or.inr q)))), selP_0 h5, selP_0 h6, selP_0 h7]
  exact ⟨rfl, rfl⟩
theorem cl_set {bt : Nat → Int} {n : Nat} {D : Nat → Int} {st : PS} (h : stP bt n st) : clS0 bt n D st = stS bt n st ∧ clD bt n D st = stD bt n D st := by
  unfold clS0 clD stS stD
  by_cases w1 : isW bt n 1 st
  · rw [selP_1 w1, selP_1 w1, selP_1 w1, selP_1 w1]; exact ⟨rfl, rfl⟩
  rw [selP_0 w1, selP_0 w1, selP_0 w1, selP_0 w1]
  by_cases w2 : isW bt n 2 st
  · rw [selP_1 w2, selP_1 w2, selP_1 w2, selP_1 w2]; exact ⟨rfl, rfl⟩
  rw [selP_0 w2, selP_0 w2, selP_0 w2, selP_0 w2]
  by_cases w3 : isW bt n 3 st
  · rw [selP_1 w3, selP_1 w3, selP_1 w3, selP_1 w3]; exact ⟨rfl, rfl⟩
  rw [selP_0 w3, selP_0 w3, selP_0 w3, selP_0 w3]
  by_cases w4 : isW bt n 4 st
  · rw [selP_1 w4, selP_1 w4, selP_1 w4, selP_1 w4]; exact ⟨rfl, rfl⟩
  exact absurd h (fun q => q.elim w1 (fun q => q.elim w2 (fun q => q.elim w3 w4)))
theorem wdDs : wdD 5 1 = true ∧ wdD 5 2 = true ∧ wdD 5 3 = true ∧ wdD 5 4 = true ∧ wdD 6 1 = true ∧ wdD 6 2 = true ∧ wdD 6 3 = true ∧ wdD 6 4 = true ∧ wdD 7 1 = true ∧ wdD 7 2 = true ∧ wdD 7 3 = true ∧ wdD 7 4 = true := by decide +kernel
theorem isW_ne {bt : Nat → Int} {n t t1 : Nat} {st : PS} (h : isW bt n t st) (hd : wdD t t1 = true) : ¬ isW bt n t1 st := fun q => wd_ne h.2 hd q.2
theorem cl_body {bt : Nat → Int} {n : Nat} {D : Nat → Int} {st : PS} (h : isW bt n 5 st) : clS0 bt n D st = clBodyS bt n D st ∧ clD bt n D st = clBodyD bt n D st := by
  obtain ⟨a1, a2, a3, a4, -⟩ := wdDs
  unfold clS0 clD
  rw [selP_0 (isW_ne h a1), selP_0 (isW_ne h a2), selP_0 (isW_ne h a3), selP_0 (isW_ne h a4), selP_1 h, selP_0 (isW_ne h a1), selP_0 (isW_ne h a2), selP_0 (isW_ne h a3), selP_0 (isW_ne h a4), selP_1 h]
  exact ⟨rfl, rfl⟩
theorem cl_leg {bt : Nat → Int} {n : Nat} {D : Nat → Int} {st : PS} (h5 : ¬ isW bt n 5 st) (h : isW bt n 6 st) : clS0 bt n D st = clLegS bt n D st ∧ clD bt n D st = clLegD bt n D st := by
  obtain ⟨-, -, -, -, a1, a2, a3, a4, -⟩ := wdDs
  unfold clS0 clD
  rw [selP_0 (isW_ne h a1), selP_0 (isW_ne h a2), selP_0 (isW_ne h a3), selP_0 (isW_ne h a4), selP_0 h5, selP_1 h, selP_0 (isW_ne h a1), selP_0 (isW_ne h a2), selP_0 (isW_ne h a3), selP_0 (isW_ne h a4), selP_0 h5, selP_1 h]
  exact ⟨rfl, rfl⟩
theorem cl_sight {bt : Nat → Int} {n : Nat} {D : Nat → Int} {st : PS} (h5 : ¬ isW bt n 5 st) (h6 : ¬ isW bt n 6 st) (h : isW bt n 7 st) : clS0 bt n D st = clSightS bt n D st ∧ clD bt n D st = clSightD bt n D st := by
  obtain ⟨-, -, -, -, -, -, -, -, a1, a2, a3, a4⟩ := wdDs
  unfold clS0 clD
  rw [selP_0 (isW_ne h a1), selP_0 (isW_ne h a2), selP_0 (isW_ne h a3), selP_0 (isW_ne h a4), selP_0 h5, selP_0 h6, selP_1 h, selP_0 (isW_ne h a1), selP_0 (isW_ne h a2), selP_0 (isW_ne h a3), selP_0 (isW_ne h a4), selP_0 h5, selP_0 h6, selP_1 h]
  exact ⟨rfl, rfl⟩
set_option maxRecDepth 100000 in
set_option maxHeartbeats 4000000 in
theorem c_X12_readSetting (l : Launch) (hls : l.stackTraces = false) (G : kG) (hN : kN G = 150) (w : Nat → va_E) (fl : va_W) (u bt : Nat → Int) (n : Nat) (st : PS) (D : Nat → Int) (hz0 : st.1 = 0) (hI : Inv D) (hNb : NmB D) (hn7 : n ≤ 700) (hb : btOK bt) (hm : w 133 = mdO G u) (h144 : w 144 = iA G 700 bt) (hK : mkR u bt n st) (h135 : w 135 = lA G 93 D) : KM l G yX12_readSetting cX12_readSetting 1 (some (FieldType.boolean)) 6 0 0 [.ref (kad G 133)] w fl (kMut (vI (selI (stP bt n st) 1 0)) fl (fun w1 => rT G u bt n (stS bt n st) w1 ∧ ((∃ D1, w1 135 = lA G 93 D1) ∧ ((stS bt n st).1 = 0 → w1 135 = lA G 93 (stD bt n D st))) ∧ ∀ j, (j ≠ 133 ∧ j ≠ 135) → w1 j = w j)) := by
  refine KM_of2 hls (by decide +kernel) rfl (lv0 := [(0, .ref (kad G 133))]) rfl (Nat.le_of_ble_eq_true rfl) (fun p e R s m args below meth c Q hC hr hQ => ?_)
  have h18 := hK.1
  have h22 := hK.2.1
  have hrg := hK.2.2.1
  have hcb := hK.cb
  have h0 := hI.c
  have hzz : st.1 = 0 := by omega
  have hq0 := hK.2.2.2.1 hzz
  have hen := enM_b (bt := bt) hq0.2.2.2
  refine k_aload_n hC dX12_readSetting_0 rfl 0 rfl ?_
  refine k_ldcsw hC (List.mem_of_getElem? (i := 49) rfl) dX12_readSetting_1 ?_
  refine k_mutV hC (c_X12_accept l hls G hN w fl u bt n st 1 (by decide) hn7 hb hm h144 hK) yy_X12_accept wm_X12_447 (kl hN (by decide)) hm rfl rfl rfl rfl (Nat.le_of_ble_eq_true rfl) (by decide) (by decide) ⟨by decide, by decide⟩ dX12_readSetting_4 (fun w1 hp1 => ?_)
  obtain ⟨hT1, hf1⟩ := hp1
  by_cases hw_1 : isW bt n 1 st
  · rw [selP_1 hw_1] at hT1
    refine k_topv (vI 1) (congrArg vI (selI_1 hw_1)) ?_
    have hwz_1 := hw_1.1
    obtain ⟨u1, hu1, hKr1, hs1⟩ := hT1
    obtain ⟨st_2, est_2⟩ : ∃ z : PS, z = adP bt n st := ⟨_, rfl⟩
    rw [← est_2] at hKr1
    have h18r1 := hKr1.1
    have h22r1 := hKr1.2.1
    have hrgr1 := hKr1.2.2.1
    have hcbr1 := hKr1.cb
    have hzir1 : st_2.1 = 0 := by rw [est_2]; exact ad_c.mpr (by omega)
    have hzzr1 : st_2.1 = 0 := by omega
    have hq0r1 := hKr1.2.2.2.1 hzzr1
    have henr1 := enM_b (bt := bt) hq0r1.2.2.2
    refine k_if_eq hC 41 dX12_readSetting_7 rfl (by omega) (fun c_7 => absurd c_7 (by omega)) (fun c_7 => ?_)
    refine k_aload_n hC dX12_readSetting_10 rfl 0 rfl ?_
    refine k_get hC fd_X12_13 (kl hN (by decide)) hu1 rfl dX12_readSetting_11 ?_
    refine k_iconst hC dX12_readSetting_14 ?_
    refine k_aload_n hC dX12_readSetting_15 rfl 0 rfl ?_
    refine k_sipush hC dX12_readSetting_16 (by decide) ?_
    have h_4 : w1 144 = iA G 700 bt := (hf1 144 (by decide)).trans h144
    refine k_mutV hC (c_X12_readSigned l hls G hN w1 fl u1 bt n st_2 3600 (by omega) hn7 hb hu1 h_4 hKr1) yy_X12_readSigned wm_X12_442 (kl hN (by decide)) hu1 rfl rfl rfl rfl (Nat.le_of_ble_eq_true rfl) (by decide) (by decide) ⟨by decide, by decide⟩ dX12_readSetting_19 (fun w3 hp3 => ?_)
    obtain ⟨hT3, hf3⟩ := hp3
    have hnv_5 := rsV_b (bt := bt) (n := n) (m := 3600) (st := st_2) (by omega)
    obtain ⟨u3, hu3, hKr3, hs3⟩ := hT3
    obtain ⟨st_6, est_6⟩ : ∃ z : PS, z = sgP bt n 3600 st_2 := ⟨_, rfl⟩
    rw [← est_6] at hKr3
    have h18r3 := hKr3.1
    have h22r3 := hKr3.2.1
    have hrgr3 := hKr3.2.2.1
    have hcbr3 := hKr3.cb
    refine k_i2l hC dX12_readSetting_22 (by omega) ?_
    have h_7 : w3 135 = lA G 93 D := (hf3 135 (by decide)).trans ((hf1 135 (by decide)).trans h135)
    refine k_last hC (kl hN (by decide)) h_7 (by omega) (by decide) dX12_readSetting_23 (fun w8 hw8 hf8 => ?_)
    refine k_aload_n hC dX12_readSetting_24 rfl 0 rfl ?_
    have h_9 : w8 133 = .inr (12, [.ref (kad G 134), .ref (kad G 135), .ref (kad G 136), .ref (kad G 137), vI (u3 4), vI (u3 5), vI (u3 6), .ref (kad G 138), .ref (kad G 139), .ref (kad G 140), .ref (kad G 141), .ref (kad G 142), vL (u3 12), vL (u3 13), .ref (kad G 143), vI (u3 15), .ref (kad G 144), vI (u3 17), vI (u3 18), vI (u3 19), vI (u3 20), vI (u3 21), vI (u3 22), vI (u3 23), vI (u3 24), vI (u3 25), .ref (kad G 145), .ref (kad G 146), .ref (kad G 147), vI (u3 29)]) := (hf8 133 (by decide)).trans hu3
    refine k_get hC fd_X12_13 (kl hN (by decide)) h_9 rfl dX12_readSetting_25 ?_
    refine k_iconst hC dX12_readSetting_28 ?_
    refine k_aload_n hC dX12_readSetting_29 rfl 0 rfl ?_
    refine k_sipush hC dX12_readSetting_30 (by decide) ?_
    have h_11 : w8 144 = iA G 700 bt := (hf8 144 (by decide)).trans ((hf3 144 (by decide)).trans h_4)
    refine k_mutV hC (c_X12_readSigned l hls G hN w8 fl u3 bt n st_6 10799 (by omega) hn7 hb h_9 h_11 hKr3) yy_X12_readSigned wm_X12_442 (kl hN (by decide)) h_9 rfl rfl rfl rfl (Nat.le_of_ble_eq_true rfl) (by decide) (by decide) ⟨by decide, by decide⟩ dX12_readSetting_33 (fun w10 hp10 => ?_)
    obtain ⟨hT10, hf10⟩ := hp10
    have hnv_12 := rsV_b (bt := bt) (n := n) (m := 10799) (st := st_6) (by omega)
    obtain ⟨u10, hu10, hKr10, hs10⟩ := hT10
    obtain ⟨st_13, est_13⟩ : ∃ z : PS, z = sgP bt n 10799 st_6 := ⟨_, rfl⟩
    rw [← est_13] at hKr10
    have h18r10 := hKr10.1
    have h22r10 := hKr10.2.1
    have hrgr10 := hKr10.2.2.1
    have hcbr10 := hKr10.cb
    refine k_i2l hC dX12_readSetting_36 (by omega) ?_
    have h_14 : w10 135 = lA G 93 (kup D 3 (rsV bt n 3600 st_2)) := (hf10 135 (by decide)).trans hw8
    refine k_last hC (kl hN (by decide)) h_14 (by omega) (by decide) dX12_readSetting_37 (fun w15 hw15 hf15 => ?_)
    refine k_goto hC 141 dX12_readSetting_38 rfl ?_
    refine k_iconst hC dX12_readSetting_141 ?_
    have h_16 : w15 133 = .inr (12, [.ref (kad G 134), .ref (kad G 135), .ref (kad G 136), .ref (kad G 137), vI (u10 4), vI (u10 5), vI (u10 6), .ref (kad G 138), .ref (kad G 139), .ref (kad G 140), .ref (kad G 141), .ref (kad G 142), vL (u10 12), vL (u10 13), .ref (kad G 143), vI (u10 15), .ref (kad G 144), vI (u10 17), vI (u10 18), vI (u10 19), vI (u10 20), vI (u10 21), vI (u10 22), vI (u10 23), vI (u10 24), vI (u10 25), .ref (kad G 145), .ref (kad G 146), .ref (kad G 147), vI (u10 29)]) := (hf15 133 (by decide)).trans hu10
    subst hQ
    exact k_zret hC (by omega) hr ⟨by decide, by decide⟩ (⟨congrArg (fun z => some (vI z)) (selI_1 (Or.inl hw_1)), rfl, ⟨_, h_16, (by have e : st_13 = stS bt n st := (by unfold stS; rw [selP_1 hw_1, ← est_2, ← est_6]; exact est_13); rw [← e]; exact hKr10), (uS.tr (uS.tr (uS.tr (fun j _ => rfl) hs1) hs3) hs10)⟩, ⟨⟨_, hw15⟩, fun hc => hw15.trans (by have hq : st_13 = stS bt n st := (by unfold stS; rw [selP_1 hw_1, ← est_2, ← est_6]; exact est_13); rw [← hq] at hc; unfold stD; rw [selP_1 hw_1, ← est_2, ← est_6, ← rsV_0 (m := 3600) (st := st_2) (by rw [← est_6]; have h := hc; rw [est_13] at h; exact sgok h), ← rsV_0 (m := 10799) (st := st_6) (by rw [← est_13]; exact hc)]; exact lA_congr (fun j hj => by simp only [setM, kup]; repeat (first | omega | rfl | split)))⟩, fun j hj => (hf15 j (by omega)).trans ((hf10 j (by omega)).trans ((hf8 j (by omega)).trans ((hf3 j (by omega)).trans (hf1 j (by omega)))))⟩) dX12_readSetting_142
  · rw [selP_0 hw_1] at hT1
    refine k_topv (vI 0) (congrArg vI (selI_0 hw_1)) ?_
    obtain ⟨u1, hu1, hKr1, hs1⟩ := hT1
    have h18r1 := hKr1.1
    have h22r1 := hKr1.2.1
    have hrgr1 := hKr1.2.2.1
    have hcbr1 := hKr1.cb
    have hzzr1 : st.1 = 0 := by omega
    have hq0r1 := hKr1.2.2.2.1 hzzr1
    have henr1 := enM_b (bt := bt) hq0r1.2.2.2
    refine k_if_eq hC 41 dX12_readSetting_7 rfl (by omega) (fun c_7 => ?_) (fun c_7 => absurd c_7 (by omega))
    refine k_aload_n hC dX12_readSetting_41 rfl 0 rfl ?_
    refine k_ldcsw hC (List.mem_of_getElem? (i := 50) rfl) dX12_readSetting_42 ?_
    have h_18 : w1 144 = iA G 700 bt := (hf1 144 (by decide)).trans h144
    refine k_mutV hC (c_X12_accept l hls G hN w1 fl u1 bt n st 2 (by decide) hn7 hb hu1 h_18 hKr1) yy_X12_accept wm_X12_447 (kl hN (by decide)) hu1 rfl rfl rfl rfl (Nat.le_of_ble_eq_true rfl) (by decide) (by decide) ⟨by decide, by decide⟩ dX12_readSetting_45 (fun w17 hp17 => ?_)
    obtain ⟨hT17, hf17⟩ := hp17
    by_cases hw_17 : isW bt n 2 st
    · rw [selP_1 hw_17] at hT17
      refine k_topv (vI 1) (congrArg vI (selI_1 hw_17)) ?_
      have hwz_17 := hw_17.1
      obtain ⟨u17, hu17, hKr17, hs17⟩ := hT17
      obtain ⟨st_19, est_19⟩ : ∃ z : PS, z = adP bt n st := ⟨_, rfl⟩
      rw [← est_19] at hKr17
      have h18r17 := hKr17.1
      have h22r17 := hKr17.2.1
      have hrgr17 := hKr17.2.2.1
      have hcbr17 := hKr17.cb
      have hzir17 : st_19.1 = 0 := by rw [est_19]; exact ad_c.mpr (by omega)
      have hzzr17 : st_19.1 = 0 := by omega
      have hq0r17 := hKr17.2.2.2.1 hzzr17
      have henr17 := enM_b (bt := bt) hq0r17.2.2.2
      refine k_if_eq hC 68 dX12_readSetting_48 rfl (by omega) (fun c_48 => absurd c_48 (by omega)) (fun c_48 => ?_)
      refine k_aload_n hC dX12_readSetting_51 rfl 0 rfl ?_
      refine k_get hC fd_X12_13 (kl hN (by decide)) hu17 rfl dX12_readSetting_52 ?_
      refine k_iconst hC dX12_readSetting_55 ?_
      refine k_aload_n hC dX12_readSetting_56 rfl 0 rfl ?_
      refine k_iconst hC dX12_readSetting_57 ?_
      refine k_bipush hC dX12_readSetting_58 (by decide) ?_
      have h_21 : w17 144 = iA G 700 bt := (hf17 144 (by decide)).trans h_18
      refine k_mutV hC (c_X12_readNumber l hls G hN w17 fl u17 bt n st_19 0 50 (by omega) (by omega) hn7 hb hu17 h_21 hKr17) yy_X12_readNumber wm_X12_435 (kl hN (by decide)) hu17 rfl rfl rfl rfl (Nat.le_of_ble_eq_true rfl) (by decide) (by decide) ⟨by decide, by decide⟩ dX12_readSetting_60 (fun w20 hp20 => ?_)
      obtain ⟨hT20, hf20⟩ := hp20
      have hnv_22 := rnV_b (bt := bt) (n := n) (lo := 0) (hi := 50) (st := st_19) (by omega)
      obtain ⟨u20, hu20, hKr20, hs20⟩ := hT20
      obtain ⟨st_23, est_23⟩ : ∃ z : PS, z = tkP bt n 0 50 st_19 := ⟨_, rfl⟩
      rw [← est_23] at hKr20
      have h18r20 := hKr20.1
      have h22r20 := hKr20.2.1
      have hrgr20 := hKr20.2.2.1
      have hcbr20 := hKr20.cb
      refine k_i2l hC dX12_readSetting_63 (by omega) ?_
      have h_24 : w20 135 = lA G 93 D := (hf20 135 (by decide)).trans ((hf17 135 (by decide)).trans ((hf1 135 (by decide)).trans h135))
      refine k_last hC (kl hN (by decide)) h_24 (by omega) (by decide) dX12_readSetting_64 (fun w25 hw25 hf25 => ?_)
      refine k_goto hC 141 dX12_readSetting_65 rfl ?_
      refine k_iconst hC dX12_readSetting_141 ?_
      have h_26 : w25 133 = .inr (12, [.ref (kad G 134), .ref (kad G 135), .ref (kad G 136), .ref (kad G 137), vI (u20 4), vI (u20 5), vI (u20 6), .ref (kad G 138), .ref (kad G 139), .ref (kad G 140), .ref (kad G 141), .ref (kad G 142), vL (u20 12), vL (u20 13), .ref (kad G 143), vI (u20 15), .ref (kad G 144), vI (u20 17), vI (u20 18), vI (u20 19), vI (u20 20), vI (u20 21), vI (u20 22), vI (u20 23), vI (u20 24), vI (u20 25), .ref (kad G 145), .ref (kad G 146), .ref (kad G 147), vI (u20 29)]) := (hf25 133 (by decide)).trans hu20
      subst hQ
      exact k_zret hC (by omega) hr ⟨by decide, by decide⟩ (⟨congrArg (fun z => some (vI z)) (selI_1 (Or.inr (Or.inl hw_17))), rfl, ⟨_, h_26, (by have e : st_23 = stS bt n st := (by unfold stS; rw [selP_0 hw_1, selP_1 hw_17, ← est_19]; exact est_23); rw [← e]; exact hKr20), (uS.tr (uS.tr (uS.tr (fun j _ => rfl) hs1) hs17) hs20)⟩, ⟨⟨_, hw25⟩, fun hc => hw25.trans (by have hq : st_23 = stS bt n st := (by unfold stS; rw [selP_0 hw_1, selP_1 hw_17, ← est_19]; exact est_23); rw [← hq] at hc; unfold stD; rw [selP_0 hw_1, selP_1 hw_17, ← est_19, ← rnV_0 (lo := 0) (hi := 50) (st := st_19) (by rw [← est_23]; exact hc)]; rfl)⟩, fun j hj => (hf25 j (by omega)).trans ((hf20 j (by omega)).trans ((hf17 j (by omega)).trans (hf1 j (by omega))))⟩) dX12_readSetting_142
    · rw [selP_0 hw_17] at hT17
      refine k_topv (vI 0) (congrArg vI (selI_0 hw_17)) ?_
      obtain ⟨u17, hu17, hKr17, hs17⟩ := hT17
      have h18r17 := hKr17.1
      have h22r17 := hKr17.2.1
      have hrgr17 := hKr17.2.2.1
      have hcbr17 := hKr17.cb
      have hzzr17 : st.1 = 0 := by omega
      have hq0r17 := hKr17.2.2.2.1 hzzr17
      have henr17 := enM_b (bt := bt) hq0r17.2.2.2
      refine k_if_eq hC 68 dX12_readSetting_48 rfl (by omega) (fun c_48 => ?_) (fun c_48 => absurd c_48 (by omega))
      refine k_aload_n hC dX12_readSetting_68 rfl 0 rfl ?_
      refine k_ldcsw hC (List.mem_of_getElem? (i := 51) rfl) dX12_readSetting_69 ?_
      have h_28 : w17 144 = iA G 700 bt := (hf17 144 (by decide)).trans h_18
      refine k_mutV hC (c_X12_accept l hls G hN w17 fl u17 bt n st 3 (by decide) hn7 hb hu17 h_28 hKr17) yy_X12_accept wm_X12_447 (kl hN (by decide)) hu17 rfl rfl rfl rfl (Nat.le_of_ble_eq_true rfl) (by decide) (by decide) ⟨by decide, by decide⟩ dX12_readSetting_72 (fun w27 hp27 => ?_)
      obtain ⟨hT27, hf27⟩ := hp27
      by_cases hw_27 : isW bt n 3 st
      · rw [selP_1 hw_27] at hT27
        refine k_topv (vI 1) (congrArg vI (selI_1 hw_27)) ?_
        have hwz_27 := hw_27.1
        obtain ⟨u27, hu27, hKr27, hs27⟩ := hT27
        obtain ⟨st_29, est_29⟩ : ∃ z : PS, z = adP bt n st := ⟨_, rfl⟩
        rw [← est_29] at hKr27
        have h18r27 := hKr27.1
        have h22r27 := hKr27.2.1
        have hrgr27 := hKr27.2.2.1
        have hcbr27 := hKr27.cb
        have hzir27 : st_29.1 = 0 := by rw [est_29]; exact ad_c.mpr (by omega)
        have hzzr27 : st_29.1 = 0 := by omega
        have hq0r27 := hKr27.2.2.2.1 hzzr27
        have henr27 := enM_b (bt := bt) hq0r27.2.2.2
        refine k_if_eq hC 95 dX12_readSetting_75 rfl (by omega) (fun c_75 => absurd c_75 (by omega)) (fun c_75 => ?_)
        refine k_aload_n hC dX12_readSetting_78 rfl 0 rfl ?_
        refine k_get hC fd_X12_13 (kl hN (by decide)) hu27 rfl dX12_readSetting_79 ?_
        refine k_bipush hC dX12_readSetting_82 (by decide) ?_
        refine k_aload_n hC dX12_readSetting_84 rfl 0 rfl ?_
        refine k_bipush hC dX12_readSetting_85 (by decide) ?_
        have h_31 : w27 144 = iA G 700 bt := (hf27 144 (by decide)).trans h_28
        refine k_mutV hC (c_X12_readSigned l hls G hN w27 fl u27 bt n st_29 60 (by omega) hn7 hb hu27 h_31 hKr27) yy_X12_readSigned wm_X12_442 (kl hN (by decide)) hu27 rfl rfl rfl rfl (Nat.le_of_ble_eq_true rfl) (by decide) (by decide) ⟨by decide, by decide⟩ dX12_readSetting_87 (fun w30 hp30 => ?_)
        obtain ⟨hT30, hf30⟩ := hp30
        have hnv_32 := rsV_b (bt := bt) (n := n) (m := 60) (st := st_29) (by omega)
        obtain ⟨u30, hu30, hKr30, hs30⟩ := hT30
        obtain ⟨st_33, est_33⟩ : ∃ z : PS, z = sgP bt n 60 st_29 := ⟨_, rfl⟩
        rw [← est_33] at hKr30
        have h18r30 := hKr30.1
        have h22r30 := hKr30.2.1
        have hrgr30 := hKr30.2.2.1
        have hcbr30 := hKr30.cb
        refine k_i2l hC dX12_readSetting_90 (by omega) ?_
        have h_34 : w30 135 = lA G 93 D := (hf30 135 (by decide)).trans ((hf27 135 (by decide)).trans ((hf17 135 (by decide)).trans ((hf1 135 (by decide)).trans h135)))
        refine k_last hC (kl hN (by decide)) h_34 (by omega) (by decide) dX12_readSetting_91 (fun w35 hw35 hf35 => ?_)
        refine k_goto hC 141 dX12_readSetting_92 rfl ?_
        refine k_iconst hC dX12_readSetting_141 ?_
        have h_36 : w35 133 = .inr (12, [.ref (kad G 134), .ref (kad G 135), .ref (kad G 136), .ref (kad G 137), vI (u30 4), vI (u30 5), vI (u30 6), .ref (kad G 138), .ref (kad G 139), .ref (kad G 140), .ref (kad G 141), .ref (kad G 142), vL (u30 12), vL (u30 13), .ref (kad G 143), vI (u30 15), .ref (kad G 144), vI (u30 17), vI (u30 18), vI (u30 19), vI (u30 20), vI (u30 21), vI (u30 22), vI (u30 23), vI (u30 24), vI (u30 25), .ref (kad G 145), .ref (kad G 146), .ref (kad G 147), vI (u30 29)]) := (hf35 133 (by decide)).trans hu30
        subst hQ
        exact k_zret hC (by omega) hr ⟨by decide, by decide⟩ (⟨congrArg (fun z => some (vI z)) (selI_1 (Or.inr (Or.inr (Or.inl hw_27)))), rfl, ⟨_, h_36, (by have e : st_33 = stS bt n st := (by unfold stS; rw [selP_0 hw_1, selP_0 hw_17, selP_1 hw_27, ← est_29]; exact est_33); rw [← e]; exact hKr30), (uS.tr (uS.tr (uS.tr (uS.tr (fun j _ => rfl) hs1) hs17) hs27) hs30)⟩, ⟨⟨_, hw35⟩, fun hc => hw35.trans (by have hq : st_33 = stS bt n st := (by unfold stS; rw [selP_0 hw_1, selP_0 hw_17, selP_1 hw_27, ← est_29]; exact est_33); rw [← hq] at hc; unfold stD; rw [selP_0 hw_1, selP_0 hw_17, selP_1 hw_27, ← est_29, ← rsV_0 (m := 60) (st := st_29) (by rw [← est_33]; exact hc)]; rfl)⟩, fun j hj => (hf35 j (by omega)).trans ((hf30 j (by omega)).trans ((hf27 j (by omega)).trans ((hf17 j (by omega)).trans (hf1 j (by omega)))))⟩) dX12_readSetting_142
      · rw [selP_0 hw_27] at hT27
        refine k_topv (vI 0) (congrArg vI (selI_0 hw_27)) ?_
        obtain ⟨u27, hu27, hKr27, hs27⟩ := hT27
        have h18r27 := hKr27.1
        have h22r27 := hKr27.2.1
        have hrgr27 := hKr27.2.2.1
        have hcbr27 := hKr27.cb
        have hzzr27 : st.1 = 0 := by omega
        have hq0r27 := hKr27.2.2.2.1 hzzr27
        have henr27 := enM_b (bt := bt) hq0r27.2.2.2
        refine k_if_eq hC 95 dX12_readSetting_75 rfl (by omega) (fun c_75 => ?_) (fun c_75 => absurd c_75 (by omega))
        refine k_aload_n hC dX12_readSetting_95 rfl 0 rfl ?_
        refine k_ldcsw hC (List.mem_of_getElem? (i := 52) rfl) dX12_readSetting_96 ?_
        have h_38 : w27 144 = iA G 700 bt := (hf27 144 (by decide)).trans h_28
        refine k_mutV hC (c_X12_accept l hls G hN w27 fl u27 bt n st 4 (by decide) hn7 hb hu27 h_38 hKr27) yy_X12_accept wm_X12_447 (kl hN (by decide)) hu27 rfl rfl rfl rfl (Nat.le_of_ble_eq_true rfl) (by decide) (by decide) ⟨by decide, by decide⟩ dX12_readSetting_99 (fun w37 hp37 => ?_)
        obtain ⟨hT37, hf37⟩ := hp37
        by_cases hw_37 : isW bt n 4 st
        · rw [selP_1 hw_37] at hT37
          refine k_topv (vI 1) (congrArg vI (selI_1 hw_37)) ?_
          have hwz_37 := hw_37.1
          obtain ⟨u37, hu37, hKr37, hs37⟩ := hT37
          obtain ⟨st_39, est_39⟩ : ∃ z : PS, z = adP bt n st := ⟨_, rfl⟩
          rw [← est_39] at hKr37
          have h18r37 := hKr37.1
          have h22r37 := hKr37.2.1
          have hrgr37 := hKr37.2.2.1
          have hcbr37 := hKr37.cb
          have hzir37 : st_39.1 = 0 := by rw [est_39]; exact ad_c.mpr (by omega)
          have hzzr37 : st_39.1 = 0 := by omega
          have hq0r37 := hKr37.2.2.2.1 hzzr37
          have henr37 := enM_b (bt := bt) hq0r37.2.2.2
          refine k_if_eq hC 139 dX12_readSetting_102 rfl (by omega) (fun c_102 => absurd c_102 (by omega)) (fun c_102 => ?_)
          refine k_aload_n hC dX12_readSetting_105 rfl 0 rfl ?_
          refine k_get hC fd_X12_13 (kl hN (by decide)) hu37 rfl dX12_readSetting_106 ?_
          refine k_bipush hC dX12_readSetting_109 (by decide) ?_
          refine k_aload_n hC dX12_readSetting_111 rfl 0 rfl ?_
          refine k_iconst hC dX12_readSetting_112 ?_
          refine k_sipush hC dX12_readSetting_113 (by decide) ?_
          have h_41 : w37 144 = iA G 700 bt := (hf37 144 (by decide)).trans h_38
          refine k_mutV hC (c_X12_readNumber l hls G hN w37 fl u37 bt n st_39 0 21599 (by omega) (by omega) hn7 hb hu37 h_41 hKr37) yy_X12_readNumber wm_X12_435 (kl hN (by decide)) hu37 rfl rfl rfl rfl (Nat.le_of_ble_eq_true rfl) (by decide) (by decide) ⟨by decide, by decide⟩ dX12_readSetting_116 (fun w40 hp40 => ?_)
          obtain ⟨hT40, hf40⟩ := hp40
          have hnv_42 := rnV_b (bt := bt) (n := n) (lo := 0) (hi := 21599) (st := st_39) (by omega)
          obtain ⟨u40, hu40, hKr40, hs40⟩ := hT40
          obtain ⟨st_43, est_43⟩ : ∃ z : PS, z = tkP bt n 0 21599 st_39 := ⟨_, rfl⟩
          rw [← est_43] at hKr40
          have h18r40 := hKr40.1
          have h22r40 := hKr40.2.1
          have hrgr40 := hKr40.2.2.1
          have hcbr40 := hKr40.cb
          refine k_i2l hC dX12_readSetting_119 (by omega) ?_
          have h_44 : w40 135 = lA G 93 D := (hf40 135 (by decide)).trans ((hf37 135 (by decide)).trans ((hf27 135 (by decide)).trans ((hf17 135 (by decide)).trans ((hf1 135 (by decide)).trans h135))))
          refine k_last hC (kl hN (by decide)) h_44 (by omega) (by decide) dX12_readSetting_120 (fun w45 hw45 hf45 => ?_)
          refine k_aload_n hC dX12_readSetting_121 rfl 0 rfl ?_
          have h_46 : w45 133 = .inr (12, [.ref (kad G 134), .ref (kad G 135), .ref (kad G 136), .ref (kad G 137), vI (u40 4), vI (u40 5), vI (u40 6), .ref (kad G 138), .ref (kad G 139), .ref (kad G 140), .ref (kad G 141), .ref (kad G 142), vL (u40 12), vL (u40 13), .ref (kad G 143), vI (u40 15), .ref (kad G 144), vI (u40 17), vI (u40 18), vI (u40 19), vI (u40 20), vI (u40 21), vI (u40 22), vI (u40 23), vI (u40 24), vI (u40 25), .ref (kad G 145), .ref (kad G 146), .ref (kad G 147), vI (u40 29)]) := (hf45 133 (by decide)).trans hu40
          refine k_get hC fd_X12_13 (kl hN (by decide)) h_46 rfl dX12_readSetting_122 ?_
          refine k_bipush hC dX12_readSetting_125 (by decide) ?_
          refine k_aload_n hC dX12_readSetting_127 rfl 0 rfl ?_
          refine k_iconst hC dX12_readSetting_128 ?_
          refine k_bipush hC dX12_readSetting_129 (by decide) ?_
          have h_48 : w45 144 = iA G 700 bt := (hf45 144 (by decide)).trans ((hf40 144 (by decide)).trans h_41)
          refine k_mutV hC (c_X12_readNumber l hls G hN w45 fl u40 bt n st_43 0 100 (by omega) (by omega) hn7 hb h_46 h_48 hKr40) yy_X12_readNumber wm_X12_435 (kl hN (by decide)) h_46 rfl rfl rfl rfl (Nat.le_of_ble_eq_true rfl) (by decide) (by decide) ⟨by decide, by decide⟩ dX12_readSetting_131 (fun w47 hp47 => ?_)
          obtain ⟨hT47, hf47⟩ := hp47
          have hnv_49 := rnV_b (bt := bt) (n := n) (lo := 0) (hi := 100) (st := st_43) (by omega)
          obtain ⟨u47, hu47, hKr47, hs47⟩ := hT47
          obtain ⟨st_50, est_50⟩ : ∃ z : PS, z = tkP bt n 0 100 st_43 := ⟨_, rfl⟩
          rw [← est_50] at hKr47
          have h18r47 := hKr47.1
          have h22r47 := hKr47.2.1
          have hrgr47 := hKr47.2.2.1
          have hcbr47 := hKr47.cb
          refine k_i2l hC dX12_readSetting_134 (by omega) ?_
          have h_51 : w47 135 = lA G 93 (kup D 7 (rnV bt n 0 21599 st_39)) := (hf47 135 (by decide)).trans hw45
          refine k_last hC (kl hN (by decide)) h_51 (by omega) (by decide) dX12_readSetting_135 (fun w52 hw52 hf52 => ?_)
          refine k_goto hC 141 dX12_readSetting_136 rfl ?_
          refine k_iconst hC dX12_readSetting_141 ?_
          have h_53 : w52 133 = .inr (12, [.ref (kad G 134), .ref (kad G 135), .ref (kad G 136), .ref (kad G 137), vI (u47 4), vI (u47 5), vI (u47 6), .ref (kad G 138), .ref (kad G 139), .ref (kad G 140), .ref (kad G 141), .ref (kad G 142), vL (u47 12), vL (u47 13), .ref (kad G 143), vI (u47 15), .ref (kad G 144), vI (u47 17), vI (u47 18), vI (u47 19), vI (u47 20), vI (u47 21), vI (u47 22), vI (u47 23), vI (u47 24), vI (u47 25), .ref (kad G 145), .ref (kad G 146), .ref (kad G 147), vI (u47 29)]) := (hf52 133 (by decide)).trans hu47
          subst hQ
          exact k_zret hC (by omega) hr ⟨by decide, by decide⟩ (⟨congrArg (fun z => some (vI z)) (selI_1 (Or.inr (Or.inr (Or.inr hw_37)))), rfl, ⟨_, h_53, (by have e : st_50 = stS bt n st := (by unfold stS; rw [selP_0 hw_1, selP_0 hw_17, selP_0 hw_27, selP_1 hw_37, ← est_39, ← est_43]; exact est_50); rw [← e]; exact hKr47), (uS.tr (uS.tr (uS.tr (uS.tr (uS.tr (uS.tr (fun j _ => rfl) hs1) hs17) hs27) hs37) hs40) hs47)⟩, ⟨⟨_, hw52⟩, fun hc => hw52.trans (by have hq : st_50 = stS bt n st := (by unfold stS; rw [selP_0 hw_1, selP_0 hw_17, selP_0 hw_27, selP_1 hw_37, ← est_39, ← est_43]; exact est_50); rw [← hq] at hc; unfold stD; rw [selP_0 hw_1, selP_0 hw_17, selP_0 hw_27, selP_1 hw_37, ← est_39, ← est_43, ← rnV_0 (lo := 0) (hi := 21599) (st := st_39) (by rw [← est_43]; have h := hc; rw [est_50] at h; exact tkok h), ← rnV_0 (lo := 0) (hi := 100) (st := st_43) (by rw [← est_50]; exact hc)]; exact lA_congr (fun j hj => by simp only [setM, kup]; repeat (first | omega | rfl | split)))⟩, fun j hj => (hf52 j (by omega)).trans ((hf47 j (by omega)).trans ((hf45 j (by omega)).trans ((hf40 j (by omega)).trans ((hf37 j (by omega)).trans ((hf27 j (by omega)).trans ((hf17 j (by omega)).trans (hf1 j (by omega))))))))⟩) dX12_readSetting_142
        · rw [selP_0 hw_37] at hT37
          refine k_topv (vI 0) (congrArg vI (selI_0 hw_37)) ?_
          obtain ⟨u37, hu37, hKr37, hs37⟩ := hT37
          have h18r37 := hKr37.1
          have h22r37 := hKr37.2.1
          have hrgr37 := hKr37.2.2.1
          have hcbr37 := hKr37.cb
          have hzzr37 : st.1 = 0 := by omega
          have hq0r37 := hKr37.2.2.2.1 hzzr37
          have henr37 := enM_b (bt := bt) hq0r37.2.2.2
          refine k_if_eq hC 139 dX12_readSetting_102 rfl (by omega) (fun c_102 => ?_) (fun c_102 => absurd c_102 (by omega))
          refine k_iconst hC dX12_readSetting_139 ?_
          have h_54 : w37 135 = lA G 93 D := (hf37 135 (by decide)).trans ((hf27 135 (by decide)).trans ((hf17 135 (by decide)).trans ((hf1 135 (by decide)).trans h135)))
          subst hQ
          exact k_zret hC (by omega) hr ⟨by decide, by decide⟩ (⟨congrArg (fun z => some (vI z)) ((selI_0 (fun q => q.elim hw_1 (fun q => q.elim hw_17 (fun q => q.elim hw_27 hw_37)))).trans rfl), rfl, ⟨_, hu37, (by rw [show stS bt n st = st by unfold stS; rw [selP_0 hw_1, selP_0 hw_17, selP_0 hw_27, selP_0 hw_37]]; exact hKr37), (uS.tr (uS.tr (uS.tr (uS.tr (fun j _ => rfl) hs1) hs17) hs27) hs37)⟩, ⟨⟨_, h_54⟩, fun hc => h_54.trans (by unfold stD; rw [selP_0 hw_1, selP_0 hw_17, selP_0 hw_27, selP_0 hw_37])⟩, fun j hj => (hf37 j (by omega)).trans ((hf27 j (by omega)).trans ((hf17 j (by omega)).trans (hf1 j (by omega))))⟩) dX12_readSetting_140

set_option maxRecDepth 100000 in
set_option maxHeartbeats 4000000 in
theorem c_X12_readClause (l : Launch) (hls : l.stackTraces = false) (G : kG) (hN : kN G = 150) (w : Nat → va_E) (fl : va_W) (u bt : Nat → Int) (n : Nat) (st : PS) (D : Nat → Int) (hz0 : st.1 = 0) (hI : Inv D) (hNb : NmB D) (hn7 : n ≤ 700) (hb : btOK bt) (hm : w 133 = mdO G u) (h144 : w 144 = iA G 700 bt) (hK : mkR u bt n st) (h135 : w 135 = lA G 93 D) : KM l G yX12_readClause cX12_readClause 1 (none) 7 0 0 [.ref (kad G 133)] w fl (kMuv fl (fun w1 => rT G u bt n (clS bt n D st) w1 ∧ ((∃ D1, w1 135 = lA G 93 D1) ∧ ((clS bt n D st).1 = 0 → w1 135 = lA G 93 (clD bt n D st))) ∧ ∀ j, (j ≠ 133 ∧ j ≠ 135) → w1 j = w j)) := by
  refine KM_of2 hls (by decide +kernel) rfl (lv0 := [(0, .ref (kad G 133))]) rfl (Nat.le_of_ble_eq_true rfl) (fun p e R s m args below meth c Q hC hr hQ => ?_)
  have h18 := hK.1
  have h22 := hK.2.1
  have hrg := hK.2.2.1
  have hcb := hK.cb
  have h0 := hI.c
  have hzz : st.1 = 0 := by omega
  have hq0 := hK.2.2.2.1 hzz
  have hen := enM_b (bt := bt) hq0.2.2.2
  refine k_aload_n hC dX12_readClause_0 rfl 0 rfl ?_
  refine k_ldcs hC (List.mem_of_getElem? (i := 42) rfl) dX12_readClause_1 ?_
  refine k_pureV hC (c_X12_isWord l hls G hN w fl u bt n st 5 (by decide) hn7 hb hm h144 hK) yy_X12_isWord wm_X12_409 (kl hN (by decide)) hm rfl rfl rfl rfl (Nat.le_of_ble_eq_true rfl) (by decide) (by decide) ⟨by decide, by decide⟩ dX12_readClause_3 ?_
  obtain ⟨z_1, ez_1, hz_1⟩ := selI_c (isW bt n 5 st)
  refine k_topv (vI z_1) (by rw [ez_1]) ?_
  refine k_if_eq hC 16 dX12_readClause_6 rfl (by omega) (fun c_6 => ?_) (fun c_6 => ?_)
  · refine k_aload_n hC dX12_readClause_16 rfl 0 rfl ?_
    refine k_ldcsw hC (List.mem_of_getElem? (i := 48) rfl) dX12_readClause_17 ?_
    refine k_pureV hC (c_X12_isWord l hls G hN w fl u bt n st 6 (by decide) hn7 hb hm h144 hK) yy_X12_isWord wm_X12_409 (kl hN (by decide)) hm rfl rfl rfl rfl (Nat.le_of_ble_eq_true rfl) (by decide) (by decide) ⟨by decide, by decide⟩ dX12_readClause_20 ?_
    obtain ⟨z_2, ez_2, hz_2⟩ := selI_c (isW bt n 6 st)
    refine k_topv (vI z_2) (by rw [ez_2]) ?_
    refine k_if_eq hC 33 dX12_readClause_23 rfl (by omega) (fun c_23 => ?_) (fun c_23 => ?_)
    · refine k_aload_n hC dX12_readClause_33 rfl 0 rfl ?_
      refine k_ldcs hC (List.mem_of_getElem? (i := 41) rfl) dX12_readClause_34 ?_
      refine k_pureV hC (c_X12_isWord l hls G hN w fl u bt n st 7 (by decide) hn7 hb hm h144 hK) yy_X12_isWord wm_X12_409 (kl hN (by decide)) hm rfl rfl rfl rfl (Nat.le_of_ble_eq_true rfl) (by decide) (by decide) ⟨by decide, by decide⟩ dX12_readClause_36 ?_
      obtain ⟨z_3, ez_3, hz_3⟩ := selI_c (isW bt n 7 st)
      refine k_topv (vI z_3) (by rw [ez_3]) ?_
      refine k_if_eq hC 49 dX12_readClause_39 rfl (by omega) (fun c_39 => ?_) (fun c_39 => ?_)
      · refine k_aload_n hC dX12_readClause_49 rfl 0 rfl ?_
        refine k_mutV hC (c_X12_readSetting l hls G hN w fl u bt n st D (by omega) hI hNb hn7 hb hm h144 hK h135) yy_X12_readSetting wm_X12_467 (kl hN (by decide)) hm rfl rfl rfl rfl (Nat.le_of_ble_eq_true rfl) (by decide) (by decide) ⟨by decide, by decide⟩ dX12_readClause_50 (fun w4 hp4 => ?_)
        obtain ⟨hT4, ⟨⟨D4, hD4⟩, hDc4⟩, hf4⟩ := hp4
        obtain ⟨z_5, ez_5, hz_5⟩ := selI_c (stP bt n st)
        refine k_topv (vI z_5) (by rw [ez_5]) ?_
        obtain ⟨u4, hu4, hKr4, hs4⟩ := hT4
        obtain ⟨st_6, est_6⟩ : ∃ z : PS, z = stS bt n st := ⟨_, rfl⟩
        rw [← est_6] at hKr4
        have h18r4 := hKr4.1
        have h22r4 := hKr4.2.1
        have hrgr4 := hKr4.2.2.1
        have hcbr4 := hKr4.cb
        refine k_if_ne hC 62 dX12_readClause_53 rfl (by omega) (fun c_53 => ?_) (fun c_53 => ?_)
        · have hsp : stP bt n st := (hz_5.resolve_right (fun q1 => by omega)).2
          refine k_aload_n hC dX12_readClause_62 rfl 0 rfl ?_
          refine k_bipush hC dX12_readClause_63 (by decide) ?_
          have h_8 : w4 144 = iA G 700 bt := (hf4 144 (by decide)).trans h144
          refine k_muvV hC (c_X12_expect l hls G hN w4 fl u4 bt n st_6 59 (by omega) hn7 hb hu4 h_8 hKr4) yy_X12_expect wm_X12_471 (kl hN (by decide)) hu4 rfl rfl rfl rfl (Nat.le_of_ble_eq_true rfl) (by decide) (by decide) ⟨by decide, by decide⟩ dX12_readClause_65 (fun w7 hp7 => ?_)
          obtain ⟨hT7, hf7⟩ := hp7
          obtain ⟨u7, hu7, hKr7, hs7⟩ := hT7
          obtain ⟨st_9, est_9⟩ : ∃ z : PS, z = nsP bt n 59 st_6 := ⟨_, rfl⟩
          rw [← est_9] at hKr7
          have h18r7 := hKr7.1
          have h22r7 := hKr7.2.1
          have hrgr7 := hKr7.2.2.1
          have hcbr7 := hKr7.cb
          have h_10 : w7 135 = lA G 93 D4 := (hf7 135 (by decide)).trans hD4
          subst hQ
          exact k_vret hC hr ⟨by decide, by decide⟩ (⟨rfl, rfl, ⟨_, hu7, (by have e : st_9 = clS bt n D st := (by unfold clS; rw [(cl_set hsp).1, ← est_6]; exact est_9); rw [← e]; exact hKr7), (uS.tr (uS.tr (fun j _ => rfl) hs4) hs7)⟩, ⟨⟨_, h_10⟩, fun hc => h_10.trans (hD4.symm.trans ((hDc4 (by have hq : st_9 = clS bt n D st := (by unfold clS; rw [(cl_set hsp).1, ← est_6]; exact est_9); rw [← hq, est_9] at hc; rw [← est_6]; exact nsok hc)).trans (by rw [(cl_set hsp).2])))⟩, fun j hj => (hf7 j (by omega)).trans (hf4 j (by omega))⟩) dX12_readClause_68
        · have hsp : ¬ stP bt n st := (hz_5.resolve_left (fun q1 => by omega)).2
          have hsz : st_6.1 = 0 := by rw [est_6, stS_0 hsp]; omega
          have hzzr4 : st_6.1 = 0 := by omega
          have hq0r4 := hKr4.2.2.2.1 hzzr4
          have henr4 := enM_b (bt := bt) hq0r4.2.2.2
          refine k_aload_n hC dX12_readClause_56 rfl 0 rfl ?_
          refine k_iconst hC dX12_readClause_57 ?_
          refine k_iconst hC dX12_readClause_58 ?_
          have h_12 : w4 144 = iA G 700 bt := (hf4 144 (by decide)).trans h144
          refine k_muvV hC (c_X12_check0 l hls G hN w4 fl u4 bt n st_6 1 (by omega) hn7 hb hu4 h_12 hKr4) yy_X12_check wm_X12_413 (kl hN (by decide)) hu4 rfl rfl rfl rfl (Nat.le_of_ble_eq_true rfl) (by decide) (by decide) ⟨by decide, by decide⟩ dX12_readClause_59 (fun w11 hp11 => ?_)
          obtain ⟨hT11, hf11⟩ := hp11
          obtain ⟨u11, hu11, hKr11, hs11⟩ := hT11
          obtain ⟨st_13, est_13⟩ : ∃ z : PS, z = flP 1 st_6 := ⟨_, rfl⟩
          rw [← est_13] at hKr11
          have h18r11 := hKr11.1
          have h22r11 := hKr11.2.1
          have hrgr11 := hKr11.2.2.1
          have hcbr11 := hKr11.cb
          have hzzr11 : st_13.1 ≠ 0 := by rw [est_13]; exact fl_c (by omega)
          refine k_aload_n hC dX12_readClause_62 rfl 0 rfl ?_
          refine k_bipush hC dX12_readClause_63 (by decide) ?_
          have h_15 : w11 144 = iA G 700 bt := (hf11 144 (by decide)).trans h_12
          refine k_muvV hC (c_X12_expect l hls G hN w11 fl u11 bt n st_13 59 (by omega) hn7 hb hu11 h_15 hKr11) yy_X12_expect wm_X12_471 (kl hN (by decide)) hu11 rfl rfl rfl rfl (Nat.le_of_ble_eq_true rfl) (by decide) (by decide) ⟨by decide, by decide⟩ dX12_readClause_65 (fun w14 hp14 => ?_)
          obtain ⟨hT14, hf14⟩ := hp14
          obtain ⟨u14, hu14, hKr14, hs14⟩ := hT14
          obtain ⟨st_16, est_16⟩ : ∃ z : PS, z = nsP bt n 59 st_13 := ⟨_, rfl⟩
          rw [← est_16] at hKr14
          have h18r14 := hKr14.1
          have h22r14 := hKr14.2.1
          have hrgr14 := hKr14.2.2.1
          have hcbr14 := hKr14.cb
          have hzzr14 : st_16.1 ≠ 0 := by rw [est_16, nsP_e (by omega)]; omega
          have h_17 : w14 135 = lA G 93 D4 := (hf14 135 (by decide)).trans ((hf11 135 (by decide)).trans hD4)
          subst hQ
          exact k_vret hC hr ⟨by decide, by decide⟩ (⟨rfl, rfl, ⟨_, hu14, (by have e : st_16 = clS bt n D st := (by unfold clS; rw [(cl_bad hsp (hz_1.resolve_left (fun q1 => by omega)).2 (hz_2.resolve_left (fun q1 => by omega)).2 (hz_3.resolve_left (fun q1 => by omega)).2).1]; have hx : st_6 = st := (by rw [est_6]; exact stS_0 hsp); rw [← hx, ← est_13]; exact est_16); rw [← e]; exact hKr14), (uS.tr (uS.tr (uS.tr (fun j _ => rfl) hs4) hs11) hs14)⟩, ⟨⟨_, h_17⟩, fun hc => absurd hc (by have hq : st_16 = clS bt n D st := (by unfold clS; rw [(cl_bad hsp (hz_1.resolve_left (fun q1 => by omega)).2 (hz_2.resolve_left (fun q1 => by omega)).2 (hz_3.resolve_left (fun q1 => by omega)).2).1]; have hx : st_6 = st := (by rw [est_6]; exact stS_0 hsp); rw [← hx, ← est_13]; exact est_16); rw [← hq]; omega)⟩, fun j hj => (hf14 j (by omega)).trans ((hf11 j (by omega)).trans (hf4 j (by omega)))⟩) dX12_readClause_68
      · refine k_aload_n hC dX12_readClause_42 rfl 0 rfl ?_
        refine k_muvV hC (c_X12_readSight l hls G hN w fl u bt n st D (by omega) hI hNb hn7 hb hm h144 hK h135) yy_X12_readSight wm_X12_464 (kl hN (by decide)) hm rfl rfl rfl rfl (Nat.le_of_ble_eq_true rfl) (by decide) (by decide) ⟨by decide, by decide⟩ dX12_readClause_43 (fun w18 hp18 => ?_)
        obtain ⟨hT18, ⟨⟨D18, hD18⟩, hDc18⟩, hf18⟩ := hp18
        obtain ⟨u18, hu18, hKr18, hs18⟩ := hT18
        obtain ⟨st_19, est_19⟩ : ∃ z : PS, z = clSightS bt n D st := ⟨_, rfl⟩
        rw [← est_19] at hKr18
        have h18r18 := hKr18.1
        have h22r18 := hKr18.2.1
        have hrgr18 := hKr18.2.2.1
        have hcbr18 := hKr18.cb
        refine k_goto hC 62 dX12_readClause_46 rfl ?_
        refine k_aload_n hC dX12_readClause_62 rfl 0 rfl ?_
        refine k_bipush hC dX12_readClause_63 (by decide) ?_
        have h_21 : w18 144 = iA G 700 bt := (hf18 144 (by decide)).trans h144
        refine k_muvV hC (c_X12_expect l hls G hN w18 fl u18 bt n st_19 59 (by omega) hn7 hb hu18 h_21 hKr18) yy_X12_expect wm_X12_471 (kl hN (by decide)) hu18 rfl rfl rfl rfl (Nat.le_of_ble_eq_true rfl) (by decide) (by decide) ⟨by decide, by decide⟩ dX12_readClause_65 (fun w20 hp20 => ?_)
        obtain ⟨hT20, hf20⟩ := hp20
        obtain ⟨u20, hu20, hKr20, hs20⟩ := hT20
        obtain ⟨st_22, est_22⟩ : ∃ z : PS, z = nsP bt n 59 st_19 := ⟨_, rfl⟩
        rw [← est_22] at hKr20
        have h18r20 := hKr20.1
        have h22r20 := hKr20.2.1
        have hrgr20 := hKr20.2.2.1
        have hcbr20 := hKr20.cb
        have h_23 : w20 135 = lA G 93 D18 := (hf20 135 (by decide)).trans hD18
        subst hQ
        exact k_vret hC hr ⟨by decide, by decide⟩ (⟨rfl, rfl, ⟨_, hu20, (by have e : st_22 = clS bt n D st := (by unfold clS; rw [(cl_sight (hz_1.resolve_left (fun q1 => by omega)).2 (hz_2.resolve_left (fun q1 => by omega)).2 (hz_3.resolve_right (fun q1 => by omega)).2).1, ← est_19]; exact est_22); rw [← e]; exact hKr20), (uS.tr (uS.tr (fun j _ => rfl) hs18) hs20)⟩, ⟨⟨_, h_23⟩, fun hc => h_23.trans (hD18.symm.trans ((hDc18 (by have hq : st_22 = clS bt n D st := (by unfold clS; rw [(cl_sight (hz_1.resolve_left (fun q1 => by omega)).2 (hz_2.resolve_left (fun q1 => by omega)).2 (hz_3.resolve_right (fun q1 => by omega)).2).1, ← est_19]; exact est_22); rw [← hq, est_22] at hc; rw [← est_19]; exact nsok hc)).trans (by rw [(cl_sight (hz_1.resolve_left (fun q1 => by omega)).2 (hz_2.resolve_left (fun q1 => by omega)).2 (hz_3.resolve_right (fun q1 => by omega)).2).2])))⟩, fun j hj => (hf20 j (by omega)).trans (hf18 j (by omega))⟩) dX12_readClause_68
    · refine k_aload_n hC dX12_readClause_26 rfl 0 rfl ?_
      refine k_muvV hC (c_X12_readLeg l hls G hN w fl u bt n st D (by omega) hI hNb hn7 hb hm h144 hK h135) yy_X12_readLeg wm_X12_461 (kl hN (by decide)) hm rfl rfl rfl rfl (Nat.le_of_ble_eq_true rfl) (by decide) (by decide) ⟨by decide, by decide⟩ dX12_readClause_27 (fun w24 hp24 => ?_)
      obtain ⟨hT24, ⟨⟨D24, hD24⟩, hDc24⟩, hf24⟩ := hp24
      obtain ⟨u24, hu24, hKr24, hs24⟩ := hT24
      obtain ⟨st_25, est_25⟩ : ∃ z : PS, z = clLegS bt n D st := ⟨_, rfl⟩
      rw [← est_25] at hKr24
      have h18r24 := hKr24.1
      have h22r24 := hKr24.2.1
      have hrgr24 := hKr24.2.2.1
      have hcbr24 := hKr24.cb
      refine k_goto hC 62 dX12_readClause_30 rfl ?_
      refine k_aload_n hC dX12_readClause_62 rfl 0 rfl ?_
      refine k_bipush hC dX12_readClause_63 (by decide) ?_
      have h_27 : w24 144 = iA G 700 bt := (hf24 144 (by decide)).trans h144
      refine k_muvV hC (c_X12_expect l hls G hN w24 fl u24 bt n st_25 59 (by omega) hn7 hb hu24 h_27 hKr24) yy_X12_expect wm_X12_471 (kl hN (by decide)) hu24 rfl rfl rfl rfl (Nat.le_of_ble_eq_true rfl) (by decide) (by decide) ⟨by decide, by decide⟩ dX12_readClause_65 (fun w26 hp26 => ?_)
      obtain ⟨hT26, hf26⟩ := hp26
      obtain ⟨u26, hu26, hKr26, hs26⟩ := hT26
      obtain ⟨st_28, est_28⟩ : ∃ z : PS, z = nsP bt n 59 st_25 := ⟨_, rfl⟩
      rw [← est_28] at hKr26
      have h18r26 := hKr26.1
      have h22r26 := hKr26.2.1
      have hrgr26 := hKr26.2.2.1
      have hcbr26 := hKr26.cb
      have h_29 : w26 135 = lA G 93 D24 := (hf26 135 (by decide)).trans hD24
      subst hQ
      exact k_vret hC hr ⟨by decide, by decide⟩ (⟨rfl, rfl, ⟨_, hu26, (by have e : st_28 = clS bt n D st := (by unfold clS; rw [(cl_leg (hz_1.resolve_left (fun q1 => by omega)).2 (hz_2.resolve_right (fun q1 => by omega)).2).1, ← est_25]; exact est_28); rw [← e]; exact hKr26), (uS.tr (uS.tr (fun j _ => rfl) hs24) hs26)⟩, ⟨⟨_, h_29⟩, fun hc => h_29.trans (hD24.symm.trans ((hDc24 (by have hq : st_28 = clS bt n D st := (by unfold clS; rw [(cl_leg (hz_1.resolve_left (fun q1 => by omega)).2 (hz_2.resolve_right (fun q1 => by omega)).2).1, ← est_25]; exact est_28); rw [← hq, est_28] at hc; rw [← est_25]; exact nsok hc)).trans (by rw [(cl_leg (hz_1.resolve_left (fun q1 => by omega)).2 (hz_2.resolve_right (fun q1 => by omega)).2).2])))⟩, fun j hj => (hf26 j (by omega)).trans (hf24 j (by omega))⟩) dX12_readClause_68
  · refine k_aload_n hC dX12_readClause_9 rfl 0 rfl ?_
    refine k_muvV hC (c_X12_readBody l hls G hN w fl u bt n st D (by omega) hI hNb hn7 hb hm h144 hK h135) yy_X12_readBody wm_X12_456 (kl hN (by decide)) hm rfl rfl rfl rfl (Nat.le_of_ble_eq_true rfl) (by decide) (by decide) ⟨by decide, by decide⟩ dX12_readClause_10 (fun w30 hp30 => ?_)
    obtain ⟨hT30, ⟨⟨D30, hD30⟩, hDc30⟩, hf30⟩ := hp30
    obtain ⟨u30, hu30, hKr30, hs30⟩ := hT30
    obtain ⟨st_31, est_31⟩ : ∃ z : PS, z = clBodyS bt n D st := ⟨_, rfl⟩
    rw [← est_31] at hKr30
    have h18r30 := hKr30.1
    have h22r30 := hKr30.2.1
    have hrgr30 := hKr30.2.2.1
    have hcbr30 := hKr30.cb
    refine k_goto hC 62 dX12_readClause_13 rfl ?_
    refine k_aload_n hC dX12_readClause_62 rfl 0 rfl ?_
    refine k_bipush hC dX12_readClause_63 (by decide) ?_
    have h_33 : w30 144 = iA G 700 bt := (hf30 144 (by decide)).trans h144
    refine k_muvV hC (c_X12_expect l hls G hN w30 fl u30 bt n st_31 59 (by omega) hn7 hb hu30 h_33 hKr30) yy_X12_expect wm_X12_471 (kl hN (by decide)) hu30 rfl rfl rfl rfl (Nat.le_of_ble_eq_true rfl) (by decide) (by decide) ⟨by decide, by decide⟩ dX12_readClause_65 (fun w32 hp32 => ?_)
    obtain ⟨hT32, hf32⟩ := hp32
    obtain ⟨u32, hu32, hKr32, hs32⟩ := hT32
    obtain ⟨st_34, est_34⟩ : ∃ z : PS, z = nsP bt n 59 st_31 := ⟨_, rfl⟩
    rw [← est_34] at hKr32
    have h18r32 := hKr32.1
    have h22r32 := hKr32.2.1
    have hrgr32 := hKr32.2.2.1
    have hcbr32 := hKr32.cb
    have h_35 : w32 135 = lA G 93 D30 := (hf32 135 (by decide)).trans hD30
    subst hQ
    exact k_vret hC hr ⟨by decide, by decide⟩ (⟨rfl, rfl, ⟨_, hu32, (by have e : st_34 = clS bt n D st := (by unfold clS; rw [(cl_body (hz_1.resolve_right (fun q1 => by omega)).2).1, ← est_31]; exact est_34); rw [← e]; exact hKr32), (uS.tr (uS.tr (fun j _ => rfl) hs30) hs32)⟩, ⟨⟨_, h_35⟩, fun hc => h_35.trans (hD30.symm.trans ((hDc30 (by have hq : st_34 = clS bt n D st := (by unfold clS; rw [(cl_body (hz_1.resolve_right (fun q1 => by omega)).2).1, ← est_31]; exact est_34); rw [← hq, est_34] at hc; rw [← est_31]; exact nsok hc)).trans (by rw [(cl_body (hz_1.resolve_right (fun q1 => by omega)).2).2])))⟩, fun j hj => (hf32 j (by omega)).trans (hf30 j (by omega))⟩) dX12_readClause_68

set_option maxRecDepth 100000 in
set_option maxHeartbeats 4000000 in
theorem c_X12_startText (l : Launch) (hls : l.stackTraces = false) (G : kG) (hN : kN G = 150) (w : Nat → va_E) (fl : va_W) (u bt : Nat → Int) (n : Nat) (hn7 : n ≤ 700) (hb : btOK bt) (hm : w 133 = mdO G u) (h144 : w 144 = iA G 700 bt) : KM l G yX12_startText cX12_startText 2 (none) 3 0 0 [.ref (kad G 133), vI (n : Int)] w fl (kMuv fl (fun w1 => (∃ u1, w1 133 = mdO G u1 ∧ mkR u1 bt n (tx0 bt n) ∧ u1 25 = 0 ∧ ∀ j, (j < 18 ∨ (23 < j ∧ j ≠ 25)) → u1 j = u j) ∧ ∀ j, j ≠ 133 → w1 j = w j)) := by
  refine KM_of2 hls (by decide +kernel) rfl (lv0 := [(0, .ref (kad G 133)), (1, vI (n : Int))]) rfl (Nat.le_of_ble_eq_true rfl) (fun p e R s m args below meth c Q hC hr hQ => ?_)
  refine k_aload_n hC dX12_startText_0 rfl 0 rfl ?_
  refine k_iload_n hC dX12_startText_1 rfl 1 rfl ?_
  refine k_put hC fd_X12_365 (kl hN (by decide)) hm [.ref (kad G 134), .ref (kad G 135), .ref (kad G 136), .ref (kad G 137), vI (u 4), vI (u 5), vI (u 6), .ref (kad G 138), .ref (kad G 139), .ref (kad G 140), .ref (kad G 141), .ref (kad G 142), vL (u 12), vL (u 13), .ref (kad G 143), vI (u 15), .ref (kad G 144), vI (u 17), vI (n : Int), vI (u 19), vI (u 20), vI (u 21), vI (u 22), vI (u 23), vI (u 24), vI (u 25), .ref (kad G 145), .ref (kad G 146), .ref (kad G 147), vI (u 29)] rfl (Nat.le_of_ble_eq_true rfl) rfl rfl dX12_startText_2 (fun w1 hw1 hf1 => ?_)
  refine k_aload_n hC dX12_startText_5 rfl 0 rfl ?_
  refine k_iconst hC dX12_startText_6 ?_
  refine k_put hC fd_X12_371 (kl hN (by decide)) hw1 [.ref (kad G 134), .ref (kad G 135), .ref (kad G 136), .ref (kad G 137), vI (u 4), vI (u 5), vI (u 6), .ref (kad G 138), .ref (kad G 139), .ref (kad G 140), .ref (kad G 141), .ref (kad G 142), vL (u 12), vL (u 13), .ref (kad G 143), vI (u 15), .ref (kad G 144), vI (u 17), vI (n : Int), vI 0, vI (u 20), vI (u 21), vI (u 22), vI (u 23), vI (u 24), vI (u 25), .ref (kad G 145), .ref (kad G 146), .ref (kad G 147), vI (u 29)] rfl (Nat.le_of_ble_eq_true rfl) rfl rfl dX12_startText_7 (fun w2 hw2 hf2 => ?_)
  refine k_aload_n hC dX12_startText_10 rfl 0 rfl ?_
  refine k_iconst hC dX12_startText_11 ?_
  refine k_put hC fd_X12_386 (kl hN (by decide)) hw2 [.ref (kad G 134), .ref (kad G 135), .ref (kad G 136), .ref (kad G 137), vI (u 4), vI (u 5), vI (u 6), .ref (kad G 138), .ref (kad G 139), .ref (kad G 140), .ref (kad G 141), .ref (kad G 142), vL (u 12), vL (u 13), .ref (kad G 143), vI (u 15), .ref (kad G 144), vI (u 17), vI (n : Int), vI 0, vI (u 20), vI (u 21), vI 0, vI (u 23), vI (u 24), vI (u 25), .ref (kad G 145), .ref (kad G 146), .ref (kad G 147), vI (u 29)] rfl (Nat.le_of_ble_eq_true rfl) rfl rfl dX12_startText_12 (fun w3 hw3 hf3 => ?_)
  refine k_aload_n hC dX12_startText_15 rfl 0 rfl ?_
  refine k_iconst hC dX12_startText_16 ?_
  refine k_put hC fd_X12_389 (kl hN (by decide)) hw3 [.ref (kad G 134), .ref (kad G 135), .ref (kad G 136), .ref (kad G 137), vI (u 4), vI (u 5), vI (u 6), .ref (kad G 138), .ref (kad G 139), .ref (kad G 140), .ref (kad G 141), .ref (kad G 142), vL (u 12), vL (u 13), .ref (kad G 143), vI (u 15), .ref (kad G 144), vI (u 17), vI (n : Int), vI 0, vI (u 20), vI (u 21), vI 0, vI (u 23), vI (u 24), vI 0, .ref (kad G 145), .ref (kad G 146), .ref (kad G 147), vI (u 29)] rfl (Nat.le_of_ble_eq_true rfl) rfl rfl dX12_startText_17 (fun w4 hw4 hf4 => ?_)
  refine k_aload_n hC dX12_startText_20 rfl 0 rfl ?_
  have h_6 : w4 144 = iA G 700 bt := (hf4 144 (by decide)).trans ((hf3 144 (by decide)).trans ((hf2 144 (by decide)).trans ((hf1 144 (by decide)).trans h144)))
  refine k_muvV hC (c_X12_scan l hls G hN w4 fl (kup (kup (kup (kup u 18 (n : Int)) 19 0) 22 0) 25 0) bt n 0 (by omega) rfl hn7 hb hw4 rfl h_6) yy_X12_scan wm_X12_392 (kl hN (by decide)) hw4 rfl rfl rfl rfl (Nat.le_of_ble_eq_true rfl) (by decide) (by decide) ⟨by decide, by decide⟩ dX12_startText_21 (fun w5 hp5 => ?_)
  obtain ⟨hu9, hf5⟩ := hp5
  subst hQ
  exact k_vret hC hr ⟨by decide, by decide⟩ (⟨rfl, rfl, ⟨_, hu9, mk_scan (u := (kup (kup (kup (kup u 18 (n : Int)) 19 0) 22 0) 25 0)) rfl (by omega) rfl rfl, rfl, fun j hj => ((kup_n (by omega)).trans ((kup_n (by omega)).trans ((kup_n (by omega)).trans ((kup_n (by omega)).trans ((kup_n (by omega)).trans ((kup_n (by omega)).trans ((kup_n (by omega)))))))))⟩, fun j hj => (hf5 j (by omega)).trans ((hf4 j (by omega)).trans ((hf3 j (by omega)).trans ((hf2 j (by omega)).trans (hf1 j (by omega)))))⟩) dX12_startText_24

set_option maxRecDepth 100000 in
set_option maxHeartbeats 4000000 in
theorem c_X12_finish (l : Launch) (hls : l.stackTraces = false) (G : kG) (hN : kN G = 150) (w : Nat → va_E) (fl : va_W) (u bt : Nat → Int) (n : Nat) (st : PS) (hn7 : n ≤ 700) (hb : btOK bt) (hm : w 133 = mdO G u) (h144 : w 144 = iA G 700 bt) (hK : mkR u bt n st) : KM l G yX12_finish cX12_finish 1 (some (FieldType.int)) 0 0 0 [.ref (kad G 133)] w fl (kMut (vI st.1) fl (fun w1 => w1 133 = mdO G (kup (kup u 17 0) 24 (selI (st.1 = 0) (-1) st.2.1)) ∧ ∀ j, j ≠ 133 → w1 j = w j)) := by
  refine KM_of2 hls (by decide +kernel) rfl (lv0 := [(0, .ref (kad G 133))]) rfl (Nat.le_of_ble_eq_true rfl) (fun p e R s m args below meth c Q hC hr hQ => ?_)
  have h18 := hK.1
  have h22 := hK.2.1
  have hrg := hK.2.2.1
  have hcb := hK.cb
  have hk0 := hK.2.2.2.1
  have hk1 := hK.2.2.2.2.1
  have hdg := hK.2.2.2.2.2
  refine k_aload_n hC dX12_finish_0 rfl 0 rfl ?_
  refine k_iconst hC dX12_finish_1 ?_
  refine k_put hC fd_X12_362 (kl hN (by decide)) hm [.ref (kad G 134), .ref (kad G 135), .ref (kad G 136), .ref (kad G 137), vI (u 4), vI (u 5), vI (u 6), .ref (kad G 138), .ref (kad G 139), .ref (kad G 140), .ref (kad G 141), .ref (kad G 142), vL (u 12), vL (u 13), .ref (kad G 143), vI (u 15), .ref (kad G 144), vI 0, vI (u 18), vI (u 19), vI (u 20), vI (u 21), vI (u 22), vI (u 23), vI (u 24), vI (u 25), .ref (kad G 145), .ref (kad G 146), .ref (kad G 147), vI (u 29)] rfl (Nat.le_of_ble_eq_true rfl) rfl rfl dX12_finish_2 (fun w1 hw1 hf1 => ?_)
  refine k_aload_n hC dX12_finish_5 rfl 0 rfl ?_
  refine k_aload_n hC dX12_finish_6 rfl 0 rfl ?_
  refine k_get hC fd_X12_386 (kl hN (by decide)) hw1 rfl dX12_finish_7 ?_
  refine k_topv (vI (u 22)) rfl ?_
  refine k_if_ne hC 17 dX12_finish_10 rfl (by omega) (fun c_10 => ?_) (fun c_10 => ?_)
  · have hzz : st.1 ≠ 0 := by omega
    refine k_aload_n hC dX12_finish_17 rfl 0 rfl ?_
    refine k_get hC fd_X12_395 (kl hN (by decide)) hw1 rfl dX12_finish_18 ?_
    refine k_topv (vI (u 23)) rfl ?_
    refine k_put hC fd_X12_44 (kl hN (by decide)) hw1 [.ref (kad G 134), .ref (kad G 135), .ref (kad G 136), .ref (kad G 137), vI (u 4), vI (u 5), vI (u 6), .ref (kad G 138), .ref (kad G 139), .ref (kad G 140), .ref (kad G 141), .ref (kad G 142), vL (u 12), vL (u 13), .ref (kad G 143), vI (u 15), .ref (kad G 144), vI 0, vI (u 18), vI (u 19), vI (u 20), vI (u 21), vI (u 22), vI (u 23), vI (u 23), vI (u 25), .ref (kad G 145), .ref (kad G 146), .ref (kad G 147), vI (u 29)] rfl (Nat.le_of_ble_eq_true rfl) rfl rfl dX12_finish_21 (fun w2 hw2 hf2 => ?_)
    refine k_aload_n hC dX12_finish_24 rfl 0 rfl ?_
    refine k_get hC fd_X12_386 (kl hN (by decide)) hw2 rfl dX12_finish_25 ?_
    refine k_topv (vI (u 22)) rfl ?_
    subst hQ
    exact k_iret hC hr ⟨by decide, by decide⟩ (⟨congrArg (fun z => some (vI z)) (by omega), rfl, (by rw [selI_0 (by omega), ← (hk1 (by omega)).2]; exact hw2), fun j hj => (hf2 j (by omega)).trans (hf1 j (by omega))⟩) dX12_finish_28
  · have hzz : st.1 = 0 := by omega
    have hq0 := hK.2.2.2.1 hzz
    have hen := enM_b (bt := bt) hq0.2.2.2
    refine k_iconst hC dX12_finish_13 ?_
    refine k_goto hC 21 dX12_finish_14 rfl ?_
    refine k_put hC fd_X12_44 (kl hN (by decide)) hw1 [.ref (kad G 134), .ref (kad G 135), .ref (kad G 136), .ref (kad G 137), vI (u 4), vI (u 5), vI (u 6), .ref (kad G 138), .ref (kad G 139), .ref (kad G 140), .ref (kad G 141), .ref (kad G 142), vL (u 12), vL (u 13), .ref (kad G 143), vI (u 15), .ref (kad G 144), vI 0, vI (u 18), vI (u 19), vI (u 20), vI (u 21), vI (u 22), vI (u 23), vI (-1), vI (u 25), .ref (kad G 145), .ref (kad G 146), .ref (kad G 147), vI (u 29)] rfl (Nat.le_of_ble_eq_true rfl) rfl rfl dX12_finish_21 (fun w3 hw3 hf3 => ?_)
    refine k_aload_n hC dX12_finish_24 rfl 0 rfl ?_
    refine k_get hC fd_X12_386 (kl hN (by decide)) hw3 rfl dX12_finish_25 ?_
    refine k_topv (vI (u 22)) rfl ?_
    refine k_topv (vI 0) (congrArg vI (by omega)) ?_
    subst hQ
    exact k_iret hC hr ⟨by decide, by decide⟩ (⟨congrArg (fun z => some (vI z)) (by omega), rfl, (by rw [selI_1 (by omega)]; exact hw3), fun j hj => (hf3 j (by omega)).trans (hf1 j (by omega))⟩) dX12_finish_28

theorem bputR_e {G : kG} {bt : Nat → Int} {c : Nat} {a : Int} : iA G 700 (kup (kup (kup (kup bt c (a / 2 ^ 24 % 256)) (c + 1) (a / 2 ^ 16 % 256)) (c + 2) (a / 2 ^ 8 % 256)) (c + 3) (a % 256)) = iA G 700 (bput bt c a) := iA_congr (fun j hj => by
  unfold kup bput byOf
  by_cases h3 : j = c + 3
  · rw [if_pos h3, if_pos (by omega), show j - c = 3 by omega]; rfl
  rw [if_neg h3]
  by_cases h2 : j = c + 2
  · rw [if_pos h2, if_pos (by omega), show j - c = 2 by omega]; rfl
  rw [if_neg h2]
  by_cases h1 : j = c + 1
  · rw [if_pos h1, if_pos (by omega), show j - c = 1 by omega]; rfl
  rw [if_neg h1]
  by_cases h0 : j = c
  · rw [if_pos h0, if_pos (by omega), show j - c = 0 by omega]; rfl
  · rw [if_neg h0, if_neg (by omega)])
theorem mdO_17 {G : kG} {u : Nat → Int} {c : Int} (h : u 17 = c) : mdO G u = mdO G (kup u 17 c) := by subst h; rfl
theorem mdO_17x {G : kG} {u : Nat → Int} {c : Int} (h : u 17 = c) : mdO G (kup (kup u 17 c) 5 0) = mdO G (kup u 5 0) := by subst h; rfl
set_option maxRecDepth 100000 in
set_option maxHeartbeats 4000000 in
theorem c_X12_feed (l : Launch) (hls : l.stackTraces = false) (G : kG) (hN : kN G = 150) (w : Nat → va_E) (fl : va_W) (u bt : Nat → Int) (c0 : Nat) (a b d e9 f : Int) (ha : -2147483648 ≤ a ∧ a ≤ 2147483647) (hb9 : -2147483648 ≤ b ∧ b ≤ 2147483647) (hd : -2147483648 ≤ d ∧ d ≤ 2147483647) (he : -2147483648 ≤ e9 ∧ e9 ≤ 2147483647) (hf : -2147483648 ≤ f ∧ f ≤ 2147483647) (hc7 : c0 ≤ 700) (h17 : u 17 = (c0 : Int)) (hm0 : w 133 = mdO G u) (h144 : w 144 = iA G 700 bt) : KM l G yX12_feed cX12_feed 8 (some (FieldType.int)) 0 0 0 [.ref (kad G 133), vI a, vI b, vI d, vI e9, vI f] w fl (kMut (vI (if 700 < (c0 : Int) + 20 then -1 else (c0 : Int) + 20)) fl (fun w1 => (700 < c0 + 20 ∧ w1 133 = mdO G (kup u 5 0) ∧ ∀ j, j ≠ 133 → w1 j = w j) ∨ (c0 + 20 ≤ 700 ∧ w1 133 = mdO G (kup (kup u 5 0) 17 ((c0 + 20 : Nat) : Int)) ∧ w1 144 = iA G 700 (bput5 bt c0 a b d e9 f) ∧ ∀ j, (j ≠ 133 ∧ j ≠ 144) → w1 j = w j))) := by
  refine KM_of2 hls (by decide +kernel) rfl (lv0 := [(0, .ref (kad G 133)), (1, vI a), (2, vI b), (3, vI d), (4, vI e9), (5, vI f)]) rfl (Nat.le_of_ble_eq_true rfl) (fun p e R s m args below meth c Q hC hr hQ => ?_)
  have hm : w 133 = mdO G (kup u 17 (c0 : Int)) := hm0.trans (mdO_17 h17)
  refine k_aload_n hC dX12_feed_0 rfl 0 rfl ?_
  refine k_iconst hC dX12_feed_1 ?_
  refine k_put hC fd_X12_74 (kl hN (by decide)) hm [.ref (kad G 134), .ref (kad G 135), .ref (kad G 136), .ref (kad G 137), vI (u 4), vI 0, vI (u 6), .ref (kad G 138), .ref (kad G 139), .ref (kad G 140), .ref (kad G 141), .ref (kad G 142), vL (u 12), vL (u 13), .ref (kad G 143), vI (u 15), .ref (kad G 144), vI (c0 : Int), vI (u 18), vI (u 19), vI (u 20), vI (u 21), vI (u 22), vI (u 23), vI (u 24), vI (u 25), .ref (kad G 145), .ref (kad G 146), .ref (kad G 147), vI (u 29)] rfl (Nat.le_of_ble_eq_true rfl) rfl rfl dX12_feed_2 (fun w1 hw1 hf1 => ?_)
  refine k_aload_n hC dX12_feed_5 rfl 0 rfl ?_
  refine k_get hC fd_X12_362 (kl hN (by decide)) hw1 rfl dX12_feed_6 ?_
  refine k_topv (vI (c0 : Int)) rfl ?_
  refine k_bipush hC dX12_feed_9 (by decide) ?_
  refine k_iadd hC dX12_feed_11 ?_
  refine k_sipush hC dX12_feed_12 (by decide) ?_
  refine k_icmp_le hC 20 dX12_feed_15 rfl (by omega) (by omega) (fun c_15 => ?_) (fun c_15 => ?_)
  · refine k_iconst hC dX12_feed_20 ?_
    refine k_istore hC [(6, vI 0), (0, .ref (kad G 133)), (1, vI a), (2, vI b), (3, vI d), (4, vI e9), (5, vI f)] dX12_feed_21 (by decide) rfl ?_
    refine k_iload hC dX12_feed_23 0 rfl ?_
    refine k_bipush hC dX12_feed_25 (by decide) ?_
    refine k_icmp_ge hC 120 dX12_feed_27 rfl (by omega) (by omega) (fun c_27 => absurd c_27 (by omega)) (fun c_27 => ?_)
    refine k_iload hC dX12_feed_30 0 rfl ?_
    refine k_iconst hC dX12_feed_32 ?_
    refine k_icmp_ge hC 40 dX12_feed_33 rfl (by omega) (by omega) (fun c_33 => absurd c_33 (by omega)) (fun c_33 => ?_)
    refine k_iload_n hC dX12_feed_36 rfl 2 rfl ?_
    refine k_goto hC 76 dX12_feed_37 rfl ?_
    refine k_istore hC [(7, vI a), (6, vI 0), (0, .ref (kad G 133)), (1, vI a), (2, vI b), (3, vI d), (4, vI e9), (5, vI f)] dX12_feed_76 (by decide) rfl ?_
    refine k_aload_n hC dX12_feed_78 rfl 2 rfl ?_
    refine k_get hC fd_X12_41 (kl hN (by decide)) hw1 rfl dX12_feed_79 ?_
    refine k_aload_n hC dX12_feed_82 rfl 2 rfl ?_
    refine k_get hC fd_X12_362 (kl hN (by decide)) hw1 rfl dX12_feed_83 ?_
    refine k_topv (vI (c0 : Int)) rfl ?_
    refine k_iload hC dX12_feed_86 0 rfl ?_
    refine k_bipush hC dX12_feed_88 (by decide) ?_
    refine k_bipush hC dX12_feed_90 (by decide) ?_
    refine k_iload hC dX12_feed_92 1 rfl ?_
    refine k_iconst hC dX12_feed_94 ?_
    refine k_irem hC dX12_feed_95 (by omega) (by omega) ?_
    refine k_topv (vI 0) (congrArg vI (by decide)) ?_
    refine k_imul hC dX12_feed_96 ?_
    refine k_topv (vI 0) (congrArg vI (by decide)) ?_
    refine k_isub hC dX12_feed_97 ?_
    refine k_topv (vI 24) (congrArg vI (by decide)) ?_
    refine k_ishr hC 24 dX12_feed_98 rfl (by decide) (by omega) ?_
    refine k_sipush hC dX12_feed_99 (by decide) ?_
    refine k_iand255 hC dX12_feed_102 ?_
    have h_2 : w1 144 = iA G 700 bt := (hf1 144 (by decide)).trans h144
    refine k_iast hC (kl hN (by decide)) h_2 (by omega) (by decide) dX12_feed_103 (fun w3 hw3 hf3 => ?_)
    refine k_aload_n hC dX12_feed_104 rfl 2 rfl ?_
    refine k_dup hC dX12_feed_105 rfl ?_
    have h_4 : w3 133 = .inr (12, [.ref (kad G 134), .ref (kad G 135), .ref (kad G 136), .ref (kad G 137), vI (u 4), vI 0, vI (u 6), .ref (kad G 138), .ref (kad G 139), .ref (kad G 140), .ref (kad G 141), .ref (kad G 142), vL (u 12), vL (u 13), .ref (kad G 143), vI (u 15), .ref (kad G 144), vI (c0 : Int), vI (u 18), vI (u 19), vI (u 20), vI (u 21), vI (u 22), vI (u 23), vI (u 24), vI (u 25), .ref (kad G 145), .ref (kad G 146), .ref (kad G 147), vI (u 29)]) := (hf3 133 (by decide)).trans hw1
    refine k_get hC fd_X12_362 (kl hN (by decide)) h_4 rfl dX12_feed_106 ?_
    refine k_topv (vI (c0 : Int)) rfl ?_
    refine k_iconst hC dX12_feed_109 ?_
    refine k_iadd hC dX12_feed_110 ?_
    refine k_topv (vI ((c0 + 1 : Nat) : Int)) (congrArg vI (by omega)) ?_
    refine k_put hC fd_X12_362 (kl hN (by decide)) h_4 [.ref (kad G 134), .ref (kad G 135), .ref (kad G 136), .ref (kad G 137), vI (u 4), vI 0, vI (u 6), .ref (kad G 138), .ref (kad G 139), .ref (kad G 140), .ref (kad G 141), .ref (kad G 142), vL (u 12), vL (u 13), .ref (kad G 143), vI (u 15), .ref (kad G 144), vI ((c0 + 1 : Nat) : Int), vI (u 18), vI (u 19), vI (u 20), vI (u 21), vI (u 22), vI (u 23), vI (u 24), vI (u 25), .ref (kad G 145), .ref (kad G 146), .ref (kad G 147), vI (u 29)] rfl (Nat.le_of_ble_eq_true rfl) rfl rfl dX12_feed_111 (fun w5 hw5 hf5 => ?_)
    refine k_iinc hC (y := 1) [(6, vI 1), (7, vI a), (0, .ref (kad G 133)), (1, vI a), (2, vI b), (3, vI d), (4, vI e9), (5, vI f)] (j := 1) dX12_feed_114 rfl (by decide) (by decide) rfl ?_
    refine k_goto hC 23 dX12_feed_117 rfl ?_
    refine k_iload hC dX12_feed_23 0 rfl ?_
    refine k_bipush hC dX12_feed_25 (by decide) ?_
    refine k_icmp_ge hC 120 dX12_feed_27 rfl (by omega) (by omega) (fun c_27 => absurd c_27 (by omega)) (fun c_27 => ?_)
    refine k_iload hC dX12_feed_30 0 rfl ?_
    refine k_iconst hC dX12_feed_32 ?_
    refine k_icmp_ge hC 40 dX12_feed_33 rfl (by omega) (by omega) (fun c_33 => absurd c_33 (by omega)) (fun c_33 => ?_)
    refine k_iload_n hC dX12_feed_36 rfl 3 rfl ?_
    refine k_goto hC 76 dX12_feed_37 rfl ?_
    refine k_istore hC [(7, vI a), (6, vI 1), (0, .ref (kad G 133)), (1, vI a), (2, vI b), (3, vI d), (4, vI e9), (5, vI f)] dX12_feed_76 (by decide) rfl ?_
    refine k_aload_n hC dX12_feed_78 rfl 2 rfl ?_
    refine k_get hC fd_X12_41 (kl hN (by decide)) hw5 rfl dX12_feed_79 ?_
    refine k_aload_n hC dX12_feed_82 rfl 2 rfl ?_
    refine k_get hC fd_X12_362 (kl hN (by decide)) hw5 rfl dX12_feed_83 ?_
    refine k_topv (vI ((c0 + 1 : Nat) : Int)) rfl ?_
    refine k_iload hC dX12_feed_86 0 rfl ?_
    refine k_bipush hC dX12_feed_88 (by decide) ?_
    refine k_bipush hC dX12_feed_90 (by decide) ?_
    refine k_iload hC dX12_feed_92 1 rfl ?_
    refine k_iconst hC dX12_feed_94 ?_
    refine k_irem hC dX12_feed_95 (by omega) (by omega) ?_
    refine k_topv (vI 1) (congrArg vI (by decide)) ?_
    refine k_imul hC dX12_feed_96 ?_
    refine k_topv (vI 8) (congrArg vI (by decide)) ?_
    refine k_isub hC dX12_feed_97 ?_
    refine k_topv (vI 16) (congrArg vI (by decide)) ?_
    refine k_ishr hC 16 dX12_feed_98 rfl (by decide) (by omega) ?_
    refine k_sipush hC dX12_feed_99 (by decide) ?_
    refine k_iand255 hC dX12_feed_102 ?_
    have h_6 : w5 144 = iA G 700 (kup bt ((c0 : Int)).toNat ((a / 2 ^ 24) % 256)) := (hf5 144 (by decide)).trans hw3
    refine k_iast hC (kl hN (by decide)) h_6 (by omega) (by decide) dX12_feed_103 (fun w7 hw7 hf7 => ?_)
    refine k_aload_n hC dX12_feed_104 rfl 2 rfl ?_
    refine k_dup hC dX12_feed_105 rfl ?_
    have h_8 : w7 133 = .inr (12, [.ref (kad G 134), .ref (kad G 135), .ref (kad G 136), .ref (kad G 137), vI (u 4), vI 0, vI (u 6), .ref (kad G 138), .ref (kad G 139), .ref (kad G 140), .ref (kad G 141), .ref (kad G 142), vL (u 12), vL (u 13), .ref (kad G 143), vI (u 15), .ref (kad G 144), vI ((c0 + 1 : Nat) : Int), vI (u 18), vI (u 19), vI (u 20), vI (u 21), vI (u 22), vI (u 23), vI (u 24), vI (u 25), .ref (kad G 145), .ref (kad G 146), .ref (kad G 147), vI (u 29)]) := (hf7 133 (by decide)).trans hw5
    refine k_get hC fd_X12_362 (kl hN (by decide)) h_8 rfl dX12_feed_106 ?_
    refine k_topv (vI ((c0 + 1 : Nat) : Int)) rfl ?_
    refine k_iconst hC dX12_feed_109 ?_
    refine k_iadd hC dX12_feed_110 ?_
    refine k_topv (vI ((c0 + 2 : Nat) : Int)) (congrArg vI (by omega)) ?_
    refine k_put hC fd_X12_362 (kl hN (by decide)) h_8 [.ref (kad G 134), .ref (kad G 135), .ref (kad G 136), .ref (kad G 137), vI (u 4), vI 0, vI (u 6), .ref (kad G 138), .ref (kad G 139), .ref (kad G 140), .ref (kad G 141), .ref (kad G 142), vL (u 12), vL (u 13), .ref (kad G 143), vI (u 15), .ref (kad G 144), vI ((c0 + 2 : Nat) : Int), vI (u 18), vI (u 19), vI (u 20), vI (u 21), vI (u 22), vI (u 23), vI (u 24), vI (u 25), .ref (kad G 145), .ref (kad G 146), .ref (kad G 147), vI (u 29)] rfl (Nat.le_of_ble_eq_true rfl) rfl rfl dX12_feed_111 (fun w9 hw9 hf9 => ?_)
    refine k_iinc hC (y := 2) [(6, vI 2), (7, vI a), (0, .ref (kad G 133)), (1, vI a), (2, vI b), (3, vI d), (4, vI e9), (5, vI f)] (j := 1) dX12_feed_114 rfl (by decide) (by decide) rfl ?_
    refine k_goto hC 23 dX12_feed_117 rfl ?_
    refine k_iload hC dX12_feed_23 0 rfl ?_
    refine k_bipush hC dX12_feed_25 (by decide) ?_
    refine k_icmp_ge hC 120 dX12_feed_27 rfl (by omega) (by omega) (fun c_27 => absurd c_27 (by omega)) (fun c_27 => ?_)
    refine k_iload hC dX12_feed_30 0 rfl ?_
    refine k_iconst hC dX12_feed_32 ?_
    refine k_icmp_ge hC 40 dX12_feed_33 rfl (by omega) (by omega) (fun c_33 => absurd c_33 (by omega)) (fun c_33 => ?_)
    refine k_iload_n hC dX12_feed_36 rfl 3 rfl ?_
    refine k_goto hC 76 dX12_feed_37 rfl ?_
    refine k_istore hC [(7, vI a), (6, vI 2), (0, .ref (kad G 133)), (1, vI a), (2, vI b), (3, vI d), (4, vI e9), (5, vI f)] dX12_feed_76 (by decide) rfl ?_
    refine k_aload_n hC dX12_feed_78 rfl 2 rfl ?_
    refine k_get hC fd_X12_41 (kl hN (by decide)) hw9 rfl dX12_feed_79 ?_
    refine k_aload_n hC dX12_feed_82 rfl 2 rfl ?_
    refine k_get hC fd_X12_362 (kl hN (by decide)) hw9 rfl dX12_feed_83 ?_
    refine k_topv (vI ((c0 + 2 : Nat) : Int)) rfl ?_
    refine k_iload hC dX12_feed_86 0 rfl ?_
    refine k_bipush hC dX12_feed_88 (by decide) ?_
    refine k_bipush hC dX12_feed_90 (by decide) ?_
    refine k_iload hC dX12_feed_92 1 rfl ?_
    refine k_iconst hC dX12_feed_94 ?_
    refine k_irem hC dX12_feed_95 (by omega) (by omega) ?_
    refine k_topv (vI 2) (congrArg vI (by decide)) ?_
    refine k_imul hC dX12_feed_96 ?_
    refine k_topv (vI 16) (congrArg vI (by decide)) ?_
    refine k_isub hC dX12_feed_97 ?_
    refine k_topv (vI 8) (congrArg vI (by decide)) ?_
    refine k_ishr hC 8 dX12_feed_98 rfl (by decide) (by omega) ?_
    refine k_sipush hC dX12_feed_99 (by decide) ?_
    refine k_iand255 hC dX12_feed_102 ?_
    have h_10 : w9 144 = iA G 700 (kup (kup bt ((c0 : Int)).toNat ((a / 2 ^ 24) % 256)) (((c0 + 1 : Nat) : Int)).toNat ((a / 2 ^ 16) % 256)) := (hf9 144 (by decide)).trans hw7
    refine k_iast hC (kl hN (by decide)) h_10 (by omega) (by decide) dX12_feed_103 (fun w11 hw11 hf11 => ?_)
    refine k_aload_n hC dX12_feed_104 rfl 2 rfl ?_
    refine k_dup hC dX12_feed_105 rfl ?_
    have h_12 : w11 133 = .inr (12, [.ref (kad G 134), .ref (kad G 135), .ref (kad G 136), .ref (kad G 137), vI (u 4), vI 0, vI (u 6), .ref (kad G 138), .ref (kad G 139), .ref (kad G 140), .ref (kad G 141), .ref (kad G 142), vL (u 12), vL (u 13), .ref (kad G 143), vI (u 15), .ref (kad G 144), vI ((c0 + 2 : Nat) : Int), vI (u 18), vI (u 19), vI (u 20), vI (u 21), vI (u 22), vI (u 23), vI (u 24), vI (u 25), .ref (kad G 145), .ref (kad G 146), .ref (kad G 147), vI (u 29)]) := (hf11 133 (by decide)).trans hw9
    refine k_get hC fd_X12_362 (kl hN (by decide)) h_12 rfl dX12_feed_106 ?_
    refine k_topv (vI ((c0 + 2 : Nat) : Int)) rfl ?_
    refine k_iconst hC dX12_feed_109 ?_
    refine k_iadd hC dX12_feed_110 ?_
    refine k_topv (vI ((c0 + 3 : Nat) : Int)) (congrArg vI (by omega)) ?_
    refine k_put hC fd_X12_362 (kl hN (by decide)) h_12 [.ref (kad G 134), .ref (kad G 135), .ref (kad G 136), .ref (kad G 137), vI (u 4), vI 0, vI (u 6), .ref (kad G 138), .ref (kad G 139), .ref (kad G 140), .ref (kad G 141), .ref (kad G 142), vL (u 12), vL (u 13), .ref (kad G 143), vI (u 15), .ref (kad G 144), vI ((c0 + 3 : Nat) : Int), vI (u 18), vI (u 19), vI (u 20), vI (u 21), vI (u 22), vI (u 23), vI (u 24), vI (u 25), .ref (kad G 145), .ref (kad G 146), .ref (kad G 147), vI (u 29)] rfl (Nat.le_of_ble_eq_true rfl) rfl rfl dX12_feed_111 (fun w13 hw13 hf13 => ?_)
    refine k_iinc hC (y := 3) [(6, vI 3), (7, vI a), (0, .ref (kad G 133)), (1, vI a), (2, vI b), (3, vI d), (4, vI e9), (5, vI f)] (j := 1) dX12_feed_114 rfl (by decide) (by decide) rfl ?_
    refine k_goto hC 23 dX12_feed_117 rfl ?_
    refine k_iload hC dX12_feed_23 0 rfl ?_
    refine k_bipush hC dX12_feed_25 (by decide) ?_
    refine k_icmp_ge hC 120 dX12_feed_27 rfl (by omega) (by omega) (fun c_27 => absurd c_27 (by omega)) (fun c_27 => ?_)
    refine k_iload hC dX12_feed_30 0 rfl ?_
    refine k_iconst hC dX12_feed_32 ?_
    refine k_icmp_ge hC 40 dX12_feed_33 rfl (by omega) (by omega) (fun c_33 => absurd c_33 (by omega)) (fun c_33 => ?_)
    refine k_iload_n hC dX12_feed_36 rfl 3 rfl ?_
    refine k_goto hC 76 dX12_feed_37 rfl ?_
    refine k_istore hC [(7, vI a), (6, vI 3), (0, .ref (kad G 133)), (1, vI a), (2, vI b), (3, vI d), (4, vI e9), (5, vI f)] dX12_feed_76 (by decide) rfl ?_
    refine k_aload_n hC dX12_feed_78 rfl 2 rfl ?_
    refine k_get hC fd_X12_41 (kl hN (by decide)) hw13 rfl dX12_feed_79 ?_
    refine k_aload_n hC dX12_feed_82 rfl 2 rfl ?_
    refine k_get hC fd_X12_362 (kl hN (by decide)) hw13 rfl dX12_feed_83 ?_
    refine k_topv (vI ((c0 + 3 : Nat) : Int)) rfl ?_
    refine k_iload hC dX12_feed_86 0 rfl ?_
    refine k_bipush hC dX12_feed_88 (by decide) ?_
    refine k_bipush hC dX12_feed_90 (by decide) ?_
    refine k_iload hC dX12_feed_92 1 rfl ?_
    refine k_iconst hC dX12_feed_94 ?_
    refine k_irem hC dX12_feed_95 (by omega) (by omega) ?_
    refine k_topv (vI 3) (congrArg vI (by decide)) ?_
    refine k_imul hC dX12_feed_96 ?_
    refine k_topv (vI 24) (congrArg vI (by decide)) ?_
    refine k_isub hC dX12_feed_97 ?_
    refine k_topv (vI 0) (congrArg vI (by decide)) ?_
    refine k_ishr hC 0 dX12_feed_98 rfl (Or.inl rfl) (by omega) ?_
    refine k_topv (vI (a)) (congrArg vI (by omega)) ?_
    refine k_sipush hC dX12_feed_99 (by decide) ?_
    refine k_iand255 hC dX12_feed_102 ?_
    have h_14 : w13 144 = iA G 700 (kup (kup (kup bt ((c0 : Int)).toNat ((a / 2 ^ 24) % 256)) (((c0 + 1 : Nat) : Int)).toNat ((a / 2 ^ 16) % 256)) (((c0 + 2 : Nat) : Int)).toNat ((a / 2 ^ 8) % 256)) := (hf13 144 (by decide)).trans hw11
    refine k_iast hC (kl hN (by decide)) h_14 (by omega) (by decide) dX12_feed_103 (fun w15 hw15 hf15 => ?_)
    have hbp_16 : w15 144 = iA G 700 (bput bt c0 a) := hw15.trans ((iA_congr (fun j hj => by simp only [Int.toNat_natCast])).trans bputR_e)
    refine k_aload_n hC dX12_feed_104 rfl 2 rfl ?_
    refine k_dup hC dX12_feed_105 rfl ?_
    have h_17 : w15 133 = .inr (12, [.ref (kad G 134), .ref (kad G 135), .ref (kad G 136), .ref (kad G 137), vI (u 4), vI 0, vI (u 6), .ref (kad G 138), .ref (kad G 139), .ref (kad G 140), .ref (kad G 141), .ref (kad G 142), vL (u 12), vL (u 13), .ref (kad G 143), vI (u 15), .ref (kad G 144), vI ((c0 + 3 : Nat) : Int), vI (u 18), vI (u 19), vI (u 20), vI (u 21), vI (u 22), vI (u 23), vI (u 24), vI (u 25), .ref (kad G 145), .ref (kad G 146), .ref (kad G 147), vI (u 29)]) := (hf15 133 (by decide)).trans hw13
    refine k_get hC fd_X12_362 (kl hN (by decide)) h_17 rfl dX12_feed_106 ?_
    refine k_topv (vI ((c0 + 3 : Nat) : Int)) rfl ?_
    refine k_iconst hC dX12_feed_109 ?_
    refine k_iadd hC dX12_feed_110 ?_
    refine k_topv (vI ((c0 + 4 : Nat) : Int)) (congrArg vI (by omega)) ?_
    refine k_put hC fd_X12_362 (kl hN (by decide)) h_17 [.ref (kad G 134), .ref (kad G 135), .ref (kad G 136), .ref (kad G 137), vI (u 4), vI 0, vI (u 6), .ref (kad G 138), .ref (kad G 139), .ref (kad G 140), .ref (kad G 141), .ref (kad G 142), vL (u 12), vL (u 13), .ref (kad G 143), vI (u 15), .ref (kad G 144), vI ((c0 + 4 : Nat) : Int), vI (u 18), vI (u 19), vI (u 20), vI (u 21), vI (u 22), vI (u 23), vI (u 24), vI (u 25), .ref (kad G 145), .ref (kad G 146), .ref (kad G 147), vI (u 29)] rfl (Nat.le_of_ble_eq_true rfl) rfl rfl dX12_feed_111 (fun w18 hw18 hf18 => ?_)
    refine k_iinc hC (y := 4) [(6, vI 4), (7, vI a), (0, .ref (kad G 133)), (1, vI a), (2, vI b), (3, vI d), (4, vI e9), (5, vI f)] (j := 1) dX12_feed_114 rfl (by decide) (by decide) rfl ?_
    refine k_goto hC 23 dX12_feed_117 rfl ?_
    refine k_iload hC dX12_feed_23 0 rfl ?_
    refine k_bipush hC dX12_feed_25 (by decide) ?_
    refine k_icmp_ge hC 120 dX12_feed_27 rfl (by omega) (by omega) (fun c_27 => absurd c_27 (by omega)) (fun c_27 => ?_)
    refine k_iload hC dX12_feed_30 0 rfl ?_
    refine k_iconst hC dX12_feed_32 ?_
    refine k_icmp_ge hC 40 dX12_feed_33 rfl (by omega) (by omega) (fun c_33 => ?_) (fun c_33 => absurd c_33 (by omega))
    refine k_iload hC dX12_feed_40 0 rfl ?_
    refine k_bipush hC dX12_feed_42 (by decide) ?_
    refine k_icmp_ge hC 51 dX12_feed_44 rfl (by omega) (by omega) (fun c_44 => absurd c_44 (by omega)) (fun c_44 => ?_)
    refine k_iload_n hC dX12_feed_47 rfl 4 rfl ?_
    refine k_goto hC 76 dX12_feed_48 rfl ?_
    refine k_istore hC [(7, vI b), (6, vI 4), (0, .ref (kad G 133)), (1, vI a), (2, vI b), (3, vI d), (4, vI e9), (5, vI f)] dX12_feed_76 (by decide) rfl ?_
    refine k_aload_n hC dX12_feed_78 rfl 2 rfl ?_
    refine k_get hC fd_X12_41 (kl hN (by decide)) hw18 rfl dX12_feed_79 ?_
    refine k_aload_n hC dX12_feed_82 rfl 2 rfl ?_
    refine k_get hC fd_X12_362 (kl hN (by decide)) hw18 rfl dX12_feed_83 ?_
    refine k_topv (vI ((c0 + 4 : Nat) : Int)) rfl ?_
    refine k_iload hC dX12_feed_86 0 rfl ?_
    refine k_bipush hC dX12_feed_88 (by decide) ?_
    refine k_bipush hC dX12_feed_90 (by decide) ?_
    refine k_iload hC dX12_feed_92 1 rfl ?_
    refine k_iconst hC dX12_feed_94 ?_
    refine k_irem hC dX12_feed_95 (by omega) (by omega) ?_
    refine k_topv (vI 0) (congrArg vI (by decide)) ?_
    refine k_imul hC dX12_feed_96 ?_
    refine k_topv (vI 0) (congrArg vI (by decide)) ?_
    refine k_isub hC dX12_feed_97 ?_
    refine k_topv (vI 24) (congrArg vI (by decide)) ?_
    refine k_ishr hC 24 dX12_feed_98 rfl (by decide) (by omega) ?_
    refine k_sipush hC dX12_feed_99 (by decide) ?_
    refine k_iand255 hC dX12_feed_102 ?_
    have h_19 : w18 144 = iA G 700 (bput bt c0 a) := (hf18 144 (by decide)).trans hbp_16
    refine k_iast hC (kl hN (by decide)) h_19 (by omega) (by decide) dX12_feed_103 (fun w20 hw20 hf20 => ?_)
    refine k_aload_n hC dX12_feed_104 rfl 2 rfl ?_
    refine k_dup hC dX12_feed_105 rfl ?_
    have h_21 : w20 133 = .inr (12, [.ref (kad G 134), .ref (kad G 135), .ref (kad G 136), .ref (kad G 137), vI (u 4), vI 0, vI (u 6), .ref (kad G 138), .ref (kad G 139), .ref (kad G 140), .ref (kad G 141), .ref (kad G 142), vL (u 12), vL (u 13), .ref (kad G 143), vI (u 15), .ref (kad G 144), vI ((c0 + 4 : Nat) : Int), vI (u 18), vI (u 19), vI (u 20), vI (u 21), vI (u 22), vI (u 23), vI (u 24), vI (u 25), .ref (kad G 145), .ref (kad G 146), .ref (kad G 147), vI (u 29)]) := (hf20 133 (by decide)).trans hw18
    refine k_get hC fd_X12_362 (kl hN (by decide)) h_21 rfl dX12_feed_106 ?_
    refine k_topv (vI ((c0 + 4 : Nat) : Int)) rfl ?_
    refine k_iconst hC dX12_feed_109 ?_
    refine k_iadd hC dX12_feed_110 ?_
    refine k_topv (vI ((c0 + 5 : Nat) : Int)) (congrArg vI (by omega)) ?_
    refine k_put hC fd_X12_362 (kl hN (by decide)) h_21 [.ref (kad G 134), .ref (kad G 135), .ref (kad G 136), .ref (kad G 137), vI (u 4), vI 0, vI (u 6), .ref (kad G 138), .ref (kad G 139), .ref (kad G 140), .ref (kad G 141), .ref (kad G 142), vL (u 12), vL (u 13), .ref (kad G 143), vI (u 15), .ref (kad G 144), vI ((c0 + 5 : Nat) : Int), vI (u 18), vI (u 19), vI (u 20), vI (u 21), vI (u 22), vI (u 23), vI (u 24), vI (u 25), .ref (kad G 145), .ref (kad G 146), .ref (kad G 147), vI (u 29)] rfl (Nat.le_of_ble_eq_true rfl) rfl rfl dX12_feed_111 (fun w22 hw22 hf22 => ?_)
    refine k_iinc hC (y := 5) [(6, vI 5), (7, vI b), (0, .ref (kad G 133)), (1, vI a), (2, vI b), (3, vI d), (4, vI e9), (5, vI f)] (j := 1) dX12_feed_114 rfl (by decide) (by decide) rfl ?_
    refine k_goto hC 23 dX12_feed_117 rfl ?_
    refine k_iload hC dX12_feed_23 0 rfl ?_
    refine k_bipush hC dX12_feed_25 (by decide) ?_
    refine k_icmp_ge hC 120 dX12_feed_27 rfl (by omega) (by omega) (fun c_27 => absurd c_27 (by omega)) (fun c_27 => ?_)
    refine k_iload hC dX12_feed_30 0 rfl ?_
    refine k_iconst hC dX12_feed_32 ?_
    refine k_icmp_ge hC 40 dX12_feed_33 rfl (by omega) (by omega) (fun c_33 => ?_) (fun c_33 => absurd c_33 (by omega))
    refine k_iload hC dX12_feed_40 0 rfl ?_
    refine k_bipush hC dX12_feed_42 (by decide) ?_
    refine k_icmp_ge hC 51 dX12_feed_44 rfl (by omega) (by omega) (fun c_44 => absurd c_44 (by omega)) (fun c_44 => ?_)
    refine k_iload_n hC dX12_feed_47 rfl 4 rfl ?_
    refine k_goto hC 76 dX12_feed_48 rfl ?_
    refine k_istore hC [(7, vI b), (6, vI 5), (0, .ref (kad G 133)), (1, vI a), (2, vI b), (3, vI d), (4, vI e9), (5, vI f)] dX12_feed_76 (by decide) rfl ?_
    refine k_aload_n hC dX12_feed_78 rfl 2 rfl ?_
    refine k_get hC fd_X12_41 (kl hN (by decide)) hw22 rfl dX12_feed_79 ?_
    refine k_aload_n hC dX12_feed_82 rfl 2 rfl ?_
    refine k_get hC fd_X12_362 (kl hN (by decide)) hw22 rfl dX12_feed_83 ?_
    refine k_topv (vI ((c0 + 5 : Nat) : Int)) rfl ?_
    refine k_iload hC dX12_feed_86 0 rfl ?_
    refine k_bipush hC dX12_feed_88 (by decide) ?_
    refine k_bipush hC dX12_feed_90 (by decide) ?_
    refine k_iload hC dX12_feed_92 1 rfl ?_
    refine k_iconst hC dX12_feed_94 ?_
    refine k_irem hC dX12_feed_95 (by omega) (by omega) ?_
    refine k_topv (vI 1) (congrArg vI (by decide)) ?_
    refine k_imul hC dX12_feed_96 ?_
    refine k_topv (vI 8) (congrArg vI (by decide)) ?_
    refine k_isub hC dX12_feed_97 ?_
    refine k_topv (vI 16) (congrArg vI (by decide)) ?_
    refine k_ishr hC 16 dX12_feed_98 rfl (by decide) (by omega) ?_
    refine k_sipush hC dX12_feed_99 (by decide) ?_
    refine k_iand255 hC dX12_feed_102 ?_
    have h_23 : w22 144 = iA G 700 (kup (bput bt c0 a) (((c0 + 4 : Nat) : Int)).toNat ((b / 2 ^ 24) % 256)) := (hf22 144 (by decide)).trans hw20
    refine k_iast hC (kl hN (by decide)) h_23 (by omega) (by decide) dX12_feed_103 (fun w24 hw24 hf24 => ?_)
    refine k_aload_n hC dX12_feed_104 rfl 2 rfl ?_
    refine k_dup hC dX12_feed_105 rfl ?_
    have h_25 : w24 133 = .inr (12, [.ref (kad G 134), .ref (kad G 135), .ref (kad G 136), .ref (kad G 137), vI (u 4), vI 0, vI (u 6), .ref (kad G 138), .ref (kad G 139), .ref (kad G 140), .ref (kad G 141), .ref (kad G 142), vL (u 12), vL (u 13), .ref (kad G 143), vI (u 15), .ref (kad G 144), vI ((c0 + 5 : Nat) : Int), vI (u 18), vI (u 19), vI (u 20), vI (u 21), vI (u 22), vI (u 23), vI (u 24), vI (u 25), .ref (kad G 145), .ref (kad G 146), .ref (kad G 147), vI (u 29)]) := (hf24 133 (by decide)).trans hw22
    refine k_get hC fd_X12_362 (kl hN (by decide)) h_25 rfl dX12_feed_106 ?_
    refine k_topv (vI ((c0 + 5 : Nat) : Int)) rfl ?_
    refine k_iconst hC dX12_feed_109 ?_
    refine k_iadd hC dX12_feed_110 ?_
    refine k_topv (vI ((c0 + 6 : Nat) : Int)) (congrArg vI (by omega)) ?_
    refine k_put hC fd_X12_362 (kl hN (by decide)) h_25 [.ref (kad G 134), .ref (kad G 135), .ref (kad G 136), .ref (kad G 137), vI (u 4), vI 0, vI (u 6), .ref (kad G 138), .ref (kad G 139), .ref (kad G 140), .ref (kad G 141), .ref (kad G 142), vL (u 12), vL (u 13), .ref (kad G 143), vI (u 15), .ref (kad G 144), vI ((c0 + 6 : Nat) : Int), vI (u 18), vI (u 19), vI (u 20), vI (u 21), vI (u 22), vI (u 23), vI (u 24), vI (u 25), .ref (kad G 145), .ref (kad G 146), .ref (kad G 147), vI (u 29)] rfl (Nat.le_of_ble_eq_true rfl) rfl rfl dX12_feed_111 (fun w26 hw26 hf26 => ?_)
    refine k_iinc hC (y := 6) [(6, vI 6), (7, vI b), (0, .ref (kad G 133)), (1, vI a), (2, vI b), (3, vI d), (4, vI e9), (5, vI f)] (j := 1) dX12_feed_114 rfl (by decide) (by decide) rfl ?_
    refine k_goto hC 23 dX12_feed_117 rfl ?_
    refine k_iload hC dX12_feed_23 0 rfl ?_
    refine k_bipush hC dX12_feed_25 (by decide) ?_
    refine k_icmp_ge hC 120 dX12_feed_27 rfl (by omega) (by omega) (fun c_27 => absurd c_27 (by omega)) (fun c_27 => ?_)
    refine k_iload hC dX12_feed_30 0 rfl ?_
    refine k_iconst hC dX12_feed_32 ?_
    refine k_icmp_ge hC 40 dX12_feed_33 rfl (by omega) (by omega) (fun c_33 => ?_) (fun c_33 => absurd c_33 (by omega))
    refine k_iload hC dX12_feed_40 0 rfl ?_
    refine k_bipush hC dX12_feed_42 (by decide) ?_
    refine k_icmp_ge hC 51 dX12_feed_44 rfl (by omega) (by omega) (fun c_44 => absurd c_44 (by omega)) (fun c_44 => ?_)
    refine k_iload_n hC dX12_feed_47 rfl 4 rfl ?_
    refine k_goto hC 76 dX12_feed_48 rfl ?_
    refine k_istore hC [(7, vI b), (6, vI 6), (0, .ref (kad G 133)), (1, vI a), (2, vI b), (3, vI d), (4, vI e9), (5, vI f)] dX12_feed_76 (by decide) rfl ?_
    refine k_aload_n hC dX12_feed_78 rfl 2 rfl ?_
    refine k_get hC fd_X12_41 (kl hN (by decide)) hw26 rfl dX12_feed_79 ?_
    refine k_aload_n hC dX12_feed_82 rfl 2 rfl ?_
    refine k_get hC fd_X12_362 (kl hN (by decide)) hw26 rfl dX12_feed_83 ?_
    refine k_topv (vI ((c0 + 6 : Nat) : Int)) rfl ?_
    refine k_iload hC dX12_feed_86 0 rfl ?_
    refine k_bipush hC dX12_feed_88 (by decide) ?_
    refine k_bipush hC dX12_feed_90 (by decide) ?_
    refine k_iload hC dX12_feed_92 1 rfl ?_
    refine k_iconst hC dX12_feed_94 ?_
    refine k_irem hC dX12_feed_95 (by omega) (by omega) ?_
    refine k_topv (vI 2) (congrArg vI (by decide)) ?_
    refine k_imul hC dX12_feed_96 ?_
    refine k_topv (vI 16) (congrArg vI (by decide)) ?_
    refine k_isub hC dX12_feed_97 ?_
    refine k_topv (vI 8) (congrArg vI (by decide)) ?_
    refine k_ishr hC 8 dX12_feed_98 rfl (by decide) (by omega) ?_
    refine k_sipush hC dX12_feed_99 (by decide) ?_
    refine k_iand255 hC dX12_feed_102 ?_
    have h_27 : w26 144 = iA G 700 (kup (kup (bput bt c0 a) (((c0 + 4 : Nat) : Int)).toNat ((b / 2 ^ 24) % 256)) (((c0 + 5 : Nat) : Int)).toNat ((b / 2 ^ 16) % 256)) := (hf26 144 (by decide)).trans hw24
    refine k_iast hC (kl hN (by decide)) h_27 (by omega) (by decide) dX12_feed_103 (fun w28 hw28 hf28 => ?_)
    refine k_aload_n hC dX12_feed_104 rfl 2 rfl ?_
    refine k_dup hC dX12_feed_105 rfl ?_
    have h_29 : w28 133 = .inr (12, [.ref (kad G 134), .ref (kad G 135), .ref (kad G 136), .ref (kad G 137), vI (u 4), vI 0, vI (u 6), .ref (kad G 138), .ref (kad G 139), .ref (kad G 140), .ref (kad G 141), .ref (kad G 142), vL (u 12), vL (u 13), .ref (kad G 143), vI (u 15), .ref (kad G 144), vI ((c0 + 6 : Nat) : Int), vI (u 18), vI (u 19), vI (u 20), vI (u 21), vI (u 22), vI (u 23), vI (u 24), vI (u 25), .ref (kad G 145), .ref (kad G 146), .ref (kad G 147), vI (u 29)]) := (hf28 133 (by decide)).trans hw26
    refine k_get hC fd_X12_362 (kl hN (by decide)) h_29 rfl dX12_feed_106 ?_
    refine k_topv (vI ((c0 + 6 : Nat) : Int)) rfl ?_
    refine k_iconst hC dX12_feed_109 ?_
    refine k_iadd hC dX12_feed_110 ?_
    refine k_topv (vI ((c0 + 7 : Nat) : Int)) (congrArg vI (by omega)) ?_
    refine k_put hC fd_X12_362 (kl hN (by decide)) h_29 [.ref (kad G 134), .ref (kad G 135), .ref (kad G 136), .ref (kad G 137), vI (u 4), vI 0, vI (u 6), .ref (kad G 138), .ref (kad G 139), .ref (kad G 140), .ref (kad G 141), .ref (kad G 142), vL (u 12), vL (u 13), .ref (kad G 143), vI (u 15), .ref (kad G 144), vI ((c0 + 7 : Nat) : Int), vI (u 18), vI (u 19), vI (u 20), vI (u 21), vI (u 22), vI (u 23), vI (u 24), vI (u 25), .ref (kad G 145), .ref (kad G 146), .ref (kad G 147), vI (u 29)] rfl (Nat.le_of_ble_eq_true rfl) rfl rfl dX12_feed_111 (fun w30 hw30 hf30 => ?_)
    refine k_iinc hC (y := 7) [(6, vI 7), (7, vI b), (0, .ref (kad G 133)), (1, vI a), (2, vI b), (3, vI d), (4, vI e9), (5, vI f)] (j := 1) dX12_feed_114 rfl (by decide) (by decide) rfl ?_
    refine k_goto hC 23 dX12_feed_117 rfl ?_
    refine k_iload hC dX12_feed_23 0 rfl ?_
    refine k_bipush hC dX12_feed_25 (by decide) ?_
    refine k_icmp_ge hC 120 dX12_feed_27 rfl (by omega) (by omega) (fun c_27 => absurd c_27 (by omega)) (fun c_27 => ?_)
    refine k_iload hC dX12_feed_30 0 rfl ?_
    refine k_iconst hC dX12_feed_32 ?_
    refine k_icmp_ge hC 40 dX12_feed_33 rfl (by omega) (by omega) (fun c_33 => ?_) (fun c_33 => absurd c_33 (by omega))
    refine k_iload hC dX12_feed_40 0 rfl ?_
    refine k_bipush hC dX12_feed_42 (by decide) ?_
    refine k_icmp_ge hC 51 dX12_feed_44 rfl (by omega) (by omega) (fun c_44 => absurd c_44 (by omega)) (fun c_44 => ?_)
    refine k_iload_n hC dX12_feed_47 rfl 4 rfl ?_
    refine k_goto hC 76 dX12_feed_48 rfl ?_
    refine k_istore hC [(7, vI b), (6, vI 7), (0, .ref (kad G 133)), (1, vI a), (2, vI b), (3, vI d), (4, vI e9), (5, vI f)] dX12_feed_76 (by decide) rfl ?_
    refine k_aload_n hC dX12_feed_78 rfl 2 rfl ?_
    refine k_get hC fd_X12_41 (kl hN (by decide)) hw30 rfl dX12_feed_79 ?_
    refine k_aload_n hC dX12_feed_82 rfl 2 rfl ?_
    refine k_get hC fd_X12_362 (kl hN (by decide)) hw30 rfl dX12_feed_83 ?_
    refine k_topv (vI ((c0 + 7 : Nat) : Int)) rfl ?_
    refine k_iload hC dX12_feed_86 0 rfl ?_
    refine k_bipush hC dX12_feed_88 (by decide) ?_
    refine k_bipush hC dX12_feed_90 (by decide) ?_
    refine k_iload hC dX12_feed_92 1 rfl ?_
    refine k_iconst hC dX12_feed_94 ?_
    refine k_irem hC dX12_feed_95 (by omega) (by omega) ?_
    refine k_topv (vI 3) (congrArg vI (by decide)) ?_
    refine k_imul hC dX12_feed_96 ?_
    refine k_topv (vI 24) (congrArg vI (by decide)) ?_
    refine k_isub hC dX12_feed_97 ?_
    refine k_topv (vI 0) (congrArg vI (by decide)) ?_
    refine k_ishr hC 0 dX12_feed_98 rfl (Or.inl rfl) (by omega) ?_
    refine k_topv (vI (b)) (congrArg vI (by omega)) ?_
    refine k_sipush hC dX12_feed_99 (by decide) ?_
    refine k_iand255 hC dX12_feed_102 ?_
    have h_31 : w30 144 = iA G 700 (kup (kup (kup (bput bt c0 a) (((c0 + 4 : Nat) : Int)).toNat ((b / 2 ^ 24) % 256)) (((c0 + 5 : Nat) : Int)).toNat ((b / 2 ^ 16) % 256)) (((c0 + 6 : Nat) : Int)).toNat ((b / 2 ^ 8) % 256)) := (hf30 144 (by decide)).trans hw28
    refine k_iast hC (kl hN (by decide)) h_31 (by omega) (by decide) dX12_feed_103 (fun w32 hw32 hf32 => ?_)
    have hbp_33 : w32 144 = iA G 700 (bput (bput bt c0 a) (c0 + 4) b) := hw32.trans ((iA_congr (fun j hj => by simp only [Int.toNat_natCast])).trans bputR_e)
    refine k_aload_n hC dX12_feed_104 rfl 2 rfl ?_
    refine k_dup hC dX12_feed_105 rfl ?_
    have h_34 : w32 133 = .inr (12, [.ref (kad G 134), .ref (kad G 135), .ref (kad G 136), .ref (kad G 137), vI (u 4), vI 0, vI (u 6), .ref (kad G 138), .ref (kad G 139), .ref (kad G 140), .ref (kad G 141), .ref (kad G 142), vL (u 12), vL (u 13), .ref (kad G 143), vI (u 15), .ref (kad G 144), vI ((c0 + 7 : Nat) : Int), vI (u 18), vI (u 19), vI (u 20), vI (u 21), vI (u 22), vI (u 23), vI (u 24), vI (u 25), .ref (kad G 145), .ref (kad G 146), .ref (kad G 147), vI (u 29)]) := (hf32 133 (by decide)).trans hw30
    refine k_get hC fd_X12_362 (kl hN (by decide)) h_34 rfl dX12_feed_106 ?_
    refine k_topv (vI ((c0 + 7 : Nat) : Int)) rfl ?_
    refine k_iconst hC dX12_feed_109 ?_
    refine k_iadd hC dX12_feed_110 ?_
    refine k_topv (vI ((c0 + 8 : Nat) : Int)) (congrArg vI (by omega)) ?_
    refine k_put hC fd_X12_362 (kl hN (by decide)) h_34 [.ref (kad G 134), .ref (kad G 135), .ref (kad G 136), .ref (kad G 137), vI (u 4), vI 0, vI (u 6), .ref (kad G 138), .ref (kad G 139), .ref (kad G 140), .ref (kad G 141), .ref (kad G 142), vL (u 12), vL (u 13), .ref (kad G 143), vI (u 15), .ref (kad G 144), vI ((c0 + 8 : Nat) : Int), vI (u 18), vI (u 19), vI (u 20), vI (u 21), vI (u 22), vI (u 23), vI (u 24), vI (u 25), .ref (kad G 145), .ref (kad G 146), .ref (kad G 147), vI (u 29)] rfl (Nat.le_of_ble_eq_true rfl) rfl rfl dX12_feed_111 (fun w35 hw35 hf35 => ?_)
    refine k_iinc hC (y := 8) [(6, vI 8), (7, vI b), (0, .ref (kad G 133)), (1, vI a), (2, vI b), (3, vI d), (4, vI e9), (5, vI f)] (j := 1) dX12_feed_114 rfl (by decide) (by decide) rfl ?_
    refine k_goto hC 23 dX12_feed_117 rfl ?_
    refine k_iload hC dX12_feed_23 0 rfl ?_
    refine k_bipush hC dX12_feed_25 (by decide) ?_
    refine k_icmp_ge hC 120 dX12_feed_27 rfl (by omega) (by omega) (fun c_27 => absurd c_27 (by omega)) (fun c_27 => ?_)
    refine k_iload hC dX12_feed_30 0 rfl ?_
    refine k_iconst hC dX12_feed_32 ?_
    refine k_icmp_ge hC 40 dX12_feed_33 rfl (by omega) (by omega) (fun c_33 => ?_) (fun c_33 => absurd c_33 (by omega))
    refine k_iload hC dX12_feed_40 0 rfl ?_
    refine k_bipush hC dX12_feed_42 (by decide) ?_
    refine k_icmp_ge hC 51 dX12_feed_44 rfl (by omega) (by omega) (fun c_44 => ?_) (fun c_44 => absurd c_44 (by omega))
    refine k_iload hC dX12_feed_51 0 rfl ?_
    refine k_bipush hC dX12_feed_53 (by decide) ?_
    refine k_icmp_ge hC 62 dX12_feed_55 rfl (by omega) (by omega) (fun c_55 => absurd c_55 (by omega)) (fun c_55 => ?_)
    refine k_iload_n hC dX12_feed_58 rfl 5 rfl ?_
    refine k_goto hC 76 dX12_feed_59 rfl ?_
    refine k_istore hC [(7, vI d), (6, vI 8), (0, .ref (kad G 133)), (1, vI a), (2, vI b), (3, vI d), (4, vI e9), (5, vI f)] dX12_feed_76 (by decide) rfl ?_
    refine k_aload_n hC dX12_feed_78 rfl 2 rfl ?_
    refine k_get hC fd_X12_41 (kl hN (by decide)) hw35 rfl dX12_feed_79 ?_
    refine k_aload_n hC dX12_feed_82 rfl 2 rfl ?_
    refine k_get hC fd_X12_362 (kl hN (by decide)) hw35 rfl dX12_feed_83 ?_
    refine k_topv (vI ((c0 + 8 : Nat) : Int)) rfl ?_
    refine k_iload hC dX12_feed_86 0 rfl ?_
    refine k_bipush hC dX12_feed_88 (by decide) ?_
    refine k_bipush hC dX12_feed_90 (by decide) ?_
    refine k_iload hC dX12_feed_92 1 rfl ?_
    refine k_iconst hC dX12_feed_94 ?_
    refine k_irem hC dX12_feed_95 (by omega) (by omega) ?_
    refine k_topv (vI 0) (congrArg vI (by decide)) ?_
    refine k_imul hC dX12_feed_96 ?_
    refine k_topv (vI 0) (congrArg vI (by decide)) ?_
    refine k_isub hC dX12_feed_97 ?_
    refine k_topv (vI 24) (congrArg vI (by decide)) ?_
    refine k_ishr hC 24 dX12_feed_98 rfl (by decide) (by omega) ?_
    refine k_sipush hC dX12_feed_99 (by decide) ?_
    refine k_iand255 hC dX12_feed_102 ?_
    have h_36 : w35 144 = iA G 700 (bput (bput bt c0 a) (c0 + 4) b) := (hf35 144 (by decide)).trans hbp_33
    refine k_iast hC (kl hN (by decide)) h_36 (by omega) (by decide) dX12_feed_103 (fun w37 hw37 hf37 => ?_)
    refine k_aload_n hC dX12_feed_104 rfl 2 rfl ?_
    refine k_dup hC dX12_feed_105 rfl ?_
    have h_38 : w37 133 = .inr (12, [.ref (kad G 134), .ref (kad G 135), .ref (kad G 136), .ref (kad G 137), vI (u 4), vI 0, vI (u 6), .ref (kad G 138), .ref (kad G 139), .ref (kad G 140), .ref (kad G 141), .ref (kad G 142), vL (u 12), vL (u 13), .ref (kad G 143), vI (u 15), .ref (kad G 144), vI ((c0 + 8 : Nat) : Int), vI (u 18), vI (u 19), vI (u 20), vI (u 21), vI (u 22), vI (u 23), vI (u 24), vI (u 25), .ref (kad G 145), .ref (kad G 146), .ref (kad G 147), vI (u 29)]) := (hf37 133 (by decide)).trans hw35
    refine k_get hC fd_X12_362 (kl hN (by decide)) h_38 rfl dX12_feed_106 ?_
    refine k_topv (vI ((c0 + 8 : Nat) : Int)) rfl ?_
    refine k_iconst hC dX12_feed_109 ?_
    refine k_iadd hC dX12_feed_110 ?_
    refine k_topv (vI ((c0 + 9 : Nat) : Int)) (congrArg vI (by omega)) ?_
    refine k_put hC fd_X12_362 (kl hN (by decide)) h_38 [.ref (kad G 134), .ref (kad G 135), .ref (kad G 136), .ref (kad G 137), vI (u 4), vI 0, vI (u 6), .ref (kad G 138), .ref (kad G 139), .ref (kad G 140), .ref (kad G 141), .ref (kad G 142), vL (u 12), vL (u 13), .ref (kad G 143), vI (u 15), .ref (kad G 144), vI ((c0 + 9 : Nat) : Int), vI (u 18), vI (u 19), vI (u 20), vI (u 21), vI (u 22), vI (u 23), vI (u 24), vI (u 25), .ref (kad G 145), .ref (kad G 146), .ref (kad G 147), vI (u 29)] rfl (Nat.le_of_ble_eq_true rfl) rfl rfl dX12_feed_111 (fun w39 hw39 hf39 => ?_)
    refine k_iinc hC (y := 9) [(6, vI 9), (7, vI d), (0, .ref (kad G 133)), (1, vI a), (2, vI b), (3, vI d), (4, vI e9), (5, vI f)] (j := 1) dX12_feed_114 rfl (by decide) (by decide) rfl ?_
    refine k_goto hC 23 dX12_feed_117 rfl ?_
    refine k_iload hC dX12_feed_23 0 rfl ?_
    refine k_bipush hC dX12_feed_25 (by decide) ?_
    refine k_icmp_ge hC 120 dX12_feed_27 rfl (by omega) (by omega) (fun c_27 => absurd c_27 (by omega)) (fun c_27 => ?_)
    refine k_iload hC dX12_feed_30 0 rfl ?_
    refine k_iconst hC dX12_feed_32 ?_
    refine k_icmp_ge hC 40 dX12_feed_33 rfl (by omega) (by omega) (fun c_33 => ?_) (fun c_33 => absurd c_33 (by omega))
    refine k_iload hC dX12_feed_40 0 rfl ?_
    refine k_bipush hC dX12_feed_42 (by decide) ?_
    refine k_icmp_ge hC 51 dX12_feed_44 rfl (by omega) (by omega) (fun c_44 => ?_) (fun c_44 => absurd c_44 (by omega))
    refine k_iload hC dX12_feed_51 0 rfl ?_
    refine k_bipush hC dX12_feed_53 (by decide) ?_
    refine k_icmp_ge hC 62 dX12_feed_55 rfl (by omega) (by omega) (fun c_55 => absurd c_55 (by omega)) (fun c_55 => ?_)
    refine k_iload_n hC dX12_feed_58 rfl 5 rfl ?_
    refine k_goto hC 76 dX12_feed_59 rfl ?_
    refine k_istore hC [(7, vI d), (6, vI 9), (0, .ref (kad G 133)), (1, vI a), (2, vI b), (3, vI d), (4, vI e9), (5, vI f)] dX12_feed_76 (by decide) rfl ?_
    refine k_aload_n hC dX12_feed_78 rfl 2 rfl ?_
    refine k_get hC fd_X12_41 (kl hN (by decide)) hw39 rfl dX12_feed_79 ?_
    refine k_aload_n hC dX12_feed_82 rfl 2 rfl ?_
    refine k_get hC fd_X12_362 (kl hN (by decide)) hw39 rfl dX12_feed_83 ?_
    refine k_topv (vI ((c0 + 9 : Nat) : Int)) rfl ?_
    refine k_iload hC dX12_feed_86 0 rfl ?_
    refine k_bipush hC dX12_feed_88 (by decide) ?_
    refine k_bipush hC dX12_feed_90 (by decide) ?_
    refine k_iload hC dX12_feed_92 1 rfl ?_
    refine k_iconst hC dX12_feed_94 ?_
    refine k_irem hC dX12_feed_95 (by omega) (by omega) ?_
    refine k_topv (vI 1) (congrArg vI (by decide)) ?_
    refine k_imul hC dX12_feed_96 ?_
    refine k_topv (vI 8) (congrArg vI (by decide)) ?_
    refine k_isub hC dX12_feed_97 ?_
    refine k_topv (vI 16) (congrArg vI (by decide)) ?_
    refine k_ishr hC 16 dX12_feed_98 rfl (by decide) (by omega) ?_
    refine k_sipush hC dX12_feed_99 (by decide) ?_
    refine k_iand255 hC dX12_feed_102 ?_
    have h_40 : w39 144 = iA G 700 (kup (bput (bput bt c0 a) (c0 + 4) b) (((c0 + 8 : Nat) : Int)).toNat ((d / 2 ^ 24) % 256)) := (hf39 144 (by decide)).trans hw37
    refine k_iast hC (kl hN (by decide)) h_40 (by omega) (by decide) dX12_feed_103 (fun w41 hw41 hf41 => ?_)
    refine k_aload_n hC dX12_feed_104 rfl 2 rfl ?_
    refine k_dup hC dX12_feed_105 rfl ?_
    have h_42 : w41 133 = .inr (12, [.ref (kad G 134), .ref (kad G 135), .ref (kad G 136), .ref (kad G 137), vI (u 4), vI 0, vI (u 6), .ref (kad G 138), .ref (kad G 139), .ref (kad G 140), .ref (kad G 141), .ref (kad G 142), vL (u 12), vL (u 13), .ref (kad G 143), vI (u 15), .ref (kad G 144), vI ((c0 + 9 : Nat) : Int), vI (u 18), vI (u 19), vI (u 20), vI (u 21), vI (u 22), vI (u 23), vI (u 24), vI (u 25), .ref (kad G 145), .ref (kad G 146), .ref (kad G 147), vI (u 29)]) := (hf41 133 (by decide)).trans hw39
    refine k_get hC fd_X12_362 (kl hN (by decide)) h_42 rfl dX12_feed_106 ?_
    refine k_topv (vI ((c0 + 9 : Nat) : Int)) rfl ?_
    refine k_iconst hC dX12_feed_109 ?_
    refine k_iadd hC dX12_feed_110 ?_
    refine k_topv (vI ((c0 + 10 : Nat) : Int)) (congrArg vI (by omega)) ?_
    refine k_put hC fd_X12_362 (kl hN (by decide)) h_42 [.ref (kad G 134), .ref (kad G 135), .ref (kad G 136), .ref (kad G 137), vI (u 4), vI 0, vI (u 6), .ref (kad G 138), .ref (kad G 139), .ref (kad G 140), .ref (kad G 141), .ref (kad G 142), vL (u 12), vL (u 13), .ref (kad G 143), vI (u 15), .ref (kad G 144), vI ((c0 + 10 : Nat) : Int), vI (u 18), vI (u 19), vI (u 20), vI (u 21), vI (u 22), vI (u 23), vI (u 24), vI (u 25), .ref (kad G 145), .ref (kad G 146), .ref (kad G 147), vI (u 29)] rfl (Nat.le_of_ble_eq_true rfl) rfl rfl dX12_feed_111 (fun w43 hw43 hf43 => ?_)
    refine k_iinc hC (y := 10) [(6, vI 10), (7, vI d), (0, .ref (kad G 133)), (1, vI a), (2, vI b), (3, vI d), (4, vI e9), (5, vI f)] (j := 1) dX12_feed_114 rfl (by decide) (by decide) rfl ?_
    refine k_goto hC 23 dX12_feed_117 rfl ?_
    refine k_iload hC dX12_feed_23 0 rfl ?_
    refine k_bipush hC dX12_feed_25 (by decide) ?_
    refine k_icmp_ge hC 120 dX12_feed_27 rfl (by omega) (by omega) (fun c_27 => absurd c_27 (by omega)) (fun c_27 => ?_)
    refine k_iload hC dX12_feed_30 0 rfl ?_
    refine k_iconst hC dX12_feed_32 ?_
    refine k_icmp_ge hC 40 dX12_feed_33 rfl (by omega) (by omega) (fun c_33 => ?_) (fun c_33 => absurd c_33 (by omega))
    refine k_iload hC dX12_feed_40 0 rfl ?_
    refine k_bipush hC dX12_feed_42 (by decide) ?_
    refine k_icmp_ge hC 51 dX12_feed_44 rfl (by omega) (by omega) (fun c_44 => ?_) (fun c_44 => absurd c_44 (by omega))
    refine k_iload hC dX12_feed_51 0 rfl ?_
    refine k_bipush hC dX12_feed_53 (by decide) ?_
    refine k_icmp_ge hC 62 dX12_feed_55 rfl (by omega) (by omega) (fun c_55 => absurd c_55 (by omega)) (fun c_55 => ?_)
    refine k_iload_n hC dX12_feed_58 rfl 5 rfl ?_
    refine k_goto hC 76 dX12_feed_59 rfl ?_
    refine k_istore hC [(7, vI d), (6, vI 10), (0, .ref (kad G 133)), (1, vI a), (2, vI b), (3, vI d), (4, vI e9), (5, vI f)] dX12_feed_76 (by decide) rfl ?_
    refine k_aload_n hC dX12_feed_78 rfl 2 rfl ?_
    refine k_get hC fd_X12_41 (kl hN (by decide)) hw43 rfl dX12_feed_79 ?_
    refine k_aload_n hC dX12_feed_82 rfl 2 rfl ?_
    refine k_get hC fd_X12_362 (kl hN (by decide)) hw43 rfl dX12_feed_83 ?_
    refine k_topv (vI ((c0 + 10 : Nat) : Int)) rfl ?_
    refine k_iload hC dX12_feed_86 0 rfl ?_
    refine k_bipush hC dX12_feed_88 (by decide) ?_
    refine k_bipush hC dX12_feed_90 (by decide) ?_
    refine k_iload hC dX12_feed_92 1 rfl ?_
    refine k_iconst hC dX12_feed_94 ?_
    refine k_irem hC dX12_feed_95 (by omega) (by omega) ?_
    refine k_topv (vI 2) (congrArg vI (by decide)) ?_
    refine k_imul hC dX12_feed_96 ?_
    refine k_topv (vI 16) (congrArg vI (by decide)) ?_
    refine k_isub hC dX12_feed_97 ?_
    refine k_topv (vI 8) (congrArg vI (by decide)) ?_
    refine k_ishr hC 8 dX12_feed_98 rfl (by decide) (by omega) ?_
    refine k_sipush hC dX12_feed_99 (by decide) ?_
    refine k_iand255 hC dX12_feed_102 ?_
    have h_44 : w43 144 = iA G 700 (kup (kup (bput (bput bt c0 a) (c0 + 4) b) (((c0 + 8 : Nat) : Int)).toNat ((d / 2 ^ 24) % 256)) (((c0 + 9 : Nat) : Int)).toNat ((d / 2 ^ 16) % 256)) := (hf43 144 (by decide)).trans hw41
    refine k_iast hC (kl hN (by decide)) h_44 (by omega) (by decide) dX12_feed_103 (fun w45 hw45 hf45 => ?_)
    refine k_aload_n hC dX12_feed_104 rfl 2 rfl ?_
    refine k_dup hC dX12_feed_105 rfl ?_
    have h_46 : w45 133 = .inr (12, [.ref (kad G 134), .ref (kad G 135), .ref (kad G 136), .ref (kad G 137), vI (u 4), vI 0, vI (u 6), .ref (kad G 138), .ref (kad G 139), .ref (kad G 140), .ref (kad G 141), .ref (kad G 142), vL (u 12), vL (u 13), .ref (kad G 143), vI (u 15), .ref (kad G 144), vI ((c0 + 10 : Nat) : Int), vI (u 18), vI (u 19), vI (u 20), vI (u 21), vI (u 22), vI (u 23), vI (u 24), vI (u 25), .ref (kad G 145), .ref (kad G 146), .ref (kad G 147), vI (u 29)]) := (hf45 133 (by decide)).trans hw43
    refine k_get hC fd_X12_362 (kl hN (by decide)) h_46 rfl dX12_feed_106 ?_
    refine k_topv (vI ((c0 + 10 : Nat) : Int)) rfl ?_
    refine k_iconst hC dX12_feed_109 ?_
    refine k_iadd hC dX12_feed_110 ?_
    refine k_topv (vI ((c0 + 11 : Nat) : Int)) (congrArg vI (by omega)) ?_
    refine k_put hC fd_X12_362 (kl hN (by decide)) h_46 [.ref (kad G 134), .ref (kad G 135), .ref (kad G 136), .ref (kad G 137), vI (u 4), vI 0, vI (u 6), .ref (kad G 138), .ref (kad G 139), .ref (kad G 140), .ref (kad G 141), .ref (kad G 142), vL (u 12), vL (u 13), .ref (kad G 143), vI (u 15), .ref (kad G 144), vI ((c0 + 11 : Nat) : Int), vI (u 18), vI (u 19), vI (u 20), vI (u 21), vI (u 22), vI (u 23), vI (u 24), vI (u 25), .ref (kad G 145), .ref (kad G 146), .ref (kad G 147), vI (u 29)] rfl (Nat.le_of_ble_eq_true rfl) rfl rfl dX12_feed_111 (fun w47 hw47 hf47 => ?_)
    refine k_iinc hC (y := 11) [(6, vI 11), (7, vI d), (0, .ref (kad G 133)), (1, vI a), (2, vI b), (3, vI d), (4, vI e9), (5, vI f)] (j := 1) dX12_feed_114 rfl (by decide) (by decide) rfl ?_
    refine k_goto hC 23 dX12_feed_117 rfl ?_
    refine k_iload hC dX12_feed_23 0 rfl ?_
    refine k_bipush hC dX12_feed_25 (by decide) ?_
    refine k_icmp_ge hC 120 dX12_feed_27 rfl (by omega) (by omega) (fun c_27 => absurd c_27 (by omega)) (fun c_27 => ?_)
    refine k_iload hC dX12_feed_30 0 rfl ?_
    refine k_iconst hC dX12_feed_32 ?_
    refine k_icmp_ge hC 40 dX12_feed_33 rfl (by omega) (by omega) (fun c_33 => ?_) (fun c_33 => absurd c_33 (by omega))
    refine k_iload hC dX12_feed_40 0 rfl ?_
    refine k_bipush hC dX12_feed_42 (by decide) ?_
    refine k_icmp_ge hC 51 dX12_feed_44 rfl (by omega) (by omega) (fun c_44 => ?_) (fun c_44 => absurd c_44 (by omega))
    refine k_iload hC dX12_feed_51 0 rfl ?_
    refine k_bipush hC dX12_feed_53 (by decide) ?_
    refine k_icmp_ge hC 62 dX12_feed_55 rfl (by omega) (by omega) (fun c_55 => absurd c_55 (by omega)) (fun c_55 => ?_)
    refine k_iload_n hC dX12_feed_58 rfl 5 rfl ?_
    refine k_goto hC 76 dX12_feed_59 rfl ?_
    refine k_istore hC [(7, vI d), (6, vI 11), (0, .ref (kad G 133)), (1, vI a), (2, vI b), (3, vI d), (4, vI e9), (5, vI f)] dX12_feed_76 (by decide) rfl ?_
    refine k_aload_n hC dX12_feed_78 rfl 2 rfl ?_
    refine k_get hC fd_X12_41 (kl hN (by decide)) hw47 rfl dX12_feed_79 ?_
    refine k_aload_n hC dX12_feed_82 rfl 2 rfl ?_
    refine k_get hC fd_X12_362 (kl hN (by decide)) hw47 rfl dX12_feed_83 ?_
    refine k_topv (vI ((c0 + 11 : Nat) : Int)) rfl ?_
    refine k_iload hC dX12_feed_86 0 rfl ?_
    refine k_bipush hC dX12_feed_88 (by decide) ?_
    refine k_bipush hC dX12_feed_90 (by decide) ?_
    refine k_iload hC dX12_feed_92 1 rfl ?_
    refine k_iconst hC dX12_feed_94 ?_
    refine k_irem hC dX12_feed_95 (by omega) (by omega) ?_
    refine k_topv (vI 3) (congrArg vI (by decide)) ?_
    refine k_imul hC dX12_feed_96 ?_
    refine k_topv (vI 24) (congrArg vI (by decide)) ?_
    refine k_isub hC dX12_feed_97 ?_
    refine k_topv (vI 0) (congrArg vI (by decide)) ?_
    refine k_ishr hC 0 dX12_feed_98 rfl (Or.inl rfl) (by omega) ?_
    refine k_topv (vI (d)) (congrArg vI (by omega)) ?_
    refine k_sipush hC dX12_feed_99 (by decide) ?_
    refine k_iand255 hC dX12_feed_102 ?_
    have h_48 : w47 144 = iA G 700 (kup (kup (kup (bput (bput bt c0 a) (c0 + 4) b) (((c0 + 8 : Nat) : Int)).toNat ((d / 2 ^ 24) % 256)) (((c0 + 9 : Nat) : Int)).toNat ((d / 2 ^ 16) % 256)) (((c0 + 10 : Nat) : Int)).toNat ((d / 2 ^ 8) % 256)) := (hf47 144 (by decide)).trans hw45
    refine k_iast hC (kl hN (by decide)) h_48 (by omega) (by decide) dX12_feed_103 (fun w49 hw49 hf49 => ?_)
    have hbp_50 : w49 144 = iA G 700 (bput (bput (bput bt c0 a) (c0 + 4) b) (c0 + 8) d) := hw49.trans ((iA_congr (fun j hj => by simp only [Int.toNat_natCast])).trans bputR_e)
    refine k_aload_n hC dX12_feed_104 rfl 2 rfl ?_
    refine k_dup hC dX12_feed_105 rfl ?_
    have h_51 : w49 133 = .inr (12, [.ref (kad G 134), .ref (kad G 135), .ref (kad G 136), .ref (kad G 137), vI (u 4), vI 0, vI (u 6), .ref (kad G 138), .ref (kad G 139), .ref (kad G 140), .ref (kad G 141), .ref (kad G 142), vL (u 12), vL (u 13), .ref (kad G 143), vI (u 15), .ref (kad G 144), vI ((c0 + 11 : Nat) : Int), vI (u 18), vI (u 19), vI (u 20), vI (u 21), vI (u 22), vI (u 23), vI (u 24), vI (u 25), .ref (kad G 145), .ref (kad G 146), .ref (kad G 147), vI (u 29)]) := (hf49 133 (by decide)).trans hw47
    refine k_get hC fd_X12_362 (kl hN (by decide)) h_51 rfl dX12_feed_106 ?_
    refine k_topv (vI ((c0 + 11 : Nat) : Int)) rfl ?_
    refine k_iconst hC dX12_feed_109 ?_
    refine k_iadd hC dX12_feed_110 ?_
    refine k_topv (vI ((c0 + 12 : Nat) : Int)) (congrArg vI (by omega)) ?_
    refine k_put hC fd_X12_362 (kl hN (by decide)) h_51 [.ref (kad G 134), .ref (kad G 135), .ref (kad G 136), .ref (kad G 137), vI (u 4), vI 0, vI (u 6), .ref (kad G 138), .ref (kad G 139), .ref (kad G 140), .ref (kad G 141), .ref (kad G 142), vL (u 12), vL (u 13), .ref (kad G 143), vI (u 15), .ref (kad G 144), vI ((c0 + 12 : Nat) : Int), vI (u 18), vI (u 19), vI (u 20), vI (u 21), vI (u 22), vI (u 23), vI (u 24), vI (u 25), .ref (kad G 145), .ref (kad G 146), .ref (kad G 147), vI (u 29)] rfl (Nat.le_of_ble_eq_true rfl) rfl rfl dX12_feed_111 (fun w52 hw52 hf52 => ?_)
    refine k_iinc hC (y := 12) [(6, vI 12), (7, vI d), (0, .ref (kad G 133)), (1, vI a), (2, vI b), (3, vI d), (4, vI e9), (5, vI f)] (j := 1) dX12_feed_114 rfl (by decide) (by decide) rfl ?_
    refine k_goto hC 23 dX12_feed_117 rfl ?_
    refine k_iload hC dX12_feed_23 0 rfl ?_
    refine k_bipush hC dX12_feed_25 (by decide) ?_
    refine k_icmp_ge hC 120 dX12_feed_27 rfl (by omega) (by omega) (fun c_27 => absurd c_27 (by omega)) (fun c_27 => ?_)
    refine k_iload hC dX12_feed_30 0 rfl ?_
    refine k_iconst hC dX12_feed_32 ?_
    refine k_icmp_ge hC 40 dX12_feed_33 rfl (by omega) (by omega) (fun c_33 => ?_) (fun c_33 => absurd c_33 (by omega))
    refine k_iload hC dX12_feed_40 0 rfl ?_
    refine k_bipush hC dX12_feed_42 (by decide) ?_
    refine k_icmp_ge hC 51 dX12_feed_44 rfl (by omega) (by omega) (fun c_44 => ?_) (fun c_44 => absurd c_44 (by omega))
    refine k_iload hC dX12_feed_51 0 rfl ?_
    refine k_bipush hC dX12_feed_53 (by decide) ?_
    refine k_icmp_ge hC 62 dX12_feed_55 rfl (by omega) (by omega) (fun c_55 => ?_) (fun c_55 => absurd c_55 (by omega))
    refine k_iload hC dX12_feed_62 0 rfl ?_
    refine k_bipush hC dX12_feed_64 (by decide) ?_
    refine k_icmp_ge hC 74 dX12_feed_66 rfl (by omega) (by omega) (fun c_66 => absurd c_66 (by omega)) (fun c_66 => ?_)
    refine k_iload hC dX12_feed_69 6 rfl ?_
    refine k_goto hC 76 dX12_feed_71 rfl ?_
    refine k_istore hC [(7, vI e9), (6, vI 12), (0, .ref (kad G 133)), (1, vI a), (2, vI b), (3, vI d), (4, vI e9), (5, vI f)] dX12_feed_76 (by decide) rfl ?_
    refine k_aload_n hC dX12_feed_78 rfl 2 rfl ?_
    refine k_get hC fd_X12_41 (kl hN (by decide)) hw52 rfl dX12_feed_79 ?_
    refine k_aload_n hC dX12_feed_82 rfl 2 rfl ?_
    refine k_get hC fd_X12_362 (kl hN (by decide)) hw52 rfl dX12_feed_83 ?_
    refine k_topv (vI ((c0 + 12 : Nat) : Int)) rfl ?_
    refine k_iload hC dX12_feed_86 0 rfl ?_
    refine k_bipush hC dX12_feed_88 (by decide) ?_
    refine k_bipush hC dX12_feed_90 (by decide) ?_
    refine k_iload hC dX12_feed_92 1 rfl ?_
    refine k_iconst hC dX12_feed_94 ?_
    refine k_irem hC dX12_feed_95 (by omega) (by omega) ?_
    refine k_topv (vI 0) (congrArg vI (by decide)) ?_
    refine k_imul hC dX12_feed_96 ?_
    refine k_topv (vI 0) (congrArg vI (by decide)) ?_
    refine k_isub hC dX12_feed_97 ?_
    refine k_topv (vI 24) (congrArg vI (by decide)) ?_
    refine k_ishr hC 24 dX12_feed_98 rfl (by decide) (by omega) ?_
    refine k_sipush hC dX12_feed_99 (by decide) ?_
    refine k_iand255 hC dX12_feed_102 ?_
    have h_53 : w52 144 = iA G 700 (bput (bput (bput bt c0 a) (c0 + 4) b) (c0 + 8) d) := (hf52 144 (by decide)).trans hbp_50
    refine k_iast hC (kl hN (by decide)) h_53 (by omega) (by decide) dX12_feed_103 (fun w54 hw54 hf54 => ?_)
    refine k_aload_n hC dX12_feed_104 rfl 2 rfl ?_
    refine k_dup hC dX12_feed_105 rfl ?_
    have h_55 : w54 133 = .inr (12, [.ref (kad G 134), .ref (kad G 135), .ref (kad G 136), .ref (kad G 137), vI (u 4), vI 0, vI (u 6), .ref (kad G 138), .ref (kad G 139), .ref (kad G 140), .ref (kad G 141), .ref (kad G 142), vL (u 12), vL (u 13), .ref (kad G 143), vI (u 15), .ref (kad G 144), vI ((c0 + 12 : Nat) : Int), vI (u 18), vI (u 19), vI (u 20), vI (u 21), vI (u 22), vI (u 23), vI (u 24), vI (u 25), .ref (kad G 145), .ref (kad G 146), .ref (kad G 147), vI (u 29)]) := (hf54 133 (by decide)).trans hw52
    refine k_get hC fd_X12_362 (kl hN (by decide)) h_55 rfl dX12_feed_106 ?_
    refine k_topv (vI ((c0 + 12 : Nat) : Int)) rfl ?_
    refine k_iconst hC dX12_feed_109 ?_
    refine k_iadd hC dX12_feed_110 ?_
    refine k_topv (vI ((c0 + 13 : Nat) : Int)) (congrArg vI (by omega)) ?_
    refine k_put hC fd_X12_362 (kl hN (by decide)) h_55 [.ref (kad G 134), .ref (kad G 135), .ref (kad G 136), .ref (kad G 137), vI (u 4), vI 0, vI (u 6), .ref (kad G 138), .ref (kad G 139), .ref (kad G 140), .ref (kad G 141), .ref (kad G 142), vL (u 12), vL (u 13), .ref (kad G 143), vI (u 15), .ref (kad G 144), vI ((c0 + 13 : Nat) : Int), vI (u 18), vI (u 19), vI (u 20), vI (u 21), vI (u 22), vI (u 23), vI (u 24), vI (u 25), .ref (kad G 145), .ref (kad G 146), .ref (kad G 147), vI (u 29)] rfl (Nat.le_of_ble_eq_true rfl) rfl rfl dX12_feed_111 (fun w56 hw56 hf56 => ?_)
    refine k_iinc hC (y := 13) [(6, vI 13), (7, vI e9), (0, .ref (kad G 133)), (1, vI a), (2, vI b), (3, vI d), (4, vI e9), (5, vI f)] (j := 1) dX12_feed_114 rfl (by decide) (by decide) rfl ?_
    refine k_goto hC 23 dX12_feed_117 rfl ?_
    refine k_iload hC dX12_feed_23 0 rfl ?_
    refine k_bipush hC dX12_feed_25 (by decide) ?_
    refine k_icmp_ge hC 120 dX12_feed_27 rfl (by omega) (by omega) (fun c_27 => absurd c_27 (by omega)) (fun c_27 => ?_)
    refine k_iload hC dX12_feed_30 0 rfl ?_
    refine k_iconst hC dX12_feed_32 ?_
    refine k_icmp_ge hC 40 dX12_feed_33 rfl (by omega) (by omega) (fun c_33 => ?_) (fun c_33 => absurd c_33 (by omega))
    refine k_iload hC dX12_feed_40 0 rfl ?_
    refine k_bipush hC dX12_feed_42 (by decide) ?_
    refine k_icmp_ge hC 51 dX12_feed_44 rfl (by omega) (by omega) (fun c_44 => ?_) (fun c_44 => absurd c_44 (by omega))
    refine k_iload hC dX12_feed_51 0 rfl ?_
    refine k_bipush hC dX12_feed_53 (by decide) ?_
    refine k_icmp_ge hC 62 dX12_feed_55 rfl (by omega) (by omega) (fun c_55 => ?_) (fun c_55 => absurd c_55 (by omega))
    refine k_iload hC dX12_feed_62 0 rfl ?_
    refine k_bipush hC dX12_feed_64 (by decide) ?_
    refine k_icmp_ge hC 74 dX12_feed_66 rfl (by omega) (by omega) (fun c_66 => absurd c_66 (by omega)) (fun c_66 => ?_)
    refine k_iload hC dX12_feed_69 6 rfl ?_
    refine k_goto hC 76 dX12_feed_71 rfl ?_
    refine k_istore hC [(7, vI e9), (6, vI 13), (0, .ref (kad G 133)), (1, vI a), (2, vI b), (3, vI d), (4, vI e9), (5, vI f)] dX12_feed_76 (by decide) rfl ?_
    refine k_aload_n hC dX12_feed_78 rfl 2 rfl ?_
    refine k_get hC fd_X12_41 (kl hN (by decide)) hw56 rfl dX12_feed_79 ?_
    refine k_aload_n hC dX12_feed_82 rfl 2 rfl ?_
    refine k_get hC fd_X12_362 (kl hN (by decide)) hw56 rfl dX12_feed_83 ?_
    refine k_topv (vI ((c0 + 13 : Nat) : Int)) rfl ?_
    refine k_iload hC dX12_feed_86 0 rfl ?_
    refine k_bipush hC dX12_feed_88 (by decide) ?_
    refine k_bipush hC dX12_feed_90 (by decide) ?_
    refine k_iload hC dX12_feed_92 1 rfl ?_
    refine k_iconst hC dX12_feed_94 ?_
    refine k_irem hC dX12_feed_95 (by omega) (by omega) ?_
    refine k_topv (vI 1) (congrArg vI (by decide)) ?_
    refine k_imul hC dX12_feed_96 ?_
    refine k_topv (vI 8) (congrArg vI (by decide)) ?_
    refine k_isub hC dX12_feed_97 ?_
    refine k_topv (vI 16) (congrArg vI (by decide)) ?_
    refine k_ishr hC 16 dX12_feed_98 rfl (by decide) (by omega) ?_
    refine k_sipush hC dX12_feed_99 (by decide) ?_
    refine k_iand255 hC dX12_feed_102 ?_
    have h_57 : w56 144 = iA G 700 (kup (bput (bput (bput bt c0 a) (c0 + 4) b) (c0 + 8) d) (((c0 + 12 : Nat) : Int)).toNat ((e9 / 2 ^ 24) % 256)) := (hf56 144 (by decide)).trans hw54
    refine k_iast hC (kl hN (by decide)) h_57 (by omega) (by decide) dX12_feed_103 (fun w58 hw58 hf58 => ?_)
    refine k_aload_n hC dX12_feed_104 rfl 2 rfl ?_
    refine k_dup hC dX12_feed_105 rfl ?_
    have h_59 : w58 133 = .inr (12, [.ref (kad G 134), .ref (kad G 135), .ref (kad G 136), .ref (kad G 137), vI (u 4), vI 0, vI (u 6), .ref (kad G 138), .ref (kad G 139), .ref (kad G 140), .ref (kad G 141), .ref (kad G 142), vL (u 12), vL (u 13), .ref (kad G 143), vI (u 15), .ref (kad G 144), vI ((c0 + 13 : Nat) : Int), vI (u 18), vI (u 19), vI (u 20), vI (u 21), vI (u 22), vI (u 23), vI (u 24), vI (u 25), .ref (kad G 145), .ref (kad G 146), .ref (kad G 147), vI (u 29)]) := (hf58 133 (by decide)).trans hw56
    refine k_get hC fd_X12_362 (kl hN (by decide)) h_59 rfl dX12_feed_106 ?_
    refine k_topv (vI ((c0 + 13 : Nat) : Int)) rfl ?_
    refine k_iconst hC dX12_feed_109 ?_
    refine k_iadd hC dX12_feed_110 ?_
    refine k_topv (vI ((c0 + 14 : Nat) : Int)) (congrArg vI (by omega)) ?_
    refine k_put hC fd_X12_362 (kl hN (by decide)) h_59 [.ref (kad G 134), .ref (kad G 135), .ref (kad G 136), .ref (kad G 137), vI (u 4), vI 0, vI (u 6), .ref (kad G 138), .ref (kad G 139), .ref (kad G 140), .ref (kad G 141), .ref (kad G 142), vL (u 12), vL (u 13), .ref (kad G 143), vI (u 15), .ref (kad G 144), vI ((c0 + 14 : Nat) : Int), vI (u 18), vI (u 19), vI (u 20), vI (u 21), vI (u 22), vI (u 23), vI (u 24), vI (u 25), .ref (kad G 145), .ref (kad G 146), .ref (kad G 147), vI (u 29)] rfl (Nat.le_of_ble_eq_true rfl) rfl rfl dX12_feed_111 (fun w60 hw60 hf60 => ?_)
    refine k_iinc hC (y := 14) [(6, vI 14), (7, vI e9), (0, .ref (kad G 133)), (1, vI a), (2, vI b), (3, vI d), (4, vI e9), (5, vI f)] (j := 1) dX12_feed_114 rfl (by decide) (by decide) rfl ?_
    refine k_goto hC 23 dX12_feed_117 rfl ?_
    refine k_iload hC dX12_feed_23 0 rfl ?_
    refine k_bipush hC dX12_feed_25 (by decide) ?_
    refine k_icmp_ge hC 120 dX12_feed_27 rfl (by omega) (by omega) (fun c_27 => absurd c_27 (by omega)) (fun c_27 => ?_)
    refine k_iload hC dX12_feed_30 0 rfl ?_
    refine k_iconst hC dX12_feed_32 ?_
    refine k_icmp_ge hC 40 dX12_feed_33 rfl (by omega) (by omega) (fun c_33 => ?_) (fun c_33 => absurd c_33 (by omega))
    refine k_iload hC dX12_feed_40 0 rfl ?_
    refine k_bipush hC dX12_feed_42 (by decide) ?_
    refine k_icmp_ge hC 51 dX12_feed_44 rfl (by omega) (by omega) (fun c_44 => ?_) (fun c_44 => absurd c_44 (by omega))
    refine k_iload hC dX12_feed_51 0 rfl ?_
    refine k_bipush hC dX12_feed_53 (by decide) ?_
    refine k_icmp_ge hC 62 dX12_feed_55 rfl (by omega) (by omega) (fun c_55 => ?_) (fun c_55 => absurd c_55 (by omega))
    refine k_iload hC dX12_feed_62 0 rfl ?_
    refine k_bipush hC dX12_feed_64 (by decide) ?_
    refine k_icmp_ge hC 74 dX12_feed_66 rfl (by omega) (by omega) (fun c_66 => absurd c_66 (by omega)) (fun c_66 => ?_)
    refine k_iload hC dX12_feed_69 6 rfl ?_
    refine k_goto hC 76 dX12_feed_71 rfl ?_
    refine k_istore hC [(7, vI e9), (6, vI 14), (0, .ref (kad G 133)), (1, vI a), (2, vI b), (3, vI d), (4, vI e9), (5, vI f)] dX12_feed_76 (by decide) rfl ?_
    refine k_aload_n hC dX12_feed_78 rfl 2 rfl ?_
    refine k_get hC fd_X12_41 (kl hN (by decide)) hw60 rfl dX12_feed_79 ?_
    refine k_aload_n hC dX12_feed_82 rfl 2 rfl ?_
    refine k_get hC fd_X12_362 (kl hN (by decide)) hw60 rfl dX12_feed_83 ?_
    refine k_topv (vI ((c0 + 14 : Nat) : Int)) rfl ?_
    refine k_iload hC dX12_feed_86 0 rfl ?_
    refine k_bipush hC dX12_feed_88 (by decide) ?_
    refine k_bipush hC dX12_feed_90 (by decide) ?_
    refine k_iload hC dX12_feed_92 1 rfl ?_
    refine k_iconst hC dX12_feed_94 ?_
    refine k_irem hC dX12_feed_95 (by omega) (by omega) ?_
    refine k_topv (vI 2) (congrArg vI (by decide)) ?_
    refine k_imul hC dX12_feed_96 ?_
    refine k_topv (vI 16) (congrArg vI (by decide)) ?_
    refine k_isub hC dX12_feed_97 ?_
    refine k_topv (vI 8) (congrArg vI (by decide)) ?_
    refine k_ishr hC 8 dX12_feed_98 rfl (by decide) (by omega) ?_
    refine k_sipush hC dX12_feed_99 (by decide) ?_
    refine k_iand255 hC dX12_feed_102 ?_
    have h_61 : w60 144 = iA G 700 (kup (kup (bput (bput (bput bt c0 a) (c0 + 4) b) (c0 + 8) d) (((c0 + 12 : Nat) : Int)).toNat ((e9 / 2 ^ 24) % 256)) (((c0 + 13 : Nat) : Int)).toNat ((e9 / 2 ^ 16) % 256)) := (hf60 144 (by decide)).trans hw58
    refine k_iast hC (kl hN (by decide)) h_61 (by omega) (by decide) dX12_feed_103 (fun w62 hw62 hf62 => ?_)
    refine k_aload_n hC dX12_feed_104 rfl 2 rfl ?_
    refine k_dup hC dX12_feed_105 rfl ?_
    have h_63 : w62 133 = .inr (12, [.ref (kad G 134), .ref (kad G 135), .ref (kad G 136), .ref (kad G 137), vI (u 4), vI 0, vI (u 6), .ref (kad G 138), .ref (kad G 139), .ref (kad G 140), .ref (kad G 141), .ref (kad G 142), vL (u 12), vL (u 13), .ref (kad G 143), vI (u 15), .ref (kad G 144), vI ((c0 + 14 : Nat) : Int), vI (u 18), vI (u 19), vI (u 20), vI (u 21), vI (u 22), vI (u 23), vI (u 24), vI (u 25), .ref (kad G 145), .ref (kad G 146), .ref (kad G 147), vI (u 29)]) := (hf62 133 (by decide)).trans hw60
    refine k_get hC fd_X12_362 (kl hN (by decide)) h_63 rfl dX12_feed_106 ?_
    refine k_topv (vI ((c0 + 14 : Nat) : Int)) rfl ?_
    refine k_iconst hC dX12_feed_109 ?_
    refine k_iadd hC dX12_feed_110 ?_
    refine k_topv (vI ((c0 + 15 : Nat) : Int)) (congrArg vI (by omega)) ?_
    refine k_put hC fd_X12_362 (kl hN (by decide)) h_63 [.ref (kad G 134), .ref (kad G 135), .ref (kad G 136), .ref (kad G 137), vI (u 4), vI 0, vI (u 6), .ref (kad G 138), .ref (kad G 139), .ref (kad G 140), .ref (kad G 141), .ref (kad G 142), vL (u 12), vL (u 13), .ref (kad G 143), vI (u 15), .ref (kad G 144), vI ((c0 + 15 : Nat) : Int), vI (u 18), vI (u 19), vI (u 20), vI (u 21), vI (u 22), vI (u 23), vI (u 24), vI (u 25), .ref (kad G 145), .ref (kad G 146), .ref (kad G 147), vI (u 29)] rfl (Nat.le_of_ble_eq_true rfl) rfl rfl dX12_feed_111 (fun w64 hw64 hf64 => ?_)
    refine k_iinc hC (y := 15) [(6, vI 15), (7, vI e9), (0, .ref (kad G 133)), (1, vI a), (2, vI b), (3, vI d), (4, vI e9), (5, vI f)] (j := 1) dX12_feed_114 rfl (by decide) (by decide) rfl ?_
    refine k_goto hC 23 dX12_feed_117 rfl ?_
    refine k_iload hC dX12_feed_23 0 rfl ?_
    refine k_bipush hC dX12_feed_25 (by decide) ?_
    refine k_icmp_ge hC 120 dX12_feed_27 rfl (by omega) (by omega) (fun c_27 => absurd c_27 (by omega)) (fun c_27 => ?_)
    refine k_iload hC dX12_feed_30 0 rfl ?_
    refine k_iconst hC dX12_feed_32 ?_
    refine k_icmp_ge hC 40 dX12_feed_33 rfl (by omega) (by omega) (fun c_33 => ?_) (fun c_33 => absurd c_33 (by omega))
    refine k_iload hC dX12_feed_40 0 rfl ?_
    refine k_bipush hC dX12_feed_42 (by decide) ?_
    refine k_icmp_ge hC 51 dX12_feed_44 rfl (by omega) (by omega) (fun c_44 => ?_) (fun c_44 => absurd c_44 (by omega))
    refine k_iload hC dX12_feed_51 0 rfl ?_
    refine k_bipush hC dX12_feed_53 (by decide) ?_
    refine k_icmp_ge hC 62 dX12_feed_55 rfl (by omega) (by omega) (fun c_55 => ?_) (fun c_55 => absurd c_55 (by omega))
    refine k_iload hC dX12_feed_62 0 rfl ?_
    refine k_bipush hC dX12_feed_64 (by decide) ?_
    refine k_icmp_ge hC 74 dX12_feed_66 rfl (by omega) (by omega) (fun c_66 => absurd c_66 (by omega)) (fun c_66 => ?_)
    refine k_iload hC dX12_feed_69 6 rfl ?_
    refine k_goto hC 76 dX12_feed_71 rfl ?_
    refine k_istore hC [(7, vI e9), (6, vI 15), (0, .ref (kad G 133)), (1, vI a), (2, vI b), (3, vI d), (4, vI e9), (5, vI f)] dX12_feed_76 (by decide) rfl ?_
    refine k_aload_n hC dX12_feed_78 rfl 2 rfl ?_
    refine k_get hC fd_X12_41 (kl hN (by decide)) hw64 rfl dX12_feed_79 ?_
    refine k_aload_n hC dX12_feed_82 rfl 2 rfl ?_
    refine k_get hC fd_X12_362 (kl hN (by decide)) hw64 rfl dX12_feed_83 ?_
    refine k_topv (vI ((c0 + 15 : Nat) : Int)) rfl ?_
    refine k_iload hC dX12_feed_86 0 rfl ?_
    refine k_bipush hC dX12_feed_88 (by decide) ?_
    refine k_bipush hC dX12_feed_90 (by decide) ?_
    refine k_iload hC dX12_feed_92 1 rfl ?_
    refine k_iconst hC dX12_feed_94 ?_
    refine k_irem hC dX12_feed_95 (by omega) (by omega) ?_
    refine k_topv (vI 3) (congrArg vI (by decide)) ?_
    refine k_imul hC dX12_feed_96 ?_
    refine k_topv (vI 24) (congrArg vI (by decide)) ?_
    refine k_isub hC dX12_feed_97 ?_
    refine k_topv (vI 0) (congrArg vI (by decide)) ?_
    refine k_ishr hC 0 dX12_feed_98 rfl (Or.inl rfl) (by omega) ?_
    refine k_topv (vI (e9)) (congrArg vI (by omega)) ?_
    refine k_sipush hC dX12_feed_99 (by decide) ?_
    refine k_iand255 hC dX12_feed_102 ?_
    have h_65 : w64 144 = iA G 700 (kup (kup (kup (bput (bput (bput bt c0 a) (c0 + 4) b) (c0 + 8) d) (((c0 + 12 : Nat) : Int)).toNat ((e9 / 2 ^ 24) % 256)) (((c0 + 13 : Nat) : Int)).toNat ((e9 / 2 ^ 16) % 256)) (((c0 + 14 : Nat) : Int)).toNat ((e9 / 2 ^ 8) % 256)) := (hf64 144 (by decide)).trans hw62
    refine k_iast hC (kl hN (by decide)) h_65 (by omega) (by decide) dX12_feed_103 (fun w66 hw66 hf66 => ?_)
    have hbp_67 : w66 144 = iA G 700 (bput (bput (bput (bput bt c0 a) (c0 + 4) b) (c0 + 8) d) (c0 + 12) e9) := hw66.trans ((iA_congr (fun j hj => by simp only [Int.toNat_natCast])).trans bputR_e)
    refine k_aload_n hC dX12_feed_104 rfl 2 rfl ?_
    refine k_dup hC dX12_feed_105 rfl ?_
    have h_68 : w66 133 = .inr (12, [.ref (kad G 134), .ref (kad G 135), .ref (kad G 136), .ref (kad G 137), vI (u 4), vI 0, vI (u 6), .ref (kad G 138), .ref (kad G 139), .ref (kad G 140), .ref (kad G 141), .ref (kad G 142), vL (u 12), vL (u 13), .ref (kad G 143), vI (u 15), .ref (kad G 144), vI ((c0 + 15 : Nat) : Int), vI (u 18), vI (u 19), vI (u 20), vI (u 21), vI (u 22), vI (u 23), vI (u 24), vI (u 25), .ref (kad G 145), .ref (kad G 146), .ref (kad G 147), vI (u 29)]) := (hf66 133 (by decide)).trans hw64
    refine k_get hC fd_X12_362 (kl hN (by decide)) h_68 rfl dX12_feed_106 ?_
    refine k_topv (vI ((c0 + 15 : Nat) : Int)) rfl ?_
    refine k_iconst hC dX12_feed_109 ?_
    refine k_iadd hC dX12_feed_110 ?_
    refine k_topv (vI ((c0 + 16 : Nat) : Int)) (congrArg vI (by omega)) ?_
    refine k_put hC fd_X12_362 (kl hN (by decide)) h_68 [.ref (kad G 134), .ref (kad G 135), .ref (kad G 136), .ref (kad G 137), vI (u 4), vI 0, vI (u 6), .ref (kad G 138), .ref (kad G 139), .ref (kad G 140), .ref (kad G 141), .ref (kad G 142), vL (u 12), vL (u 13), .ref (kad G 143), vI (u 15), .ref (kad G 144), vI ((c0 + 16 : Nat) : Int), vI (u 18), vI (u 19), vI (u 20), vI (u 21), vI (u 22), vI (u 23), vI (u 24), vI (u 25), .ref (kad G 145), .ref (kad G 146), .ref (kad G 147), vI (u 29)] rfl (Nat.le_of_ble_eq_true rfl) rfl rfl dX12_feed_111 (fun w69 hw69 hf69 => ?_)
    refine k_iinc hC (y := 16) [(6, vI 16), (7, vI e9), (0, .ref (kad G 133)), (1, vI a), (2, vI b), (3, vI d), (4, vI e9), (5, vI f)] (j := 1) dX12_feed_114 rfl (by decide) (by decide) rfl ?_
    refine k_goto hC 23 dX12_feed_117 rfl ?_
    refine k_iload hC dX12_feed_23 0 rfl ?_
    refine k_bipush hC dX12_feed_25 (by decide) ?_
    refine k_icmp_ge hC 120 dX12_feed_27 rfl (by omega) (by omega) (fun c_27 => absurd c_27 (by omega)) (fun c_27 => ?_)
    refine k_iload hC dX12_feed_30 0 rfl ?_
    refine k_iconst hC dX12_feed_32 ?_
    refine k_icmp_ge hC 40 dX12_feed_33 rfl (by omega) (by omega) (fun c_33 => ?_) (fun c_33 => absurd c_33 (by omega))
    refine k_iload hC dX12_feed_40 0 rfl ?_
    refine k_bipush hC dX12_feed_42 (by decide) ?_
    refine k_icmp_ge hC 51 dX12_feed_44 rfl (by omega) (by omega) (fun c_44 => ?_) (fun c_44 => absurd c_44 (by omega))
    refine k_iload hC dX12_feed_51 0 rfl ?_
    refine k_bipush hC dX12_feed_53 (by decide) ?_
    refine k_icmp_ge hC 62 dX12_feed_55 rfl (by omega) (by omega) (fun c_55 => ?_) (fun c_55 => absurd c_55 (by omega))
    refine k_iload hC dX12_feed_62 0 rfl ?_
    refine k_bipush hC dX12_feed_64 (by decide) ?_
    refine k_icmp_ge hC 74 dX12_feed_66 rfl (by omega) (by omega) (fun c_66 => ?_) (fun c_66 => absurd c_66 (by omega))
    refine k_iload hC dX12_feed_74 7 rfl ?_
    refine k_istore hC [(7, vI f), (6, vI 16), (0, .ref (kad G 133)), (1, vI a), (2, vI b), (3, vI d), (4, vI e9), (5, vI f)] dX12_feed_76 (by decide) rfl ?_
    refine k_aload_n hC dX12_feed_78 rfl 2 rfl ?_
    refine k_get hC fd_X12_41 (kl hN (by decide)) hw69 rfl dX12_feed_79 ?_
    refine k_aload_n hC dX12_feed_82 rfl 2 rfl ?_
    refine k_get hC fd_X12_362 (kl hN (by decide)) hw69 rfl dX12_feed_83 ?_
    refine k_topv (vI ((c0 + 16 : Nat) : Int)) rfl ?_
    refine k_iload hC dX12_feed_86 0 rfl ?_
    refine k_bipush hC dX12_feed_88 (by decide) ?_
    refine k_bipush hC dX12_feed_90 (by decide) ?_
    refine k_iload hC dX12_feed_92 1 rfl ?_
    refine k_iconst hC dX12_feed_94 ?_
    refine k_irem hC dX12_feed_95 (by omega) (by omega) ?_
    refine k_topv (vI 0) (congrArg vI (by decide)) ?_
    refine k_imul hC dX12_feed_96 ?_
    refine k_topv (vI 0) (congrArg vI (by decide)) ?_
    refine k_isub hC dX12_feed_97 ?_
    refine k_topv (vI 24) (congrArg vI (by decide)) ?_
    refine k_ishr hC 24 dX12_feed_98 rfl (by decide) (by omega) ?_
    refine k_sipush hC dX12_feed_99 (by decide) ?_
    refine k_iand255 hC dX12_feed_102 ?_
    have h_70 : w69 144 = iA G 700 (bput (bput (bput (bput bt c0 a) (c0 + 4) b) (c0 + 8) d) (c0 + 12) e9) := (hf69 144 (by decide)).trans hbp_67
    refine k_iast hC (kl hN (by decide)) h_70 (by omega) (by decide) dX12_feed_103 (fun w71 hw71 hf71 => ?_)
    refine k_aload_n hC dX12_feed_104 rfl 2 rfl ?_
    refine k_dup hC dX12_feed_105 rfl ?_
    have h_72 : w71 133 = .inr (12, [.ref (kad G 134), .ref (kad G 135), .ref (kad G 136), .ref (kad G 137), vI (u 4), vI 0, vI (u 6), .ref (kad G 138), .ref (kad G 139), .ref (kad G 140), .ref (kad G 141), .ref (kad G 142), vL (u 12), vL (u 13), .ref (kad G 143), vI (u 15), .ref (kad G 144), vI ((c0 + 16 : Nat) : Int), vI (u 18), vI (u 19), vI (u 20), vI (u 21), vI (u 22), vI (u 23), vI (u 24), vI (u 25), .ref (kad G 145), .ref (kad G 146), .ref (kad G 147), vI (u 29)]) := (hf71 133 (by decide)).trans hw69
    refine k_get hC fd_X12_362 (kl hN (by decide)) h_72 rfl dX12_feed_106 ?_
    refine k_topv (vI ((c0 + 16 : Nat) : Int)) rfl ?_
    refine k_iconst hC dX12_feed_109 ?_
    refine k_iadd hC dX12_feed_110 ?_
    refine k_topv (vI ((c0 + 17 : Nat) : Int)) (congrArg vI (by omega)) ?_
    refine k_put hC fd_X12_362 (kl hN (by decide)) h_72 [.ref (kad G 134), .ref (kad G 135), .ref (kad G 136), .ref (kad G 137), vI (u 4), vI 0, vI (u 6), .ref (kad G 138), .ref (kad G 139), .ref (kad G 140), .ref (kad G 141), .ref (kad G 142), vL (u 12), vL (u 13), .ref (kad G 143), vI (u 15), .ref (kad G 144), vI ((c0 + 17 : Nat) : Int), vI (u 18), vI (u 19), vI (u 20), vI (u 21), vI (u 22), vI (u 23), vI (u 24), vI (u 25), .ref (kad G 145), .ref (kad G 146), .ref (kad G 147), vI (u 29)] rfl (Nat.le_of_ble_eq_true rfl) rfl rfl dX12_feed_111 (fun w73 hw73 hf73 => ?_)
    refine k_iinc hC (y := 17) [(6, vI 17), (7, vI f), (0, .ref (kad G 133)), (1, vI a), (2, vI b), (3, vI d), (4, vI e9), (5, vI f)] (j := 1) dX12_feed_114 rfl (by decide) (by decide) rfl ?_
    refine k_goto hC 23 dX12_feed_117 rfl ?_
    refine k_iload hC dX12_feed_23 0 rfl ?_
    refine k_bipush hC dX12_feed_25 (by decide) ?_
    refine k_icmp_ge hC 120 dX12_feed_27 rfl (by omega) (by omega) (fun c_27 => absurd c_27 (by omega)) (fun c_27 => ?_)
    refine k_iload hC dX12_feed_30 0 rfl ?_
    refine k_iconst hC dX12_feed_32 ?_
    refine k_icmp_ge hC 40 dX12_feed_33 rfl (by omega) (by omega) (fun c_33 => ?_) (fun c_33 => absurd c_33 (by omega))
    refine k_iload hC dX12_feed_40 0 rfl ?_
    refine k_bipush hC dX12_feed_42 (by decide) ?_
    refine k_icmp_ge hC 51 dX12_feed_44 rfl (by omega) (by omega) (fun c_44 => ?_) (fun c_44 => absurd c_44 (by omega))
    refine k_iload hC dX12_feed_51 0 rfl ?_
    refine k_bipush hC dX12_feed_53 (by decide) ?_
    refine k_icmp_ge hC 62 dX12_feed_55 rfl (by omega) (by omega) (fun c_55 => ?_) (fun c_55 => absurd c_55 (by omega))
    refine k_iload hC dX12_feed_62 0 rfl ?_
    refine k_bipush hC dX12_feed_64 (by decide) ?_
    refine k_icmp_ge hC 74 dX12_feed_66 rfl (by omega) (by omega) (fun c_66 => ?_) (fun c_66 => absurd c_66 (by omega))
    refine k_iload hC dX12_feed_74 7 rfl ?_
    refine k_istore hC [(7, vI f), (6, vI 17), (0, .ref (kad G 133)), (1, vI a), (2, vI b), (3, vI d), (4, vI e9), (5, vI f)] dX12_feed_76 (by decide) rfl ?_
    refine k_aload_n hC dX12_feed_78 rfl 2 rfl ?_
    refine k_get hC fd_X12_41 (kl hN (by decide)) hw73 rfl dX12_feed_79 ?_
    refine k_aload_n hC dX12_feed_82 rfl 2 rfl ?_
    refine k_get hC fd_X12_362 (kl hN (by decide)) hw73 rfl dX12_feed_83 ?_
    refine k_topv (vI ((c0 + 17 : Nat) : Int)) rfl ?_
    refine k_iload hC dX12_feed_86 0 rfl ?_
    refine k_bipush hC dX12_feed_88 (by decide) ?_
    refine k_bipush hC dX12_feed_90 (by decide) ?_
    refine k_iload hC dX12_feed_92 1 rfl ?_
    refine k_iconst hC dX12_feed_94 ?_
    refine k_irem hC dX12_feed_95 (by omega) (by omega) ?_
    refine k_topv (vI 1) (congrArg vI (by decide)) ?_
    refine k_imul hC dX12_feed_96 ?_
    refine k_topv (vI 8) (congrArg vI (by decide)) ?_
    refine k_isub hC dX12_feed_97 ?_
    refine k_topv (vI 16) (congrArg vI (by decide)) ?_
    refine k_ishr hC 16 dX12_feed_98 rfl (by decide) (by omega) ?_
    refine k_sipush hC dX12_feed_99 (by decide) ?_
    refine k_iand255 hC dX12_feed_102 ?_
    have h_74 : w73 144 = iA G 700 (kup (bput (bput (bput (bput bt c0 a) (c0 + 4) b) (c0 + 8) d) (c0 + 12) e9) (((c0 + 16 : Nat) : Int)).toNat ((f / 2 ^ 24) % 256)) := (hf73 144 (by decide)).trans hw71
    refine k_iast hC (kl hN (by decide)) h_74 (by omega) (by decide) dX12_feed_103 (fun w75 hw75 hf75 => ?_)
    refine k_aload_n hC dX12_feed_104 rfl 2 rfl ?_
    refine k_dup hC dX12_feed_105 rfl ?_
    have h_76 : w75 133 = .inr (12, [.ref (kad G 134), .ref (kad G 135), .ref (kad G 136), .ref (kad G 137), vI (u 4), vI 0, vI (u 6), .ref (kad G 138), .ref (kad G 139), .ref (kad G 140), .ref (kad G 141), .ref (kad G 142), vL (u 12), vL (u 13), .ref (kad G 143), vI (u 15), .ref (kad G 144), vI ((c0 + 17 : Nat) : Int), vI (u 18), vI (u 19), vI (u 20), vI (u 21), vI (u 22), vI (u 23), vI (u 24), vI (u 25), .ref (kad G 145), .ref (kad G 146), .ref (kad G 147), vI (u 29)]) := (hf75 133 (by decide)).trans hw73
    refine k_get hC fd_X12_362 (kl hN (by decide)) h_76 rfl dX12_feed_106 ?_
    refine k_topv (vI ((c0 + 17 : Nat) : Int)) rfl ?_
    refine k_iconst hC dX12_feed_109 ?_
    refine k_iadd hC dX12_feed_110 ?_
    refine k_topv (vI ((c0 + 18 : Nat) : Int)) (congrArg vI (by omega)) ?_
    refine k_put hC fd_X12_362 (kl hN (by decide)) h_76 [.ref (kad G 134), .ref (kad G 135), .ref (kad G 136), .ref (kad G 137), vI (u 4), vI 0, vI (u 6), .ref (kad G 138), .ref (kad G 139), .ref (kad G 140), .ref (kad G 141), .ref (kad G 142), vL (u 12), vL (u 13), .ref (kad G 143), vI (u 15), .ref (kad G 144), vI ((c0 + 18 : Nat) : Int), vI (u 18), vI (u 19), vI (u 20), vI (u 21), vI (u 22), vI (u 23), vI (u 24), vI (u 25), .ref (kad G 145), .ref (kad G 146), .ref (kad G 147), vI (u 29)] rfl (Nat.le_of_ble_eq_true rfl) rfl rfl dX12_feed_111 (fun w77 hw77 hf77 => ?_)
    refine k_iinc hC (y := 18) [(6, vI 18), (7, vI f), (0, .ref (kad G 133)), (1, vI a), (2, vI b), (3, vI d), (4, vI e9), (5, vI f)] (j := 1) dX12_feed_114 rfl (by decide) (by decide) rfl ?_
    refine k_goto hC 23 dX12_feed_117 rfl ?_
    refine k_iload hC dX12_feed_23 0 rfl ?_
    refine k_bipush hC dX12_feed_25 (by decide) ?_
    refine k_icmp_ge hC 120 dX12_feed_27 rfl (by omega) (by omega) (fun c_27 => absurd c_27 (by omega)) (fun c_27 => ?_)
    refine k_iload hC dX12_feed_30 0 rfl ?_
    refine k_iconst hC dX12_feed_32 ?_
    refine k_icmp_ge hC 40 dX12_feed_33 rfl (by omega) (by omega) (fun c_33 => ?_) (fun c_33 => absurd c_33 (by omega))
    refine k_iload hC dX12_feed_40 0 rfl ?_
    refine k_bipush hC dX12_feed_42 (by decide) ?_
    refine k_icmp_ge hC 51 dX12_feed_44 rfl (by omega) (by omega) (fun c_44 => ?_) (fun c_44 => absurd c_44 (by omega))
    refine k_iload hC dX12_feed_51 0 rfl ?_
    refine k_bipush hC dX12_feed_53 (by decide) ?_
    refine k_icmp_ge hC 62 dX12_feed_55 rfl (by omega) (by omega) (fun c_55 => ?_) (fun c_55 => absurd c_55 (by omega))
    refine k_iload hC dX12_feed_62 0 rfl ?_
    refine k_bipush hC dX12_feed_64 (by decide) ?_
    refine k_icmp_ge hC 74 dX12_feed_66 rfl (by omega) (by omega) (fun c_66 => ?_) (fun c_66 => absurd c_66 (by omega))
    refine k_iload hC dX12_feed_74 7 rfl ?_
    refine k_istore hC [(7, vI f), (6, vI 18), (0, .ref (kad G 133)), (1, vI a), (2, vI b), (3, vI d), (4, vI e9), (5, vI f)] dX12_feed_76 (by decide) rfl ?_
    refine k_aload_n hC dX12_feed_78 rfl 2 rfl ?_
    refine k_get hC fd_X12_41 (kl hN (by decide)) hw77 rfl dX12_feed_79 ?_
    refine k_aload_n hC dX12_feed_82 rfl 2 rfl ?_
    refine k_get hC fd_X12_362 (kl hN (by decide)) hw77 rfl dX12_feed_83 ?_
    refine k_topv (vI ((c0 + 18 : Nat) : Int)) rfl ?_
    refine k_iload hC dX12_feed_86 0 rfl ?_
    refine k_bipush hC dX12_feed_88 (by decide) ?_
    refine k_bipush hC dX12_feed_90 (by decide) ?_
    refine k_iload hC dX12_feed_92 1 rfl ?_
    refine k_iconst hC dX12_feed_94 ?_
    refine k_irem hC dX12_feed_95 (by omega) (by omega) ?_
    refine k_topv (vI 2) (congrArg vI (by decide)) ?_
    refine k_imul hC dX12_feed_96 ?_
    refine k_topv (vI 16) (congrArg vI (by decide)) ?_
    refine k_isub hC dX12_feed_97 ?_
    refine k_topv (vI 8) (congrArg vI (by decide)) ?_
    refine k_ishr hC 8 dX12_feed_98 rfl (by decide) (by omega) ?_
    refine k_sipush hC dX12_feed_99 (by decide) ?_
    refine k_iand255 hC dX12_feed_102 ?_
    have h_78 : w77 144 = iA G 700 (kup (kup (bput (bput (bput (bput bt c0 a) (c0 + 4) b) (c0 + 8) d) (c0 + 12) e9) (((c0 + 16 : Nat) : Int)).toNat ((f / 2 ^ 24) % 256)) (((c0 + 17 : Nat) : Int)).toNat ((f / 2 ^ 16) % 256)) := (hf77 144 (by decide)).trans hw75
    refine k_iast hC (kl hN (by decide)) h_78 (by omega) (by decide) dX12_feed_103 (fun w79 hw79 hf79 => ?_)
    refine k_aload_n hC dX12_feed_104 rfl 2 rfl ?_
    refine k_dup hC dX12_feed_105 rfl ?_
    have h_80 : w79 133 = .inr (12, [.ref (kad G 134), .ref (kad G 135), .ref (kad G 136), .ref (kad G 137), vI (u 4), vI 0, vI (u 6), .ref (kad G 138), .ref (kad G 139), .ref (kad G 140), .ref (kad G 141), .ref (kad G 142), vL (u 12), vL (u 13), .ref (kad G 143), vI (u 15), .ref (kad G 144), vI ((c0 + 18 : Nat) : Int), vI (u 18), vI (u 19), vI (u 20), vI (u 21), vI (u 22), vI (u 23), vI (u 24), vI (u 25), .ref (kad G 145), .ref (kad G 146), .ref (kad G 147), vI (u 29)]) := (hf79 133 (by decide)).trans hw77
    refine k_get hC fd_X12_362 (kl hN (by decide)) h_80 rfl dX12_feed_106 ?_
    refine k_topv (vI ((c0 + 18 : Nat) : Int)) rfl ?_
    refine k_iconst hC dX12_feed_109 ?_
    refine k_iadd hC dX12_feed_110 ?_
    refine k_topv (vI ((c0 + 19 : Nat) : Int)) (congrArg vI (by omega)) ?_
    refine k_put hC fd_X12_362 (kl hN (by decide)) h_80 [.ref (kad G 134), .ref (kad G 135), .ref (kad G 136), .ref (kad G 137), vI (u 4), vI 0, vI (u 6), .ref (kad G 138), .ref (kad G 139), .ref (kad G 140), .ref (kad G 141), .ref (kad G 142), vL (u 12), vL (u 13), .ref (kad G 143), vI (u 15), .ref (kad G 144), vI ((c0 + 19 : Nat) : Int), vI (u 18), vI (u 19), vI (u 20), vI (u 21), vI (u 22), vI (u 23), vI (u 24), vI (u 25), .ref (kad G 145), .ref (kad G 146), .ref (kad G 147), vI (u 29)] rfl (Nat.le_of_ble_eq_true rfl) rfl rfl dX12_feed_111 (fun w81 hw81 hf81 => ?_)
    refine k_iinc hC (y := 19) [(6, vI 19), (7, vI f), (0, .ref (kad G 133)), (1, vI a), (2, vI b), (3, vI d), (4, vI e9), (5, vI f)] (j := 1) dX12_feed_114 rfl (by decide) (by decide) rfl ?_
    refine k_goto hC 23 dX12_feed_117 rfl ?_
    refine k_iload hC dX12_feed_23 0 rfl ?_
    refine k_bipush hC dX12_feed_25 (by decide) ?_
    refine k_icmp_ge hC 120 dX12_feed_27 rfl (by omega) (by omega) (fun c_27 => absurd c_27 (by omega)) (fun c_27 => ?_)
    refine k_iload hC dX12_feed_30 0 rfl ?_
    refine k_iconst hC dX12_feed_32 ?_
    refine k_icmp_ge hC 40 dX12_feed_33 rfl (by omega) (by omega) (fun c_33 => ?_) (fun c_33 => absurd c_33 (by omega))
    refine k_iload hC dX12_feed_40 0 rfl ?_
    refine k_bipush hC dX12_feed_42 (by decide) ?_
    refine k_icmp_ge hC 51 dX12_feed_44 rfl (by omega) (by omega) (fun c_44 => ?_) (fun c_44 => absurd c_44 (by omega))
    refine k_iload hC dX12_feed_51 0 rfl ?_
    refine k_bipush hC dX12_feed_53 (by decide) ?_
    refine k_icmp_ge hC 62 dX12_feed_55 rfl (by omega) (by omega) (fun c_55 => ?_) (fun c_55 => absurd c_55 (by omega))
    refine k_iload hC dX12_feed_62 0 rfl ?_
    refine k_bipush hC dX12_feed_64 (by decide) ?_
    refine k_icmp_ge hC 74 dX12_feed_66 rfl (by omega) (by omega) (fun c_66 => ?_) (fun c_66 => absurd c_66 (by omega))
    refine k_iload hC dX12_feed_74 7 rfl ?_
    refine k_istore hC [(7, vI f), (6, vI 19), (0, .ref (kad G 133)), (1, vI a), (2, vI b), (3, vI d), (4, vI e9), (5, vI f)] dX12_feed_76 (by decide) rfl ?_
    refine k_aload_n hC dX12_feed_78 rfl 2 rfl ?_
    refine k_get hC fd_X12_41 (kl hN (by decide)) hw81 rfl dX12_feed_79 ?_
    refine k_aload_n hC dX12_feed_82 rfl 2 rfl ?_
    refine k_get hC fd_X12_362 (kl hN (by decide)) hw81 rfl dX12_feed_83 ?_
    refine k_topv (vI ((c0 + 19 : Nat) : Int)) rfl ?_
    refine k_iload hC dX12_feed_86 0 rfl ?_
    refine k_bipush hC dX12_feed_88 (by decide) ?_
    refine k_bipush hC dX12_feed_90 (by decide) ?_
    refine k_iload hC dX12_feed_92 1 rfl ?_
    refine k_iconst hC dX12_feed_94 ?_
    refine k_irem hC dX12_feed_95 (by omega) (by omega) ?_
    refine k_topv (vI 3) (congrArg vI (by decide)) ?_
    refine k_imul hC dX12_feed_96 ?_
    refine k_topv (vI 24) (congrArg vI (by decide)) ?_
    refine k_isub hC dX12_feed_97 ?_
    refine k_topv (vI 0) (congrArg vI (by decide)) ?_
    refine k_ishr hC 0 dX12_feed_98 rfl (Or.inl rfl) (by omega) ?_
    refine k_topv (vI (f)) (congrArg vI (by omega)) ?_
    refine k_sipush hC dX12_feed_99 (by decide) ?_
    refine k_iand255 hC dX12_feed_102 ?_
    have h_82 : w81 144 = iA G 700 (kup (kup (kup (bput (bput (bput (bput bt c0 a) (c0 + 4) b) (c0 + 8) d) (c0 + 12) e9) (((c0 + 16 : Nat) : Int)).toNat ((f / 2 ^ 24) % 256)) (((c0 + 17 : Nat) : Int)).toNat ((f / 2 ^ 16) % 256)) (((c0 + 18 : Nat) : Int)).toNat ((f / 2 ^ 8) % 256)) := (hf81 144 (by decide)).trans hw79
    refine k_iast hC (kl hN (by decide)) h_82 (by omega) (by decide) dX12_feed_103 (fun w83 hw83 hf83 => ?_)
    have hbp_84 : w83 144 = iA G 700 (bput (bput (bput (bput (bput bt c0 a) (c0 + 4) b) (c0 + 8) d) (c0 + 12) e9) (c0 + 16) f) := hw83.trans ((iA_congr (fun j hj => by simp only [Int.toNat_natCast])).trans bputR_e)
    refine k_aload_n hC dX12_feed_104 rfl 2 rfl ?_
    refine k_dup hC dX12_feed_105 rfl ?_
    have h_85 : w83 133 = .inr (12, [.ref (kad G 134), .ref (kad G 135), .ref (kad G 136), .ref (kad G 137), vI (u 4), vI 0, vI (u 6), .ref (kad G 138), .ref (kad G 139), .ref (kad G 140), .ref (kad G 141), .ref (kad G 142), vL (u 12), vL (u 13), .ref (kad G 143), vI (u 15), .ref (kad G 144), vI ((c0 + 19 : Nat) : Int), vI (u 18), vI (u 19), vI (u 20), vI (u 21), vI (u 22), vI (u 23), vI (u 24), vI (u 25), .ref (kad G 145), .ref (kad G 146), .ref (kad G 147), vI (u 29)]) := (hf83 133 (by decide)).trans hw81
    refine k_get hC fd_X12_362 (kl hN (by decide)) h_85 rfl dX12_feed_106 ?_
    refine k_topv (vI ((c0 + 19 : Nat) : Int)) rfl ?_
    refine k_iconst hC dX12_feed_109 ?_
    refine k_iadd hC dX12_feed_110 ?_
    refine k_topv (vI ((c0 + 20 : Nat) : Int)) (congrArg vI (by omega)) ?_
    refine k_put hC fd_X12_362 (kl hN (by decide)) h_85 [.ref (kad G 134), .ref (kad G 135), .ref (kad G 136), .ref (kad G 137), vI (u 4), vI 0, vI (u 6), .ref (kad G 138), .ref (kad G 139), .ref (kad G 140), .ref (kad G 141), .ref (kad G 142), vL (u 12), vL (u 13), .ref (kad G 143), vI (u 15), .ref (kad G 144), vI ((c0 + 20 : Nat) : Int), vI (u 18), vI (u 19), vI (u 20), vI (u 21), vI (u 22), vI (u 23), vI (u 24), vI (u 25), .ref (kad G 145), .ref (kad G 146), .ref (kad G 147), vI (u 29)] rfl (Nat.le_of_ble_eq_true rfl) rfl rfl dX12_feed_111 (fun w86 hw86 hf86 => ?_)
    refine k_iinc hC (y := 20) [(6, vI 20), (7, vI f), (0, .ref (kad G 133)), (1, vI a), (2, vI b), (3, vI d), (4, vI e9), (5, vI f)] (j := 1) dX12_feed_114 rfl (by decide) (by decide) rfl ?_
    refine k_goto hC 23 dX12_feed_117 rfl ?_
    refine k_iload hC dX12_feed_23 0 rfl ?_
    refine k_bipush hC dX12_feed_25 (by decide) ?_
    refine k_icmp_ge hC 120 dX12_feed_27 rfl (by omega) (by omega) (fun c_27 => ?_) (fun c_27 => absurd c_27 (by omega))
    refine k_aload_n hC dX12_feed_120 rfl 2 rfl ?_
    refine k_get hC fd_X12_362 (kl hN (by decide)) hw86 rfl dX12_feed_121 ?_
    refine k_topv (vI ((c0 + 20 : Nat) : Int)) rfl ?_
    have h_87 : w86 144 = iA G 700 (bput (bput (bput (bput (bput bt c0 a) (c0 + 4) b) (c0 + 8) d) (c0 + 12) e9) (c0 + 16) f) := (hf86 144 (by decide)).trans hbp_84
    subst hQ
    exact k_iret hC hr ⟨by decide, by decide⟩ (⟨congrArg (fun z => some (vI z)) ((if_neg (by omega)).trans (by omega)), rfl, Or.inr ⟨by omega, hw86, h_87, fun j hj => (hf86 j (by omega)).trans ((hf83 j (by omega)).trans ((hf81 j (by omega)).trans ((hf79 j (by omega)).trans ((hf77 j (by omega)).trans ((hf75 j (by omega)).trans ((hf73 j (by omega)).trans ((hf71 j (by omega)).trans ((hf69 j (by omega)).trans ((hf66 j (by omega)).trans ((hf64 j (by omega)).trans ((hf62 j (by omega)).trans ((hf60 j (by omega)).trans ((hf58 j (by omega)).trans ((hf56 j (by omega)).trans ((hf54 j (by omega)).trans ((hf52 j (by omega)).trans ((hf49 j (by omega)).trans ((hf47 j (by omega)).trans ((hf45 j (by omega)).trans ((hf43 j (by omega)).trans ((hf41 j (by omega)).trans ((hf39 j (by omega)).trans ((hf37 j (by omega)).trans ((hf35 j (by omega)).trans ((hf32 j (by omega)).trans ((hf30 j (by omega)).trans ((hf28 j (by omega)).trans ((hf26 j (by omega)).trans ((hf24 j (by omega)).trans ((hf22 j (by omega)).trans ((hf20 j (by omega)).trans ((hf18 j (by omega)).trans ((hf15 j (by omega)).trans ((hf13 j (by omega)).trans ((hf11 j (by omega)).trans ((hf9 j (by omega)).trans ((hf7 j (by omega)).trans ((hf5 j (by omega)).trans ((hf3 j (by omega)).trans (hf1 j (by omega)))))))))))))))))))))))))))))))))))))))))⟩⟩) dX12_feed_124
  · refine k_iconst hC dX12_feed_18 ?_
    subst hQ
    exact k_iret hC hr ⟨by decide, by decide⟩ (⟨congrArg (fun z => some (vI z)) (if_pos (by omega)), rfl, Or.inl ⟨by omega, hw1.trans (mdO_17x h17), fun j hj => hf1 j (by omega)⟩⟩) dX12_feed_19

set_option maxRecDepth 100000 in
set_option maxHeartbeats 4000000 in
theorem c_X12_errorPosition (l : Launch) (hls : l.stackTraces = false) (G : kG) (hN : kN G = 150) (w : Nat → va_E) (fl : va_W) (u : Nat → Int) (hm : w 133 = mdO G u) : KM l G yX12_errorPosition cX12_errorPosition 1 (some (FieldType.int)) 0 0 0 [.ref (kad G 133)] w fl (kMut (vI (u 24)) fl (fun w1 => w1 133 = mdO G (kup u 5 0) ∧ ∀ j, j ≠ 133 → w1 j = w j)) := by
  refine KM_of2 hls (by decide +kernel) rfl (lv0 := [(0, .ref (kad G 133))]) rfl (Nat.le_of_ble_eq_true rfl) (fun p e R s m args below meth c Q hC hr hQ => ?_)
  refine k_aload_n hC dX12_errorPosition_0 rfl 0 rfl ?_
  refine k_iconst hC dX12_errorPosition_1 ?_
  refine k_put hC fd_X12_74 (kl hN (by decide)) hm [.ref (kad G 134), .ref (kad G 135), .ref (kad G 136), .ref (kad G 137), vI (u 4), vI 0, vI (u 6), .ref (kad G 138), .ref (kad G 139), .ref (kad G 140), .ref (kad G 141), .ref (kad G 142), vL (u 12), vL (u 13), .ref (kad G 143), vI (u 15), .ref (kad G 144), vI (u 17), vI (u 18), vI (u 19), vI (u 20), vI (u 21), vI (u 22), vI (u 23), vI (u 24), vI (u 25), .ref (kad G 145), .ref (kad G 146), .ref (kad G 147), vI (u 29)] rfl (Nat.le_of_ble_eq_true rfl) rfl rfl dX12_errorPosition_2 (fun w1 hw1 hf1 => ?_)
  refine k_aload_n hC dX12_errorPosition_5 rfl 0 rfl ?_
  refine k_get hC fd_X12_44 (kl hN (by decide)) hw1 rfl dX12_errorPosition_6 ?_
  refine k_topv (vI (u 24)) rfl ?_
  subst hQ
  exact k_iret hC hr ⟨by decide, by decide⟩ (⟨rfl, rfl, hw1, fun j hj => hf1 j (by omega)⟩) dX12_errorPosition_9

