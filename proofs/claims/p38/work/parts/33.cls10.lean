theorem lgB_t {bt D : Nat → Int} {n : Nat} {a : PS} (h : nhV bt n 0 5000 a ≤ lastM D) : lgB bt n D a = flP 5 (nhP bt n 0 5000 a) := by
  unfold lgB
  by_cases q : (nhP bt n 0 5000 a).1 = 0
  · rw [nhV_0 q] at h; exact selP_1 ⟨q, h⟩
  · rw [selP_0 (fun z => q z.1), flP_e q]
theorem lgB_f {bt D : Nat → Int} {n : Nat} {a : PS} (h : ¬ nhV bt n 0 5000 a ≤ lastM D) : lgB bt n D a = nhP bt n 0 5000 a := by
  unfold lgB
  by_cases q : (nhP bt n 0 5000 a).1 = 0
  · rw [nhV_0 q] at h; exact selP_0 (fun z => h z.2)
  · exact selP_0 (fun z => q z.1)
theorem gE.last {g h : Nat → Int} (e : gE g h) (h1 : 0 ≤ g 1) : lastM g = lastM h := by
  unfold lastM
  rw [e.1 1 (by decide)]
  by_cases q : h 1 = 0
  · rw [if_pos q, if_pos q]
  · rw [if_neg q, if_neg q]
    have := e.1 1 (by decide)
    exact (e.leg (k := (h 1 - 1).toNat) (by omega)).1
theorem last_cp {g h : Nat → Int} : lastM (copyLM g h) = lastM h := by
  unfold lastM
  rw [copyLM_l (by omega)]
  by_cases q : h 1 = 0
  · rw [if_pos q, if_pos q]
  · rw [if_neg q, if_neg q, copyLM_l (by omega)]
set_option maxRecDepth 100000 in
set_option maxHeartbeats 4000000 in
theorem c_X9_readLeg (l : Launch) (hls : l.stackTraces = false) (G : kG) (hN : 133 ≤ kN G) (w : Nat → va_E) (fl : va_W) (bt gp gl nl D : Nat → Int) (n : Nat) (st : PS) (hn7 : n ≤ 700) (hb : btOK bt) (h2 : w 2 = byA G bt) (hT : tkR G w bt n st) (hz : st.1 = 0) (h116 : w 116 = trO G) (hE : gE (copyLM gp gl) D) (hI : Inv D) (hNm : NmR D nl) (hP2 : kPlan G w 117 gp nl) (hL2 : kLog G w 122 gl) : KM l G yX9_readLeg cX9_readLeg 4 (none) 3 0 0 [.ref (kad G 116)] w fl (kMuv fl (fun w1 => (∃ gp1 gl1 nl1 : Nat → Int, kPlan G w1 117 gp1 nl1 ∧ kLog G w1 122 gl1 ∧ ((clLegS bt n D st).1 = 0 → gE (copyLM gp1 gl1) (clLegD bt n D st) ∧ NmR (clLegD bt n D st) nl1)) ∧ tkR G w1 bt n (clLegS bt n D st) ∧ ∀ j, ((j < 117 ∨ 128 < j) ∧ j ≠ 1) → w1 j = w j)) := by
  refine KM_of2 hls (by decide +kernel) rfl (lv0 := [(0, .ref (kad G 116))]) rfl (Nat.le_of_ble_eq_true rfl) (fun p e R s m args below meth c Q hC hr hQ => ?_)
  have h0 := hI.c
  have hd0 : gp 0 = D 0 := hE.1 0 (by decide)
  have hd1 : gl 1 = D 1 := hE.1 1 (by decide)
  have hd2 : gl 2 = D 2 := hE.1 2 (by decide)
  refine k_aload_n hC dX9_readLeg_0 rfl 0 rfl ?_
  refine k_get hC fd_X9_21 (kl hN (by decide)) h116 rfl dX9_readLeg_1 ?_
  refine k_get hC fd_X9_138 (kl hN (by decide)) hL2.1 rfl dX9_readLeg_4 ?_
  refine k_bipush hC dX9_readLeg_7 (by decide) ?_
  refine k_icmp_lt hC 21 dX9_readLeg_9 rfl (by omega) (by omega) (fun c_9 => ?_) (fun c_9 => ?_)
  · refine k_aload_n hC dX9_readLeg_21 rfl 0 rfl ?_
    refine k_get hC fd_X9_25 (kl hN (by decide)) h116 rfl dX9_readLeg_22 ?_
    obtain ⟨cn1, ea1, kd1, nm1, sa1, p91, hp91, h11, hadv1⟩ := tk_open hT
    refine k_muvV hC (c_X10_advance l hls G hN w fl bt n p91 cn1 st.1 ea1 kd1 nm1 sa1 hn7 hp91 hb h2 h11) yy_X10_advance wm_X9_53 (kl hN (by decide)) h11 rfl rfl rfl rfl (Nat.le_of_ble_eq_true rfl) (by decide) (by decide) ⟨by decide, by decide⟩ dX9_readLeg_25 (fun w1 hp1 => ?_)
    obtain ⟨hq1, hf1⟩ := hp1
    have hT1 := hadv1 _ hq1
    obtain ⟨st_2, est_2⟩ : ∃ z : PS, z = adP bt n st := ⟨_, rfl⟩
    rw [← est_2] at hT1
    refine k_aload_n hC dX9_readLeg_28 rfl 0 rfl ?_
    have h_3 : w1 116 = .inr (9, [.ref (kad G 1), .ref (kad G 117), .ref (kad G 122)]) := (hf1 116 (by decide)).trans h116
    refine k_get hC fd_X9_25 (kl hN (by decide)) h_3 rfl dX9_readLeg_29 ?_
    refine k_iconst hC dX9_readLeg_32 ?_
    refine k_sipush hC dX9_readLeg_33 (by decide) ?_
    have hTco_5 := hT1
    obtain ⟨cno_5, eao_5, kdo_5, nmo_5, sao_5, nxo_5, h1o_5, -⟩ := hTco_5
    have h_6 : w1 2 = bA G 700 (fun j => sb8 (bt j)) := (hf1 2 (by decide)).trans h2
    refine k_mutV hC (c_X10_numberHere l hls G hN w1 fl bt n st_2 0 5000 (by omega) (by omega) hn7 hb h_6 hT1) yy_X10_numberHere wm_X9_141 (kl hN (by decide)) h1o_5 rfl rfl rfl rfl (Nat.le_of_ble_eq_true rfl) (by decide) (by decide) ⟨by decide, by decide⟩ dX9_readLeg_36 (fun w4 hp4 => ?_)
    obtain ⟨hT4, hf4⟩ := hp4
    obtain ⟨st_7, est_7⟩ : ∃ z : PS, z = nhP bt n 0 5000 st_2 := ⟨_, rfl⟩
    rw [← est_7] at hT4
    have hnv_8 := nhV_b (bt := bt) (n := n) (lo := 0) (hi := 5000) (st := st_2) (by omega) (by omega)
    refine k_istore_n hC [(1, vI (nhV bt n 0 5000 st_2)), (0, .ref (kad G 116))] dX9_readLeg_39 rfl (by decide) rfl ?_
    refine k_iload_n hC dX9_readLeg_40 rfl 0 rfl ?_
    refine k_aload_n hC dX9_readLeg_41 rfl 1 rfl ?_
    have h_9 : w4 116 = .inr (9, [.ref (kad G 1), .ref (kad G 117), .ref (kad G 122)]) := (hf4 116 (by decide)).trans h_3
    refine k_get hC fd_X9_21 (kl hN (by decide)) h_9 rfl dX9_readLeg_42 ?_
    have hB_10 : kLog G w4 122 gl := hL2.fr (fun j q1 q2 => (hf4 j (by omega)).trans (hf1 j (by omega)))
    have h_11 : w4 122 = .inr (4, [vI (gl 5), vI (gl 6), vI (gl 7), vI (gl 8), vI (gl 1), .ref (kad G 123), .ref (kad G 124), .ref (kad G 125), vI (gl 2), .ref (kad G 126), .ref (kad G 127), .ref (kad G 128)]) := (hf4 122 (by decide)).trans ((hf1 122 (by decide)).trans hL2.1)
    refine k_pureV hC (c_X4_lastLegTime l hls G hN w4 fl 122 gl (by omega) (by omega) hB_10) yy_X4_lastLegTime wm_X9_144 (kl hN (by decide)) h_11 rfl rfl rfl rfl (Nat.le_of_ble_eq_true rfl) (by decide) (by decide) ⟨by decide, by decide⟩ dX9_readLeg_45 ?_
    have hlm : lastM gl = lastM D := last_cp.symm.trans (hE.last (by show 0 ≤ gl 1; omega))
    have hlb := lastM_b hI
    refine k_topv (vI (lastM D)) (congrArg vI (by rw [← hlm]; rfl)) ?_
    refine k_icmp_gt hC 59 dX9_readLeg_48 rfl (by omega) (by omega) (fun c_48 => ?_) (fun c_48 => ?_)
    · refine k_aload_n hC dX9_readLeg_59 rfl 1 rfl ?_
      refine k_get hC fd_X9_25 (kl hN (by decide)) h_9 rfl dX9_readLeg_60 ?_
      obtain ⟨cn12, ea12, kd12, nm12, sa12, p912, hp912, h112, hadv12⟩ := tk_open hT4
      have h_13 : w4 2 = bA G 700 (fun j => sb8 (bt j)) := (hf4 2 (by decide)).trans h_6
      refine k_muvV hC (c_X10_advance l hls G hN w4 fl bt n p912 cn12 st_7.1 ea12 kd12 nm12 sa12 hn7 hp912 hb h_13 h112) yy_X10_advance wm_X9_53 (kl hN (by decide)) h112 rfl rfl rfl rfl (Nat.le_of_ble_eq_true rfl) (by decide) (by decide) ⟨by decide, by decide⟩ dX9_readLeg_63 (fun w12 hp12 => ?_)
      obtain ⟨hq12, hf12⟩ := hp12
      have hT12 := hadv12 _ hq12
      obtain ⟨st_14, est_14⟩ : ∃ z : PS, z = adP bt n st_7 := ⟨_, rfl⟩
      rw [← est_14] at hT12
      refine k_aload_n hC dX9_readLeg_66 rfl 1 rfl ?_
      have h_15 : w12 116 = .inr (9, [.ref (kad G 1), .ref (kad G 117), .ref (kad G 122)]) := (hf12 116 (by decide)).trans h_9
      refine k_get hC fd_X9_25 (kl hN (by decide)) h_15 rfl dX9_readLeg_67 ?_
      refine k_iconst hC dX9_readLeg_70 ?_
      refine k_sipush hC dX9_readLeg_71 (by decide) ?_
      have hTco_17 := hT12
      obtain ⟨cno_17, eao_17, kdo_17, nmo_17, sao_17, nxo_17, h1o_17, -⟩ := hTco_17
      have h_18 : w12 2 = bA G 700 (fun j => sb8 (bt j)) := (hf12 2 (by decide)).trans h_13
      refine k_mutV hC (c_X10_takeNumber l hls G hN w12 fl bt n st_14 0 21599 (by omega) (by omega) hn7 hb h_18 hT12) yy_X10_takeNumber wm_X9_56 (kl hN (by decide)) h1o_17 rfl rfl rfl rfl (Nat.le_of_ble_eq_true rfl) (by decide) (by decide) ⟨by decide, by decide⟩ dX9_readLeg_74 (fun w16 hp16 => ?_)
      obtain ⟨hT16, hf16⟩ := hp16
      obtain ⟨st_19, est_19⟩ : ∃ z : PS, z = tkP bt n 0 21599 st_14 := ⟨_, rfl⟩
      rw [← est_19] at hT16
      have hnv_20 := nhV_b (bt := bt) (n := n) (lo := 0) (hi := 21599) (st := st_14) (by omega) (by omega)
      refine k_istore_n hC [(2, vI (nhV bt n 0 21599 st_14)), (1, vI (nhV bt n 0 5000 st_2)), (0, .ref (kad G 116))] dX9_readLeg_77 rfl (by decide) rfl ?_
      refine k_aload_n hC dX9_readLeg_78 rfl 2 rfl ?_
      have h_21 : w16 116 = .inr (9, [.ref (kad G 1), .ref (kad G 117), .ref (kad G 122)]) := (hf16 116 (by decide)).trans h_15
      refine k_get hC fd_X9_25 (kl hN (by decide)) h_21 rfl dX9_readLeg_79 ?_
      refine k_iconst hC dX9_readLeg_82 ?_
      refine k_sipush hC dX9_readLeg_83 (by decide) ?_
      have hTco_23 := hT16
      obtain ⟨cno_23, eao_23, kdo_23, nmo_23, sao_23, nxo_23, h1o_23, -⟩ := hTco_23
      have h_24 : w16 2 = bA G 700 (fun j => sb8 (bt j)) := (hf16 2 (by decide)).trans h_18
      refine k_mutV hC (c_X10_takeNumber l hls G hN w16 fl bt n st_19 0 400 (by omega) (by omega) hn7 hb h_24 hT16) yy_X10_takeNumber wm_X9_56 (kl hN (by decide)) h1o_23 rfl rfl rfl rfl (Nat.le_of_ble_eq_true rfl) (by decide) (by decide) ⟨by decide, by decide⟩ dX9_readLeg_86 (fun w22 hp22 => ?_)
      obtain ⟨hT22, hf22⟩ := hp22
      obtain ⟨st_25, est_25⟩ : ∃ z : PS, z = tkP bt n 0 400 st_19 := ⟨_, rfl⟩
      rw [← est_25] at hT22
      have hnv_26 := nhV_b (bt := bt) (n := n) (lo := 0) (hi := 400) (st := st_19) (by omega) (by omega)
      refine k_istore_n hC [(3, vI (nhV bt n 0 400 st_19)), (2, vI (nhV bt n 0 21599 st_14)), (1, vI (nhV bt n 0 5000 st_2)), (0, .ref (kad G 116))] dX9_readLeg_89 rfl (by decide) rfl ?_
      refine k_aload_n hC dX9_readLeg_90 rfl 3 rfl ?_
      have h_27 : w22 116 = .inr (9, [.ref (kad G 1), .ref (kad G 117), .ref (kad G 122)]) := (hf22 116 (by decide)).trans h_21
      refine k_get hC fd_X9_21 (kl hN (by decide)) h_27 rfl dX9_readLeg_91 ?_
      refine k_iload_n hC dX9_readLeg_94 rfl 2 rfl ?_
      refine k_iload_n hC dX9_readLeg_95 rfl 1 rfl ?_
      refine k_iload_n hC dX9_readLeg_96 rfl 0 rfl ?_
      have hB_28 : kLog G w22 122 gl := hB_10.fr (fun j q1 q2 => (hf22 j (by omega)).trans ((hf16 j (by omega)).trans (hf12 j (by omega))))
      have h_30 : w22 122 = .inr (4, [vI (gl 5), vI (gl 6), vI (gl 7), vI (gl 8), vI (gl 1), .ref (kad G 123), .ref (kad G 124), .ref (kad G 125), vI (gl 2), .ref (kad G 126), .ref (kad G 127), .ref (kad G 128)]) := (hf22 122 (by decide)).trans ((hf16 122 (by decide)).trans ((hf12 122 (by decide)).trans h_11))
      refine k_muvV hC (c_X4_addLeg l hls G hN w22 fl 122 gl (nhV bt n 0 5000 st_2) (nhV bt n 0 21599 st_14) (nhV bt n 0 400 st_19) (by omega) (by omega) hB_28) yy_X4_addLeg wm_X9_147 (kl hN (by decide)) h_30 rfl rfl rfl rfl (Nat.le_of_ble_eq_true rfl) (by decide) (by decide) ⟨by decide, by decide⟩ dX9_readLeg_97 (fun w29 hp29 => ?_)
      obtain ⟨hl29, hf29⟩ := hp29
      have hB_31 : kPlan G w29 117 gp nl := hP2.fr (fun j q1 q2 => (hf29 j (by omega)).trans ((hf22 j (by omega)).trans ((hf16 j (by omega)).trans ((hf12 j (by omega)).trans ((hf4 j (by omega)).trans (hf1 j (by omega)))))))
      have hB_32 : tkR G w29 bt n st_25 := hT22.fr (fun j q1 q2 => (hf29 j (by omega)))
      subst hQ
      exact k_vret hC hr ⟨by decide, by decide⟩ (⟨rfl, rfl, ⟨gp, (addLegM gl (nhV bt n 0 5000 st_2) (nhV bt n 0 21599 st_14) (nhV bt n 0 400 st_19)), nl, hB_31, hl29, fun hc => by have hq : st_25 = clLegS bt n D st := (by unfold clLegS; rw [selP_0 (by omega), ← est_2]; have hbb : lgB bt n D st_2 = st_7 := (by rw [lgB_f (by omega), ← est_7]); rw [hbb, est_25, est_19, est_14]); rw [← hq] at hc; unfold clLegD; rw [← est_2]; have hbb : lgB bt n D st_2 = st_7 := (by rw [lgB_f (by omega), ← est_7]); have hx1 : st_19.1 = 0 := (by have h := hc; rw [est_25] at h; exact ok2 h); have hx0 : st_7.1 = 0 := (by have h := hx1; rw [est_19] at h; have h2 := ok2 h; rw [est_14] at h2; exact ad_c.mp h2); rw [hbb, ← est_14, ← est_19, ← nhV_t (lo := 0) (hi := 21599) (st := st_14) (by rw [← est_19]; exact hx1), ← nhV_t (lo := 0) (hi := 400) (st := st_19) (by rw [← est_25]; exact hc), ← nhV_0 (lo := 0) (hi := 5000) (st := st_2) (by rw [← est_7]; exact hx0)]; exact ⟨by rw [cp_addLeg]; exact hE.addLeg (by show 0 ≤ gl 1; omega) _ _ _, hNm.hd (fun j hj => by unfold addLegM; rw [if_neg (by omega), if_neg (by omega), if_neg (by omega), if_neg (by omega)]) hI⟩⟩, (by have e : st_25 = clLegS bt n D st := (by unfold clLegS; rw [selP_0 (by omega), ← est_2]; have hbb : lgB bt n D st_2 = st_7 := (by rw [lgB_f (by omega), ← est_7]); rw [hbb, est_25, est_19, est_14]); rw [← e]; exact hB_32), fun j hj => (hf29 j (by omega)).trans ((hf22 j (by omega)).trans ((hf16 j (by omega)).trans ((hf12 j (by omega)).trans ((hf4 j (by omega)).trans (hf1 j (by omega))))))⟩) dX9_readLeg_100
    · refine k_aload_n hC dX9_readLeg_51 rfl 1 rfl ?_
      refine k_get hC fd_X9_25 (kl hN (by decide)) h_9 rfl dX9_readLeg_52 ?_
      refine k_iconst hC dX9_readLeg_55 ?_
      have hTco_34 := hT4
      obtain ⟨cno_34, eao_34, kdo_34, nmo_34, sao_34, nxo_34, h1o_34, -⟩ := hTco_34
      have h_35 : w4 2 = bA G 700 (fun j => sb8 (bt j)) := (hf4 2 (by decide)).trans h_6
      refine k_muvV hC (c_X10_fail l hls G hN w4 fl bt n st_7 5 (by omega) hn7 hb h_35 hT4) yy_X10_fail wm_X9_95 (kl hN (by decide)) h1o_34 rfl rfl rfl rfl (Nat.le_of_ble_eq_true rfl) (by decide) (by decide) ⟨by decide, by decide⟩ dX9_readLeg_56 (fun w33 hp33 => ?_)
      obtain ⟨hT33, hf33⟩ := hp33
      obtain ⟨st_36, est_36⟩ : ∃ z : PS, z = flP 5 st_7 := ⟨_, rfl⟩
      rw [← est_36] at hT33
      refine k_aload_n hC dX9_readLeg_59 rfl 1 rfl ?_
      have h_37 : w33 116 = .inr (9, [.ref (kad G 1), .ref (kad G 117), .ref (kad G 122)]) := (hf33 116 (by decide)).trans h_9
      refine k_get hC fd_X9_25 (kl hN (by decide)) h_37 rfl dX9_readLeg_60 ?_
      obtain ⟨cn38, ea38, kd38, nm38, sa38, p938, hp938, h138, hadv38⟩ := tk_open hT33
      have h_39 : w33 2 = bA G 700 (fun j => sb8 (bt j)) := (hf33 2 (by decide)).trans h_35
      refine k_muvV hC (c_X10_advance l hls G hN w33 fl bt n p938 cn38 st_36.1 ea38 kd38 nm38 sa38 hn7 hp938 hb h_39 h138) yy_X10_advance wm_X9_53 (kl hN (by decide)) h138 rfl rfl rfl rfl (Nat.le_of_ble_eq_true rfl) (by decide) (by decide) ⟨by decide, by decide⟩ dX9_readLeg_63 (fun w38 hp38 => ?_)
      obtain ⟨hq38, hf38⟩ := hp38
      have hT38 := hadv38 _ hq38
      obtain ⟨st_40, est_40⟩ : ∃ z : PS, z = adP bt n st_36 := ⟨_, rfl⟩
      rw [← est_40] at hT38
      refine k_aload_n hC dX9_readLeg_66 rfl 1 rfl ?_
      have h_41 : w38 116 = .inr (9, [.ref (kad G 1), .ref (kad G 117), .ref (kad G 122)]) := (hf38 116 (by decide)).trans h_37
      refine k_get hC fd_X9_25 (kl hN (by decide)) h_41 rfl dX9_readLeg_67 ?_
      refine k_iconst hC dX9_readLeg_70 ?_
      refine k_sipush hC dX9_readLeg_71 (by decide) ?_
      have hTco_43 := hT38
      obtain ⟨cno_43, eao_43, kdo_43, nmo_43, sao_43, nxo_43, h1o_43, -⟩ := hTco_43
      have h_44 : w38 2 = bA G 700 (fun j => sb8 (bt j)) := (hf38 2 (by decide)).trans h_39
      refine k_mutV hC (c_X10_takeNumber l hls G hN w38 fl bt n st_40 0 21599 (by omega) (by omega) hn7 hb h_44 hT38) yy_X10_takeNumber wm_X9_56 (kl hN (by decide)) h1o_43 rfl rfl rfl rfl (Nat.le_of_ble_eq_true rfl) (by decide) (by decide) ⟨by decide, by decide⟩ dX9_readLeg_74 (fun w42 hp42 => ?_)
      obtain ⟨hT42, hf42⟩ := hp42
      obtain ⟨st_45, est_45⟩ : ∃ z : PS, z = tkP bt n 0 21599 st_40 := ⟨_, rfl⟩
      rw [← est_45] at hT42
      have hnv_46 := nhV_b (bt := bt) (n := n) (lo := 0) (hi := 21599) (st := st_40) (by omega) (by omega)
      refine k_istore_n hC [(2, vI (nhV bt n 0 21599 st_40)), (1, vI (nhV bt n 0 5000 st_2)), (0, .ref (kad G 116))] dX9_readLeg_77 rfl (by decide) rfl ?_
      refine k_aload_n hC dX9_readLeg_78 rfl 2 rfl ?_
      have h_47 : w42 116 = .inr (9, [.ref (kad G 1), .ref (kad G 117), .ref (kad G 122)]) := (hf42 116 (by decide)).trans h_41
      refine k_get hC fd_X9_25 (kl hN (by decide)) h_47 rfl dX9_readLeg_79 ?_
      refine k_iconst hC dX9_readLeg_82 ?_
      refine k_sipush hC dX9_readLeg_83 (by decide) ?_
      have hTco_49 := hT42
      obtain ⟨cno_49, eao_49, kdo_49, nmo_49, sao_49, nxo_49, h1o_49, -⟩ := hTco_49
      have h_50 : w42 2 = bA G 700 (fun j => sb8 (bt j)) := (hf42 2 (by decide)).trans h_44
      refine k_mutV hC (c_X10_takeNumber l hls G hN w42 fl bt n st_45 0 400 (by omega) (by omega) hn7 hb h_50 hT42) yy_X10_takeNumber wm_X9_56 (kl hN (by decide)) h1o_49 rfl rfl rfl rfl (Nat.le_of_ble_eq_true rfl) (by decide) (by decide) ⟨by decide, by decide⟩ dX9_readLeg_86 (fun w48 hp48 => ?_)
      obtain ⟨hT48, hf48⟩ := hp48
      obtain ⟨st_51, est_51⟩ : ∃ z : PS, z = tkP bt n 0 400 st_45 := ⟨_, rfl⟩
      rw [← est_51] at hT48
      have hnv_52 := nhV_b (bt := bt) (n := n) (lo := 0) (hi := 400) (st := st_45) (by omega) (by omega)
      refine k_istore_n hC [(3, vI (nhV bt n 0 400 st_45)), (2, vI (nhV bt n 0 21599 st_40)), (1, vI (nhV bt n 0 5000 st_2)), (0, .ref (kad G 116))] dX9_readLeg_89 rfl (by decide) rfl ?_
      refine k_aload_n hC dX9_readLeg_90 rfl 3 rfl ?_
      have h_53 : w48 116 = .inr (9, [.ref (kad G 1), .ref (kad G 117), .ref (kad G 122)]) := (hf48 116 (by decide)).trans h_47
      refine k_get hC fd_X9_21 (kl hN (by decide)) h_53 rfl dX9_readLeg_91 ?_
      refine k_iload_n hC dX9_readLeg_94 rfl 2 rfl ?_
      refine k_iload_n hC dX9_readLeg_95 rfl 1 rfl ?_
      refine k_iload_n hC dX9_readLeg_96 rfl 0 rfl ?_
      have hB_54 : kLog G w48 122 gl := hB_10.fr (fun j q1 q2 => (hf48 j (by omega)).trans ((hf42 j (by omega)).trans ((hf38 j (by omega)).trans (hf33 j (by omega)))))
      have h_56 : w48 122 = .inr (4, [vI (gl 5), vI (gl 6), vI (gl 7), vI (gl 8), vI (gl 1), .ref (kad G 123), .ref (kad G 124), .ref (kad G 125), vI (gl 2), .ref (kad G 126), .ref (kad G 127), .ref (kad G 128)]) := (hf48 122 (by decide)).trans ((hf42 122 (by decide)).trans ((hf38 122 (by decide)).trans ((hf33 122 (by decide)).trans h_11)))
      refine k_muvV hC (c_X4_addLeg l hls G hN w48 fl 122 gl (nhV bt n 0 5000 st_2) (nhV bt n 0 21599 st_40) (nhV bt n 0 400 st_45) (by omega) (by omega) hB_54) yy_X4_addLeg wm_X9_147 (kl hN (by decide)) h_56 rfl rfl rfl rfl (Nat.le_of_ble_eq_true rfl) (by decide) (by decide) ⟨by decide, by decide⟩ dX9_readLeg_97 (fun w55 hp55 => ?_)
      obtain ⟨hl55, hf55⟩ := hp55
      have hB_57 : kPlan G w55 117 gp nl := hP2.fr (fun j q1 q2 => (hf55 j (by omega)).trans ((hf48 j (by omega)).trans ((hf42 j (by omega)).trans ((hf38 j (by omega)).trans ((hf33 j (by omega)).trans ((hf4 j (by omega)).trans (hf1 j (by omega))))))))
      have hB_58 : tkR G w55 bt n st_51 := hT48.fr (fun j q1 q2 => (hf55 j (by omega)))
      subst hQ
      exact k_vret hC hr ⟨by decide, by decide⟩ (⟨rfl, rfl, ⟨gp, (addLegM gl (nhV bt n 0 5000 st_2) (nhV bt n 0 21599 st_40) (nhV bt n 0 400 st_45)), nl, hB_57, hl55, fun hc => absurd hc (by have hq : st_51 = clLegS bt n D st := (by unfold clLegS; rw [selP_0 (by omega), ← est_2]; have hbb : lgB bt n D st_2 = st_36 := (by rw [lgB_t (by omega), ← est_7, est_36]); rw [hbb, est_51, est_45, est_40]); rw [← hq, est_51, est_45, est_40, tkP_e (by rw [tkP_e (by rw [adP_e (by rw [est_36]; exact fl_c (by decide))]; rw [est_36]; exact fl_c (by decide)), adP_e (by rw [est_36]; exact fl_c (by decide)), est_36]; exact fl_c (by decide)), tkP_e (by rw [adP_e (by rw [est_36]; exact fl_c (by decide)), est_36]; exact fl_c (by decide)), adP_e (by rw [est_36]; exact fl_c (by decide)), est_36]; exact fl_c (by decide))⟩, (by have e : st_51 = clLegS bt n D st := (by unfold clLegS; rw [selP_0 (by omega), ← est_2]; have hbb : lgB bt n D st_2 = st_36 := (by rw [lgB_t (by omega), ← est_7, est_36]); rw [hbb, est_51, est_45, est_40]); rw [← e]; exact hB_58), fun j hj => (hf55 j (by omega)).trans ((hf48 j (by omega)).trans ((hf42 j (by omega)).trans ((hf38 j (by omega)).trans ((hf33 j (by omega)).trans ((hf4 j (by omega)).trans (hf1 j (by omega)))))))⟩) dX9_readLeg_100
  · refine k_aload_n hC dX9_readLeg_12 rfl 0 rfl ?_
    refine k_get hC fd_X9_25 (kl hN (by decide)) h116 rfl dX9_readLeg_13 ?_
    refine k_iconst hC dX9_readLeg_16 ?_
    have hTco_60 := hT
    obtain ⟨cno_60, eao_60, kdo_60, nmo_60, sao_60, nxo_60, h1o_60, -⟩ := hTco_60
    refine k_muvV hC (c_X10_fail l hls G hN w fl bt n st 3 (by omega) hn7 hb h2 hT) yy_X10_fail wm_X9_95 (kl hN (by decide)) h1o_60 rfl rfl rfl rfl (Nat.le_of_ble_eq_true rfl) (by decide) (by decide) ⟨by decide, by decide⟩ dX9_readLeg_17 (fun w59 hp59 => ?_)
    obtain ⟨hT59, hf59⟩ := hp59
    obtain ⟨st_61, est_61⟩ : ∃ z : PS, z = flP 3 st := ⟨_, rfl⟩
    rw [← est_61] at hT59
    have hB_62 : kPlan G w59 117 gp nl := hP2.fr (fun j q1 q2 => (hf59 j (by omega)))
    have hB_63 : kLog G w59 122 gl := hL2.fr (fun j q1 q2 => (hf59 j (by omega)))
    subst hQ
    exact k_vret hC hr ⟨by decide, by decide⟩ (⟨rfl, rfl, ⟨gp, gl, nl, hB_62, hB_63, fun hc => absurd hc (by unfold clLegS; rw [selP_1 (by omega)]; exact fl_c (by decide))⟩, (by have e : st_61 = clLegS bt n D st := (by unfold clLegS; rw [selP_1 (by omega), est_61]); rw [← e]; exact hT59), fun j hj => hf59 j (by omega)⟩) dX9_readLeg_20

theorem bd_nm {bt D : Nat → Int} {n : Nat} {st : PS} (h : bdM bt n D st ≠ -1) : isNm bt n st := by
  by_cases q : isNm bt n st
  · exact q
  · unfold bdM at h; rw [selP_0 q] at h; exact absurd rfl h
set_option maxRecDepth 100000 in
set_option maxHeartbeats 4000000 in
theorem c_X9_readSight (l : Launch) (hls : l.stackTraces = false) (G : kG) (hN : 133 ≤ kN G) (w : Nat → va_E) (fl : va_W) (bt gp gl nl D : Nat → Int) (n : Nat) (st : PS) (hn7 : n ≤ 700) (hb : btOK bt) (h2 : w 2 = byA G bt) (hT : tkR G w bt n st) (hz : st.1 = 0) (h116 : w 116 = trO G) (hE : gE (copyLM gp gl) D) (hI : Inv D) (hNm : NmR D nl) (hP2 : kPlan G w 117 gp nl) (hL2 : kLog G w 122 gl) : KM l G yX9_readSight cX9_readSight 4 (none) 4 0 0 [.ref (kad G 116)] w fl (kMuv fl (fun w1 => (∃ gp1 gl1 nl1 : Nat → Int, kPlan G w1 117 gp1 nl1 ∧ kLog G w1 122 gl1 ∧ ((clSightS bt n D st).1 = 0 → gE (copyLM gp1 gl1) (clSightD bt n D st) ∧ NmR (clSightD bt n D st) nl1)) ∧ tkR G w1 bt n (clSightS bt n D st) ∧ ∀ j, ((j < 117 ∨ 128 < j) ∧ j ≠ 1) → w1 j = w j)) := by
  refine KM_of2 hls (by decide +kernel) rfl (lv0 := [(0, .ref (kad G 116))]) rfl (Nat.le_of_ble_eq_true rfl) (fun p e R s m args below meth c Q hC hr hQ => ?_)
  have h0 := hI.c
  have hd0 : gp 0 = D 0 := hE.1 0 (by decide)
  have hd1 : gl 1 = D 1 := hE.1 1 (by decide)
  have hd2 : gl 2 = D 2 := hE.1 2 (by decide)
  refine k_aload_n hC dX9_readSight_0 rfl 0 rfl ?_
  refine k_get hC fd_X9_21 (kl hN (by decide)) h116 rfl dX9_readSight_1 ?_
  refine k_get hC fd_X9_151 (kl hN (by decide)) hL2.1 rfl dX9_readSight_4 ?_
  refine k_bipush hC dX9_readSight_7 (by decide) ?_
  refine k_icmp_lt hC 21 dX9_readSight_9 rfl (by omega) (by omega) (fun c_9 => ?_) (fun c_9 => ?_)
  · refine k_aload_n hC dX9_readSight_21 rfl 0 rfl ?_
    refine k_get hC fd_X9_25 (kl hN (by decide)) h116 rfl dX9_readSight_22 ?_
    obtain ⟨cn1, ea1, kd1, nm1, sa1, p91, hp91, h11, hadv1⟩ := tk_open hT
    refine k_muvV hC (c_X10_advance l hls G hN w fl bt n p91 cn1 st.1 ea1 kd1 nm1 sa1 hn7 hp91 hb h2 h11) yy_X10_advance wm_X9_53 (kl hN (by decide)) h11 rfl rfl rfl rfl (Nat.le_of_ble_eq_true rfl) (by decide) (by decide) ⟨by decide, by decide⟩ dX9_readSight_25 (fun w1 hp1 => ?_)
    obtain ⟨hq1, hf1⟩ := hp1
    have hT1 := hadv1 _ hq1
    obtain ⟨st_2, est_2⟩ : ∃ z : PS, z = adP bt n st := ⟨_, rfl⟩
    rw [← est_2] at hT1
    refine k_aload_n hC dX9_readSight_28 rfl 0 rfl ?_
    have h_3 : w1 116 = .inr (9, [.ref (kad G 1), .ref (kad G 117), .ref (kad G 122)]) := (hf1 116 (by decide)).trans h116
    refine k_get hC fd_X9_12 (kl hN (by decide)) h_3 rfl dX9_readSight_29 ?_
    refine k_aload_n hC dX9_readSight_32 rfl 0 rfl ?_
    refine k_get hC fd_X9_25 (kl hN (by decide)) h_3 rfl dX9_readSight_33 ?_
    have hB_4 : kPlan G w1 117 gp nl := hP2.fr (fun j q1 q2 => (hf1 j (by omega)))
    have h_5 : w1 2 = bA G 700 (fun j => sb8 (bt j)) := (hf1 2 (by decide)).trans h2
    refine k_pureV hC (c_X6_bodyNamed l hls G hN w1 fl bt gp gl nl D n st_2 hn7 hb h_5 hT1 hE hI hNm hB_4) yy_X6_bodyNamed wm_X9_119 (kl hN (by decide)) hB_4.1 rfl rfl rfl rfl (Nat.le_of_ble_eq_true rfl) (by decide) (by decide) ⟨by decide, by decide⟩ dX9_readSight_36 ?_
    have hbm_6 := bdM_b (bt := bt) (n := n) (st := st_2) hI
    refine k_istore_n hC [(1, vI (bdM bt n D st_2)), (0, .ref (kad G 116))] dX9_readSight_39 rfl (by decide) rfl ?_
    refine k_iload_n hC dX9_readSight_40 rfl 0 rfl ?_
    refine k_iconst hC dX9_readSight_41 ?_
    refine k_icmp_ne hC 67 dX9_readSight_42 rfl (by omega) (by omega) (fun c_42 => ?_) (fun c_42 => ?_)
    · refine k_aload_n hC dX9_readSight_67 rfl 1 rfl ?_
      refine k_get hC fd_X9_25 (kl hN (by decide)) h_3 rfl dX9_readSight_68 ?_
      obtain ⟨cn7, ea7, kd7, nm7, sa7, p97, hp97, h17, hadv7⟩ := tk_open hT1
      refine k_muvV hC (c_X10_advance l hls G hN w1 fl bt n p97 cn7 st_2.1 ea7 kd7 nm7 sa7 hn7 hp97 hb h_5 h17) yy_X10_advance wm_X9_53 (kl hN (by decide)) h17 rfl rfl rfl rfl (Nat.le_of_ble_eq_true rfl) (by decide) (by decide) ⟨by decide, by decide⟩ dX9_readSight_71 (fun w7 hp7 => ?_)
      obtain ⟨hq7, hf7⟩ := hp7
      have hT7 := hadv7 _ hq7
      obtain ⟨st_8, est_8⟩ : ∃ z : PS, z = adP bt n st_2 := ⟨_, rfl⟩
      rw [← est_8] at hT7
      refine k_aload_n hC dX9_readSight_74 rfl 1 rfl ?_
      have h_9 : w7 116 = .inr (9, [.ref (kad G 1), .ref (kad G 117), .ref (kad G 122)]) := (hf7 116 (by decide)).trans h_3
      refine k_get hC fd_X9_25 (kl hN (by decide)) h_9 rfl dX9_readSight_75 ?_
      refine k_iconst hC dX9_readSight_78 ?_
      refine k_sipush hC dX9_readSight_79 (by decide) ?_
      have hTco_11 := hT7
      obtain ⟨cno_11, eao_11, kdo_11, nmo_11, sao_11, nxo_11, h1o_11, -⟩ := hTco_11
      have h_12 : w7 2 = bA G 700 (fun j => sb8 (bt j)) := (hf7 2 (by decide)).trans h_5
      refine k_mutV hC (c_X10_takeNumber l hls G hN w7 fl bt n st_8 0 5000 (by omega) (by omega) hn7 hb h_12 hT7) yy_X10_takeNumber wm_X9_56 (kl hN (by decide)) h1o_11 rfl rfl rfl rfl (Nat.le_of_ble_eq_true rfl) (by decide) (by decide) ⟨by decide, by decide⟩ dX9_readSight_82 (fun w10 hp10 => ?_)
      obtain ⟨hT10, hf10⟩ := hp10
      obtain ⟨st_13, est_13⟩ : ∃ z : PS, z = tkP bt n 0 5000 st_8 := ⟨_, rfl⟩
      rw [← est_13] at hT10
      have hnv_14 := nhV_b (bt := bt) (n := n) (lo := 0) (hi := 5000) (st := st_8) (by omega) (by omega)
      refine k_istore_n hC [(2, vI (nhV bt n 0 5000 st_8)), (1, vI (bdM bt n D st_2)), (0, .ref (kad G 116))] dX9_readSight_85 rfl (by decide) rfl ?_
      refine k_aload_n hC dX9_readSight_86 rfl 2 rfl ?_
      have h_15 : w10 116 = .inr (9, [.ref (kad G 1), .ref (kad G 117), .ref (kad G 122)]) := (hf10 116 (by decide)).trans h_9
      refine k_get hC fd_X9_25 (kl hN (by decide)) h_15 rfl dX9_readSight_87 ?_
      refine k_sipush hC dX9_readSight_90 (by decide) ?_
      refine k_sipush hC dX9_readSight_93 (by decide) ?_
      have hTco_17 := hT10
      obtain ⟨cno_17, eao_17, kdo_17, nmo_17, sao_17, nxo_17, h1o_17, -⟩ := hTco_17
      have h_18 : w10 2 = bA G 700 (fun j => sb8 (bt j)) := (hf10 2 (by decide)).trans h_12
      refine k_mutV hC (c_X10_takeNumber l hls G hN w10 fl bt n st_13 300 5100 (by omega) (by omega) hn7 hb h_18 hT10) yy_X10_takeNumber wm_X9_56 (kl hN (by decide)) h1o_17 rfl rfl rfl rfl (Nat.le_of_ble_eq_true rfl) (by decide) (by decide) ⟨by decide, by decide⟩ dX9_readSight_96 (fun w16 hp16 => ?_)
      obtain ⟨hT16, hf16⟩ := hp16
      obtain ⟨st_19, est_19⟩ : ∃ z : PS, z = tkP bt n 300 5100 st_13 := ⟨_, rfl⟩
      rw [← est_19] at hT16
      have hnv_20 := nhV_b (bt := bt) (n := n) (lo := 300) (hi := 5100) (st := st_13) (by omega) (by omega)
      refine k_istore_n hC [(3, vI (nhV bt n 300 5100 st_13)), (2, vI (nhV bt n 0 5000 st_8)), (1, vI (bdM bt n D st_2)), (0, .ref (kad G 116))] dX9_readSight_99 rfl (by decide) rfl ?_
      refine k_aload_n hC dX9_readSight_100 rfl 3 rfl ?_
      have h_21 : w16 116 = .inr (9, [.ref (kad G 1), .ref (kad G 117), .ref (kad G 122)]) := (hf16 116 (by decide)).trans h_15
      refine k_get hC fd_X9_21 (kl hN (by decide)) h_21 rfl dX9_readSight_101 ?_
      refine k_iload_n hC dX9_readSight_104 rfl 2 rfl ?_
      refine k_iload_n hC dX9_readSight_105 rfl 1 rfl ?_
      refine k_iload_n hC dX9_readSight_106 rfl 0 rfl ?_
      have hB_22 : kLog G w16 122 gl := hL2.fr (fun j q1 q2 => (hf16 j (by omega)).trans ((hf10 j (by omega)).trans ((hf7 j (by omega)).trans (hf1 j (by omega)))))
      have h_24 : w16 122 = .inr (4, [vI (gl 5), vI (gl 6), vI (gl 7), vI (gl 8), vI (gl 1), .ref (kad G 123), .ref (kad G 124), .ref (kad G 125), vI (gl 2), .ref (kad G 126), .ref (kad G 127), .ref (kad G 128)]) := (hf16 122 (by decide)).trans ((hf10 122 (by decide)).trans ((hf7 122 (by decide)).trans ((hf1 122 (by decide)).trans hL2.1)))
      refine k_muvV hC (c_X4_addSight l hls G hN w16 fl 122 gl (bdM bt n D st_2) (nhV bt n 0 5000 st_8) (nhV bt n 300 5100 st_13) (by omega) (by omega) hB_22) yy_X4_addSight wm_X9_154 (kl hN (by decide)) h_24 rfl rfl rfl rfl (Nat.le_of_ble_eq_true rfl) (by decide) (by decide) ⟨by decide, by decide⟩ dX9_readSight_107 (fun w23 hp23 => ?_)
      obtain ⟨hl23, hf23⟩ := hp23
      have hB_25 : kPlan G w23 117 gp nl := hB_4.fr (fun j q1 q2 => (hf23 j (by omega)).trans ((hf16 j (by omega)).trans ((hf10 j (by omega)).trans (hf7 j (by omega)))))
      have hB_26 : tkR G w23 bt n st_19 := hT16.fr (fun j q1 q2 => (hf23 j (by omega)))
      subst hQ
      exact k_vret hC hr ⟨by decide, by decide⟩ (⟨rfl, rfl, ⟨gp, (addSightM gl (bdM bt n D st_2) (nhV bt n 0 5000 st_8) (nhV bt n 300 5100 st_13)), nl, hB_25, hl23, fun hc => by have hq : st_19 = clSightS bt n D st := (by unfold clSightS; rw [selP_0 (by omega), ← est_2]; have hbb : sgB bt n D st_2 = st_2 := (by have hnm := bd_nm (bt := bt) (n := n) (D := D) (st := st_2) (by omega); unfold sgB; rw [selP_1 ⟨hnm.1, hnm.2.1⟩, selP_0 (by omega)]); rw [hbb, est_19, est_13, est_8]); rw [← hq] at hc; unfold clSightD; rw [← est_2]; have hbb : sgB bt n D st_2 = st_2 := (by have hnm := bd_nm (bt := bt) (n := n) (D := D) (st := st_2) (by omega); unfold sgB; rw [selP_1 ⟨hnm.1, hnm.2.1⟩, selP_0 (by omega)]); have hx1 : st_13.1 = 0 := (by have h := hc; rw [est_19] at h; exact ok2 h); rw [hbb, ← est_8, ← est_13, ← nhV_t (lo := 0) (hi := 5000) (st := st_8) (by rw [← est_13]; exact hx1), ← nhV_t (lo := 300) (hi := 5100) (st := st_13) (by rw [← est_19]; exact hc)]; exact ⟨by rw [cp_addSight]; exact hE.addSight (by show 0 ≤ gl 2; omega) _ _ _, hNm.hd (fun j hj => by unfold addSightM; rw [if_neg (by omega), if_neg (by omega), if_neg (by omega), if_neg (by omega)]) hI⟩⟩, (by have e : st_19 = clSightS bt n D st := (by unfold clSightS; rw [selP_0 (by omega), ← est_2]; have hbb : sgB bt n D st_2 = st_2 := (by have hnm := bd_nm (bt := bt) (n := n) (D := D) (st := st_2) (by omega); unfold sgB; rw [selP_1 ⟨hnm.1, hnm.2.1⟩, selP_0 (by omega)]); rw [hbb, est_19, est_13, est_8]); rw [← e]; exact hB_26), fun j hj => (hf23 j (by omega)).trans ((hf16 j (by omega)).trans ((hf10 j (by omega)).trans ((hf7 j (by omega)).trans (hf1 j (by omega)))))⟩) dX9_readSight_110
    · refine k_aload_n hC dX9_readSight_45 rfl 1 rfl ?_
      refine k_get hC fd_X9_25 (kl hN (by decide)) h_3 rfl dX9_readSight_46 ?_
      refine k_aload_n hC dX9_readSight_49 rfl 1 rfl ?_
      refine k_get hC fd_X9_25 (kl hN (by decide)) h_3 rfl dX9_readSight_50 ?_
      have hTco_27 := hT1
      obtain ⟨cno_27, eao_27, kdo_27, nmo_27, sao_27, nxo_27, h1o_27, -⟩ := hTco_27
      refine k_pureV hC (c_X10_isAnyWord l hls G hN w1 fl bt n st_2  hn7 hb h_5 hT1) yy_X10_isAnyWord wm_X9_112 (kl hN (by decide)) h1o_27 rfl rfl rfl rfl (Nat.le_of_ble_eq_true rfl) (by decide) (by decide) ⟨by decide, by decide⟩ dX9_readSight_53 ?_
      obtain ⟨z_28, ez_28, hz_28⟩ := selI_c (st_2.1 = 0 ∧ kdM bt n st_2.2.2 = 1)
      refine k_topv (vI z_28) (by rw [ez_28]) ?_
      refine k_if_eq hC 63 dX9_readSight_56 rfl (by omega) (fun c_56 => ?_) (fun c_56 => ?_)
      · refine k_iconst hC dX9_readSight_63 ?_
        refine k_muvV hC (c_X10_fail l hls G hN w1 fl bt n st_2 1 (by omega) hn7 hb h_5 hT1) yy_X10_fail wm_X9_95 (kl hN (by decide)) h1o_27 rfl rfl rfl rfl (Nat.le_of_ble_eq_true rfl) (by decide) (by decide) ⟨by decide, by decide⟩ dX9_readSight_64 (fun w29 hp29 => ?_)
        obtain ⟨hT29, hf29⟩ := hp29
        obtain ⟨st_30, est_30⟩ : ∃ z : PS, z = flP 1 st_2 := ⟨_, rfl⟩
        rw [← est_30] at hT29
        refine k_aload_n hC dX9_readSight_67 rfl 1 rfl ?_
        have h_31 : w29 116 = .inr (9, [.ref (kad G 1), .ref (kad G 117), .ref (kad G 122)]) := (hf29 116 (by decide)).trans h_3
        refine k_get hC fd_X9_25 (kl hN (by decide)) h_31 rfl dX9_readSight_68 ?_
        obtain ⟨cn32, ea32, kd32, nm32, sa32, p932, hp932, h132, hadv32⟩ := tk_open hT29
        have h_33 : w29 2 = bA G 700 (fun j => sb8 (bt j)) := (hf29 2 (by decide)).trans h_5
        refine k_muvV hC (c_X10_advance l hls G hN w29 fl bt n p932 cn32 st_30.1 ea32 kd32 nm32 sa32 hn7 hp932 hb h_33 h132) yy_X10_advance wm_X9_53 (kl hN (by decide)) h132 rfl rfl rfl rfl (Nat.le_of_ble_eq_true rfl) (by decide) (by decide) ⟨by decide, by decide⟩ dX9_readSight_71 (fun w32 hp32 => ?_)
        obtain ⟨hq32, hf32⟩ := hp32
        have hT32 := hadv32 _ hq32
        obtain ⟨st_34, est_34⟩ : ∃ z : PS, z = adP bt n st_30 := ⟨_, rfl⟩
        rw [← est_34] at hT32
        refine k_aload_n hC dX9_readSight_74 rfl 1 rfl ?_
        have h_35 : w32 116 = .inr (9, [.ref (kad G 1), .ref (kad G 117), .ref (kad G 122)]) := (hf32 116 (by decide)).trans h_31
        refine k_get hC fd_X9_25 (kl hN (by decide)) h_35 rfl dX9_readSight_75 ?_
        refine k_iconst hC dX9_readSight_78 ?_
        refine k_sipush hC dX9_readSight_79 (by decide) ?_
        have hTco_37 := hT32
        obtain ⟨cno_37, eao_37, kdo_37, nmo_37, sao_37, nxo_37, h1o_37, -⟩ := hTco_37
        have h_38 : w32 2 = bA G 700 (fun j => sb8 (bt j)) := (hf32 2 (by decide)).trans h_33
        refine k_mutV hC (c_X10_takeNumber l hls G hN w32 fl bt n st_34 0 5000 (by omega) (by omega) hn7 hb h_38 hT32) yy_X10_takeNumber wm_X9_56 (kl hN (by decide)) h1o_37 rfl rfl rfl rfl (Nat.le_of_ble_eq_true rfl) (by decide) (by decide) ⟨by decide, by decide⟩ dX9_readSight_82 (fun w36 hp36 => ?_)
        obtain ⟨hT36, hf36⟩ := hp36
        obtain ⟨st_39, est_39⟩ : ∃ z : PS, z = tkP bt n 0 5000 st_34 := ⟨_, rfl⟩
        rw [← est_39] at hT36
        have hnv_40 := nhV_b (bt := bt) (n := n) (lo := 0) (hi := 5000) (st := st_34) (by omega) (by omega)
        refine k_istore_n hC [(2, vI (nhV bt n 0 5000 st_34)), (1, vI (bdM bt n D st_2)), (0, .ref (kad G 116))] dX9_readSight_85 rfl (by decide) rfl ?_
        refine k_aload_n hC dX9_readSight_86 rfl 2 rfl ?_
        have h_41 : w36 116 = .inr (9, [.ref (kad G 1), .ref (kad G 117), .ref (kad G 122)]) := (hf36 116 (by decide)).trans h_35
        refine k_get hC fd_X9_25 (kl hN (by decide)) h_41 rfl dX9_readSight_87 ?_
        refine k_sipush hC dX9_readSight_90 (by decide) ?_
        refine k_sipush hC dX9_readSight_93 (by decide) ?_
        have hTco_43 := hT36
        obtain ⟨cno_43, eao_43, kdo_43, nmo_43, sao_43, nxo_43, h1o_43, -⟩ := hTco_43
        have h_44 : w36 2 = bA G 700 (fun j => sb8 (bt j)) := (hf36 2 (by decide)).trans h_38
        refine k_mutV hC (c_X10_takeNumber l hls G hN w36 fl bt n st_39 300 5100 (by omega) (by omega) hn7 hb h_44 hT36) yy_X10_takeNumber wm_X9_56 (kl hN (by decide)) h1o_43 rfl rfl rfl rfl (Nat.le_of_ble_eq_true rfl) (by decide) (by decide) ⟨by decide, by decide⟩ dX9_readSight_96 (fun w42 hp42 => ?_)
        obtain ⟨hT42, hf42⟩ := hp42
        obtain ⟨st_45, est_45⟩ : ∃ z : PS, z = tkP bt n 300 5100 st_39 := ⟨_, rfl⟩
        rw [← est_45] at hT42
        have hnv_46 := nhV_b (bt := bt) (n := n) (lo := 300) (hi := 5100) (st := st_39) (by omega) (by omega)
        refine k_istore_n hC [(3, vI (nhV bt n 300 5100 st_39)), (2, vI (nhV bt n 0 5000 st_34)), (1, vI (bdM bt n D st_2)), (0, .ref (kad G 116))] dX9_readSight_99 rfl (by decide) rfl ?_
        refine k_aload_n hC dX9_readSight_100 rfl 3 rfl ?_
        have h_47 : w42 116 = .inr (9, [.ref (kad G 1), .ref (kad G 117), .ref (kad G 122)]) := (hf42 116 (by decide)).trans h_41
        refine k_get hC fd_X9_21 (kl hN (by decide)) h_47 rfl dX9_readSight_101 ?_
        refine k_iload_n hC dX9_readSight_104 rfl 2 rfl ?_
        refine k_iload_n hC dX9_readSight_105 rfl 1 rfl ?_
        refine k_iload_n hC dX9_readSight_106 rfl 0 rfl ?_
        have hB_48 : kLog G w42 122 gl := hL2.fr (fun j q1 q2 => (hf42 j (by omega)).trans ((hf36 j (by omega)).trans ((hf32 j (by omega)).trans ((hf29 j (by omega)).trans (hf1 j (by omega))))))
        have h_50 : w42 122 = .inr (4, [vI (gl 5), vI (gl 6), vI (gl 7), vI (gl 8), vI (gl 1), .ref (kad G 123), .ref (kad G 124), .ref (kad G 125), vI (gl 2), .ref (kad G 126), .ref (kad G 127), .ref (kad G 128)]) := (hf42 122 (by decide)).trans ((hf36 122 (by decide)).trans ((hf32 122 (by decide)).trans ((hf29 122 (by decide)).trans ((hf1 122 (by decide)).trans hL2.1))))
        refine k_muvV hC (c_X4_addSight l hls G hN w42 fl 122 gl (bdM bt n D st_2) (nhV bt n 0 5000 st_34) (nhV bt n 300 5100 st_39) (by omega) (by omega) hB_48) yy_X4_addSight wm_X9_154 (kl hN (by decide)) h_50 rfl rfl rfl rfl (Nat.le_of_ble_eq_true rfl) (by decide) (by decide) ⟨by decide, by decide⟩ dX9_readSight_107 (fun w49 hp49 => ?_)
        obtain ⟨hl49, hf49⟩ := hp49
        have hB_51 : kPlan G w49 117 gp nl := hB_4.fr (fun j q1 q2 => (hf49 j (by omega)).trans ((hf42 j (by omega)).trans ((hf36 j (by omega)).trans ((hf32 j (by omega)).trans (hf29 j (by omega))))))
        have hB_52 : tkR G w49 bt n st_45 := hT42.fr (fun j q1 q2 => (hf49 j (by omega)))
        subst hQ
        exact k_vret hC hr ⟨by decide, by decide⟩ (⟨rfl, rfl, ⟨gp, (addSightM gl (bdM bt n D st_2) (nhV bt n 0 5000 st_34) (nhV bt n 300 5100 st_39)), nl, hB_51, hl49, fun hc => absurd hc (by have hq : st_45 = clSightS bt n D st := (by unfold clSightS; rw [selP_0 (by omega), ← est_2]; have hbb : sgB bt n D st_2 = st_30 := (by rw [est_30]; unfold sgB; rw [selP_0 (hz_28.resolve_left (fun q1 => by omega)).2]); rw [hbb, est_45, est_39, est_34]); rw [← hq, est_45, est_39, est_34, tkP_e (by rw [tkP_e (by rw [adP_e (by rw [est_30]; exact fl_c (by decide))]; rw [est_30]; exact fl_c (by decide)), adP_e (by rw [est_30]; exact fl_c (by decide)), est_30]; exact fl_c (by decide)), tkP_e (by rw [adP_e (by rw [est_30]; exact fl_c (by decide)), est_30]; exact fl_c (by decide)), adP_e (by rw [est_30]; exact fl_c (by decide)), est_30]; exact fl_c (by decide))⟩, (by have e : st_45 = clSightS bt n D st := (by unfold clSightS; rw [selP_0 (by omega), ← est_2]; have hbb : sgB bt n D st_2 = st_30 := (by rw [est_30]; unfold sgB; rw [selP_0 (hz_28.resolve_left (fun q1 => by omega)).2]); rw [hbb, est_45, est_39, est_34]); rw [← e]; exact hB_52), fun j hj => (hf49 j (by omega)).trans ((hf42 j (by omega)).trans ((hf36 j (by omega)).trans ((hf32 j (by omega)).trans ((hf29 j (by omega)).trans (hf1 j (by omega))))))⟩) dX9_readSight_110
      · refine k_iconst hC dX9_readSight_59 ?_
        refine k_goto hC 64 dX9_readSight_60 rfl ?_
        refine k_muvV hC (c_X10_fail l hls G hN w1 fl bt n st_2 4 (by omega) hn7 hb h_5 hT1) yy_X10_fail wm_X9_95 (kl hN (by decide)) h1o_27 rfl rfl rfl rfl (Nat.le_of_ble_eq_true rfl) (by decide) (by decide) ⟨by decide, by decide⟩ dX9_readSight_64 (fun w53 hp53 => ?_)
        obtain ⟨hT53, hf53⟩ := hp53
        obtain ⟨st_54, est_54⟩ : ∃ z : PS, z = flP 4 st_2 := ⟨_, rfl⟩
        rw [← est_54] at hT53
        refine k_aload_n hC dX9_readSight_67 rfl 1 rfl ?_
        have h_55 : w53 116 = .inr (9, [.ref (kad G 1), .ref (kad G 117), .ref (kad G 122)]) := (hf53 116 (by decide)).trans h_3
        refine k_get hC fd_X9_25 (kl hN (by decide)) h_55 rfl dX9_readSight_68 ?_
        obtain ⟨cn56, ea56, kd56, nm56, sa56, p956, hp956, h156, hadv56⟩ := tk_open hT53
        have h_57 : w53 2 = bA G 700 (fun j => sb8 (bt j)) := (hf53 2 (by decide)).trans h_5
        refine k_muvV hC (c_X10_advance l hls G hN w53 fl bt n p956 cn56 st_54.1 ea56 kd56 nm56 sa56 hn7 hp956 hb h_57 h156) yy_X10_advance wm_X9_53 (kl hN (by decide)) h156 rfl rfl rfl rfl (Nat.le_of_ble_eq_true rfl) (by decide) (by decide) ⟨by decide, by decide⟩ dX9_readSight_71 (fun w56 hp56 => ?_)
        obtain ⟨hq56, hf56⟩ := hp56
        have hT56 := hadv56 _ hq56
        obtain ⟨st_58, est_58⟩ : ∃ z : PS, z = adP bt n st_54 := ⟨_, rfl⟩
        rw [← est_58] at hT56
        refine k_aload_n hC dX9_readSight_74 rfl 1 rfl ?_
        have h_59 : w56 116 = .inr (9, [.ref (kad G 1), .ref (kad G 117), .ref (kad G 122)]) := (hf56 116 (by decide)).trans h_55
        refine k_get hC fd_X9_25 (kl hN (by decide)) h_59 rfl dX9_readSight_75 ?_
        refine k_iconst hC dX9_readSight_78 ?_
        refine k_sipush hC dX9_readSight_79 (by decide) ?_
        have hTco_61 := hT56
        obtain ⟨cno_61, eao_61, kdo_61, nmo_61, sao_61, nxo_61, h1o_61, -⟩ := hTco_61
        have h_62 : w56 2 = bA G 700 (fun j => sb8 (bt j)) := (hf56 2 (by decide)).trans h_57
        refine k_mutV hC (c_X10_takeNumber l hls G hN w56 fl bt n st_58 0 5000 (by omega) (by omega) hn7 hb h_62 hT56) yy_X10_takeNumber wm_X9_56 (kl hN (by decide)) h1o_61 rfl rfl rfl rfl (Nat.le_of_ble_eq_true rfl) (by decide) (by decide) ⟨by decide, by decide⟩ dX9_readSight_82 (fun w60 hp60 => ?_)
        obtain ⟨hT60, hf60⟩ := hp60
        obtain ⟨st_63, est_63⟩ : ∃ z : PS, z = tkP bt n 0 5000 st_58 := ⟨_, rfl⟩
        rw [← est_63] at hT60
        have hnv_64 := nhV_b (bt := bt) (n := n) (lo := 0) (hi := 5000) (st := st_58) (by omega) (by omega)
        refine k_istore_n hC [(2, vI (nhV bt n 0 5000 st_58)), (1, vI (bdM bt n D st_2)), (0, .ref (kad G 116))] dX9_readSight_85 rfl (by decide) rfl ?_
        refine k_aload_n hC dX9_readSight_86 rfl 2 rfl ?_
        have h_65 : w60 116 = .inr (9, [.ref (kad G 1), .ref (kad G 117), .ref (kad G 122)]) := (hf60 116 (by decide)).trans h_59
        refine k_get hC fd_X9_25 (kl hN (by decide)) h_65 rfl dX9_readSight_87 ?_
        refine k_sipush hC dX9_readSight_90 (by decide) ?_
        refine k_sipush hC dX9_readSight_93 (by decide) ?_
        have hTco_67 := hT60
        obtain ⟨cno_67, eao_67, kdo_67, nmo_67, sao_67, nxo_67, h1o_67, -⟩ := hTco_67
        have h_68 : w60 2 = bA G 700 (fun j => sb8 (bt j)) := (hf60 2 (by decide)).trans h_62
        refine k_mutV hC (c_X10_takeNumber l hls G hN w60 fl bt n st_63 300 5100 (by omega) (by omega) hn7 hb h_68 hT60) yy_X10_takeNumber wm_X9_56 (kl hN (by decide)) h1o_67 rfl rfl rfl rfl (Nat.le_of_ble_eq_true rfl) (by decide) (by decide) ⟨by decide, by decide⟩ dX9_readSight_96 (fun w66 hp66 => ?_)
        obtain ⟨hT66, hf66⟩ := hp66
        obtain ⟨st_69, est_69⟩ : ∃ z : PS, z = tkP bt n 300 5100 st_63 := ⟨_, rfl⟩
        rw [← est_69] at hT66
        have hnv_70 := nhV_b (bt := bt) (n := n) (lo := 300) (hi := 5100) (st := st_63) (by omega) (by omega)
        refine k_istore_n hC [(3, vI (nhV bt n 300 5100 st_63)), (2, vI (nhV bt n 0 5000 st_58)), (1, vI (bdM bt n D st_2)), (0, .ref (kad G 116))] dX9_readSight_99 rfl (by decide) rfl ?_
        refine k_aload_n hC dX9_readSight_100 rfl 3 rfl ?_
        have h_71 : w66 116 = .inr (9, [.ref (kad G 1), .ref (kad G 117), .ref (kad G 122)]) := (hf66 116 (by decide)).trans h_65
        refine k_get hC fd_X9_21 (kl hN (by decide)) h_71 rfl dX9_readSight_101 ?_
        refine k_iload_n hC dX9_readSight_104 rfl 2 rfl ?_
        refine k_iload_n hC dX9_readSight_105 rfl 1 rfl ?_
        refine k_iload_n hC dX9_readSight_106 rfl 0 rfl ?_
        have hB_72 : kLog G w66 122 gl := hL2.fr (fun j q1 q2 => (hf66 j (by omega)).trans ((hf60 j (by omega)).trans ((hf56 j (by omega)).trans ((hf53 j (by omega)).trans (hf1 j (by omega))))))
        have h_74 : w66 122 = .inr (4, [vI (gl 5), vI (gl 6), vI (gl 7), vI (gl 8), vI (gl 1), .ref (kad G 123), .ref (kad G 124), .ref (kad G 125), vI (gl 2), .ref (kad G 126), .ref (kad G 127), .ref (kad G 128)]) := (hf66 122 (by decide)).trans ((hf60 122 (by decide)).trans ((hf56 122 (by decide)).trans ((hf53 122 (by decide)).trans ((hf1 122 (by decide)).trans hL2.1))))
        refine k_muvV hC (c_X4_addSight l hls G hN w66 fl 122 gl (bdM bt n D st_2) (nhV bt n 0 5000 st_58) (nhV bt n 300 5100 st_63) (by omega) (by omega) hB_72) yy_X4_addSight wm_X9_154 (kl hN (by decide)) h_74 rfl rfl rfl rfl (Nat.le_of_ble_eq_true rfl) (by decide) (by decide) ⟨by decide, by decide⟩ dX9_readSight_107 (fun w73 hp73 => ?_)
        obtain ⟨hl73, hf73⟩ := hp73
        have hB_75 : kPlan G w73 117 gp nl := hB_4.fr (fun j q1 q2 => (hf73 j (by omega)).trans ((hf66 j (by omega)).trans ((hf60 j (by omega)).trans ((hf56 j (by omega)).trans (hf53 j (by omega))))))
        have hB_76 : tkR G w73 bt n st_69 := hT66.fr (fun j q1 q2 => (hf73 j (by omega)))
        subst hQ
        exact k_vret hC hr ⟨by decide, by decide⟩ (⟨rfl, rfl, ⟨gp, (addSightM gl (bdM bt n D st_2) (nhV bt n 0 5000 st_58) (nhV bt n 300 5100 st_63)), nl, hB_75, hl73, fun hc => absurd hc (by have hq : st_69 = clSightS bt n D st := (by unfold clSightS; rw [selP_0 (by omega), ← est_2]; have hbb : sgB bt n D st_2 = st_54 := (by rw [est_54]; unfold sgB; rw [selP_1 (hz_28.resolve_right (fun q1 => by omega)).2, selP_1 (by omega)]); rw [hbb, est_69, est_63, est_58]); rw [← hq, est_69, est_63, est_58, tkP_e (by rw [tkP_e (by rw [adP_e (by rw [est_54]; exact fl_c (by decide))]; rw [est_54]; exact fl_c (by decide)), adP_e (by rw [est_54]; exact fl_c (by decide)), est_54]; exact fl_c (by decide)), tkP_e (by rw [adP_e (by rw [est_54]; exact fl_c (by decide)), est_54]; exact fl_c (by decide)), adP_e (by rw [est_54]; exact fl_c (by decide)), est_54]; exact fl_c (by decide))⟩, (by have e : st_69 = clSightS bt n D st := (by unfold clSightS; rw [selP_0 (by omega), ← est_2]; have hbb : sgB bt n D st_2 = st_54 := (by rw [est_54]; unfold sgB; rw [selP_1 (hz_28.resolve_right (fun q1 => by omega)).2, selP_1 (by omega)]); rw [hbb, est_69, est_63, est_58]); rw [← e]; exact hB_76), fun j hj => (hf73 j (by omega)).trans ((hf66 j (by omega)).trans ((hf60 j (by omega)).trans ((hf56 j (by omega)).trans ((hf53 j (by omega)).trans (hf1 j (by omega))))))⟩) dX9_readSight_110
  · refine k_aload_n hC dX9_readSight_12 rfl 0 rfl ?_
    refine k_get hC fd_X9_25 (kl hN (by decide)) h116 rfl dX9_readSight_13 ?_
    refine k_iconst hC dX9_readSight_16 ?_
    have hTco_78 := hT
    obtain ⟨cno_78, eao_78, kdo_78, nmo_78, sao_78, nxo_78, h1o_78, -⟩ := hTco_78
    refine k_muvV hC (c_X10_fail l hls G hN w fl bt n st 3 (by omega) hn7 hb h2 hT) yy_X10_fail wm_X9_95 (kl hN (by decide)) h1o_78 rfl rfl rfl rfl (Nat.le_of_ble_eq_true rfl) (by decide) (by decide) ⟨by decide, by decide⟩ dX9_readSight_17 (fun w77 hp77 => ?_)
    obtain ⟨hT77, hf77⟩ := hp77
    obtain ⟨st_79, est_79⟩ : ∃ z : PS, z = flP 3 st := ⟨_, rfl⟩
    rw [← est_79] at hT77
    have hB_80 : kPlan G w77 117 gp nl := hP2.fr (fun j q1 q2 => (hf77 j (by omega)))
    have hB_81 : kLog G w77 122 gl := hL2.fr (fun j q1 q2 => (hf77 j (by omega)))
    subst hQ
    exact k_vret hC hr ⟨by decide, by decide⟩ (⟨rfl, rfl, ⟨gp, gl, nl, hB_80, hB_81, fun hc => absurd hc (by unfold clSightS; rw [selP_1 (by omega)]; exact fl_c (by decide))⟩, (by have e : st_79 = clSightS bt n D st := (by unfold clSightS; rw [selP_1 (by omega), est_79]); rw [← e]; exact hT77), fun j hj => hf77 j (by omega)⟩) dX9_readSight_20

set_option maxRecDepth 100000 in
set_option maxHeartbeats 4000000 in
theorem c_X9_readClause (l : Launch) (hls : l.stackTraces = false) (G : kG) (hN : 133 ≤ kN G) (w : Nat → va_E) (fl : va_W) (bt gp gl nl D : Nat → Int) (n : Nat) (st : PS) (hn7 : n ≤ 700) (hb : btOK bt) (h2 : w 2 = byA G bt) (hT : tkR G w bt n st) (hz : st.1 = 0) (h116 : w 116 = trO G) (hE : gE (copyLM gp gl) D) (hI : Inv D) (hNm : NmR D nl) (hP2 : kPlan G w 117 gp nl) (hL2 : kLog G w 122 gl) : KM l G yX9_readClause cX9_readClause 1 (none) 5 0 0 [.ref (kad G 116)] w fl (kMuv fl (fun w1 => (∃ gp1 gl1 nl1 : Nat → Int, kPlan G w1 117 gp1 nl1 ∧ kLog G w1 122 gl1 ∧ ((clS bt n D st).1 = 0 → gE (copyLM gp1 gl1) (clD bt n D st) ∧ NmR (clD bt n D st) nl1)) ∧ tkR G w1 bt n (clS bt n D st) ∧ ∀ j, ((j < 117 ∨ 128 < j) ∧ j ≠ 1) → w1 j = w j)) := by
  refine KM_of2 hls (by decide +kernel) rfl (lv0 := [(0, .ref (kad G 116))]) rfl (Nat.le_of_ble_eq_true rfl) (fun p e R s m args below meth c Q hC hr hQ => ?_)
  have h0 := hI.c
  have hd0 : gp 0 = D 0 := hE.1 0 (by decide)
  have hd1 : gl 1 = D 1 := hE.1 1 (by decide)
  have hd2 : gl 2 = D 2 := hE.1 2 (by decide)
  refine k_aload_n hC dX9_readClause_0 rfl 0 rfl ?_
  refine k_get hC fd_X9_25 (kl hN (by decide)) h116 rfl dX9_readClause_1 ?_
  refine k_ldcs hC (List.mem_of_getElem? (i := 1) rfl) dX9_readClause_4 ?_
  have hTco_1 := hT
  obtain ⟨cno_1, eao_1, kdo_1, nmo_1, sao_1, nxo_1, h1o_1, -⟩ := hTco_1
  refine k_pureV hC (c_X10_isWord l hls G hN w fl bt n st 1 (by decide) hn7 hb h2 hT) yy_X10_isWord wm_X9_44 (kl hN (by decide)) h1o_1 rfl rfl rfl rfl (Nat.le_of_ble_eq_true rfl) (by decide) (by decide) ⟨by decide, by decide⟩ dX9_readClause_6 ?_
  obtain ⟨z_2, ez_2, hz_2⟩ := selI_c (isW bt n 1 st)
  refine k_topv (vI z_2) (by rw [ez_2]) ?_
  refine k_if_eq hC 19 dX9_readClause_9 rfl (by omega) (fun c_9 => ?_) (fun c_9 => ?_)
  · refine k_aload_n hC dX9_readClause_19 rfl 0 rfl ?_
    refine k_get hC fd_X9_25 (kl hN (by decide)) h116 rfl dX9_readClause_20 ?_
    refine k_ldcs hC (List.mem_of_getElem? (i := 2) rfl) dX9_readClause_23 ?_
    refine k_pureV hC (c_X10_isWord l hls G hN w fl bt n st 2 (by decide) hn7 hb h2 hT) yy_X10_isWord wm_X9_44 (kl hN (by decide)) h1o_1 rfl rfl rfl rfl (Nat.le_of_ble_eq_true rfl) (by decide) (by decide) ⟨by decide, by decide⟩ dX9_readClause_25 ?_
    obtain ⟨z_3, ez_3, hz_3⟩ := selI_c (isW bt n 2 st)
    refine k_topv (vI z_3) (by rw [ez_3]) ?_
    refine k_if_eq hC 58 dX9_readClause_28 rfl (by omega) (fun c_28 => ?_) (fun c_28 => ?_)
    · refine k_aload_n hC dX9_readClause_58 rfl 0 rfl ?_
      refine k_get hC fd_X9_25 (kl hN (by decide)) h116 rfl dX9_readClause_59 ?_
      refine k_ldcs hC (List.mem_of_getElem? (i := 3) rfl) dX9_readClause_62 ?_
      refine k_pureV hC (c_X10_isWord l hls G hN w fl bt n st 3 (by decide) hn7 hb h2 hT) yy_X10_isWord wm_X9_44 (kl hN (by decide)) h1o_1 rfl rfl rfl rfl (Nat.le_of_ble_eq_true rfl) (by decide) (by decide) ⟨by decide, by decide⟩ dX9_readClause_64 ?_
      obtain ⟨z_4, ez_4, hz_4⟩ := selI_c (isW bt n 3 st)
      refine k_topv (vI z_4) (by rw [ez_4]) ?_
      refine k_if_eq hC 96 dX9_readClause_67 rfl (by omega) (fun c_67 => ?_) (fun c_67 => ?_)
      · refine k_aload_n hC dX9_readClause_96 rfl 0 rfl ?_
        refine k_get hC fd_X9_25 (kl hN (by decide)) h116 rfl dX9_readClause_97 ?_
        refine k_ldcs hC (List.mem_of_getElem? (i := 4) rfl) dX9_readClause_100 ?_
        refine k_pureV hC (c_X10_isWord l hls G hN w fl bt n st 4 (by decide) hn7 hb h2 hT) yy_X10_isWord wm_X9_44 (kl hN (by decide)) h1o_1 rfl rfl rfl rfl (Nat.le_of_ble_eq_true rfl) (by decide) (by decide) ⟨by decide, by decide⟩ dX9_readClause_102 ?_
        obtain ⟨z_5, ez_5, hz_5⟩ := selI_c (isW bt n 4 st)
        refine k_topv (vI z_5) (by rw [ez_5]) ?_
        refine k_if_eq hC 153 dX9_readClause_105 rfl (by omega) (fun c_105 => ?_) (fun c_105 => ?_)
        · refine k_aload_n hC dX9_readClause_153 rfl 0 rfl ?_
          refine k_get hC fd_X9_25 (kl hN (by decide)) h116 rfl dX9_readClause_154 ?_
          refine k_ldcs hC (List.mem_of_getElem? (i := 5) rfl) dX9_readClause_157 ?_
          refine k_pureV hC (c_X10_isWord l hls G hN w fl bt n st 5 (by decide) hn7 hb h2 hT) yy_X10_isWord wm_X9_44 (kl hN (by decide)) h1o_1 rfl rfl rfl rfl (Nat.le_of_ble_eq_true rfl) (by decide) (by decide) ⟨by decide, by decide⟩ dX9_readClause_159 ?_
          obtain ⟨z_6, ez_6, hz_6⟩ := selI_c (isW bt n 5 st)
          refine k_topv (vI z_6) (by rw [ez_6]) ?_
          refine k_if_eq hC 172 dX9_readClause_162 rfl (by omega) (fun c_162 => ?_) (fun c_162 => ?_)
          · refine k_aload_n hC dX9_readClause_172 rfl 0 rfl ?_
            refine k_get hC fd_X9_25 (kl hN (by decide)) h116 rfl dX9_readClause_173 ?_
            refine k_ldcs hC (List.mem_of_getElem? (i := 6) rfl) dX9_readClause_176 ?_
            refine k_pureV hC (c_X10_isWord l hls G hN w fl bt n st 6 (by decide) hn7 hb h2 hT) yy_X10_isWord wm_X9_44 (kl hN (by decide)) h1o_1 rfl rfl rfl rfl (Nat.le_of_ble_eq_true rfl) (by decide) (by decide) ⟨by decide, by decide⟩ dX9_readClause_178 ?_
            obtain ⟨z_7, ez_7, hz_7⟩ := selI_c (isW bt n 6 st)
            refine k_topv (vI z_7) (by rw [ez_7]) ?_
            refine k_if_eq hC 191 dX9_readClause_181 rfl (by omega) (fun c_181 => ?_) (fun c_181 => ?_)
            · refine k_aload_n hC dX9_readClause_191 rfl 0 rfl ?_
              refine k_get hC fd_X9_25 (kl hN (by decide)) h116 rfl dX9_readClause_192 ?_
              refine k_ldcs hC (List.mem_of_getElem? (i := 7) rfl) dX9_readClause_195 ?_
              refine k_pureV hC (c_X10_isWord l hls G hN w fl bt n st 7 (by decide) hn7 hb h2 hT) yy_X10_isWord wm_X9_44 (kl hN (by decide)) h1o_1 rfl rfl rfl rfl (Nat.le_of_ble_eq_true rfl) (by decide) (by decide) ⟨by decide, by decide⟩ dX9_readClause_197 ?_
              obtain ⟨z_8, ez_8, hz_8⟩ := selI_c (isW bt n 7 st)
              refine k_topv (vI z_8) (by rw [ez_8]) ?_
              refine k_if_eq hC 210 dX9_readClause_200 rfl (by omega) (fun c_200 => ?_) (fun c_200 => ?_)
              · refine k_aload_n hC dX9_readClause_210 rfl 0 rfl ?_
                refine k_get hC fd_X9_25 (kl hN (by decide)) h116 rfl dX9_readClause_211 ?_
                refine k_iconst hC dX9_readClause_214 ?_
                refine k_muvV hC (c_X10_fail l hls G hN w fl bt n st 1 (by omega) hn7 hb h2 hT) yy_X10_fail wm_X9_95 (kl hN (by decide)) h1o_1 rfl rfl rfl rfl (Nat.le_of_ble_eq_true rfl) (by decide) (by decide) ⟨by decide, by decide⟩ dX9_readClause_215 (fun w9 hp9 => ?_)
                obtain ⟨hT9, hf9⟩ := hp9
                obtain ⟨st_10, est_10⟩ : ∃ z : PS, z = flP 1 st := ⟨_, rfl⟩
                rw [← est_10] at hT9
                refine k_aload_n hC dX9_readClause_218 rfl 0 rfl ?_
                have h_11 : w9 116 = .inr (9, [.ref (kad G 1), .ref (kad G 117), .ref (kad G 122)]) := (hf9 116 (by decide)).trans h116
                refine k_get hC fd_X9_25 (kl hN (by decide)) h_11 rfl dX9_readClause_219 ?_
                refine k_bipush hC dX9_readClause_222 (by decide) ?_
                have hTco_13 := hT9
                obtain ⟨cno_13, eao_13, kdo_13, nmo_13, sao_13, nxo_13, h1o_13, -⟩ := hTco_13
                have h_14 : w9 2 = bA G 700 (fun j => sb8 (bt j)) := (hf9 2 (by decide)).trans h2
                refine k_muvV hC (c_X10_needSign l hls G hN w9 fl bt n st_10 59 (by omega) hn7 hb h_14 hT9) yy_X10_needSign wm_X9_99 (kl hN (by decide)) h1o_13 rfl rfl rfl rfl (Nat.le_of_ble_eq_true rfl) (by decide) (by decide) ⟨by decide, by decide⟩ dX9_readClause_224 (fun w12 hp12 => ?_)
                obtain ⟨hT12, hf12⟩ := hp12
                obtain ⟨st_15, est_15⟩ : ∃ z : PS, z = nsP bt n 59 st_10 := ⟨_, rfl⟩
                rw [← est_15] at hT12
                have hB_16 : kPlan G w12 117 gp nl := hP2.fr (fun j q1 q2 => (hf12 j (by omega)).trans (hf9 j (by omega)))
                have hB_17 : kLog G w12 122 gl := hL2.fr (fun j q1 q2 => (hf12 j (by omega)).trans (hf9 j (by omega)))
                subst hQ
                exact k_vret hC hr ⟨by decide, by decide⟩ (⟨rfl, rfl, ⟨gp, gl, nl, hB_16, hB_17, fun hc => absurd hc (by have hq0 : clS0 bt n D st = st_10 := (by unfold clS0; rw [selP_0 (hz_2.resolve_left (fun q1 => by omega)).2, selP_0 (hz_3.resolve_left (fun q1 => by omega)).2, selP_0 (hz_4.resolve_left (fun q1 => by omega)).2, selP_0 (hz_5.resolve_left (fun q1 => by omega)).2, selP_0 (hz_6.resolve_left (fun q1 => by omega)).2, selP_0 (hz_7.resolve_left (fun q1 => by omega)).2, selP_0 (hz_8.resolve_left (fun q1 => by omega)).2, est_10]); unfold clS; rw [hq0, est_10, nsP_e (fl_c (by decide))]; exact fl_c (by decide))⟩, (by have e : st_15 = clS bt n D st := (by unfold clS; have hq0 : clS0 bt n D st = st_10 := (by unfold clS0; rw [selP_0 (hz_2.resolve_left (fun q1 => by omega)).2, selP_0 (hz_3.resolve_left (fun q1 => by omega)).2, selP_0 (hz_4.resolve_left (fun q1 => by omega)).2, selP_0 (hz_5.resolve_left (fun q1 => by omega)).2, selP_0 (hz_6.resolve_left (fun q1 => by omega)).2, selP_0 (hz_7.resolve_left (fun q1 => by omega)).2, selP_0 (hz_8.resolve_left (fun q1 => by omega)).2, est_10]); rw [hq0, est_15]); rw [← e]; exact hT12), fun j hj => (hf12 j (by omega)).trans (hf9 j (by omega))⟩) dX9_readClause_227
              · refine k_aload_n hC dX9_readClause_203 rfl 0 rfl ?_
                refine k_muvV hC (c_X9_readSight l hls G hN w fl bt gp gl nl D n st hn7 hb h2 hT hz h116 hE hI hNm hP2 hL2) yy_X9_readSight wm_X9_92 (kl hN (by decide)) h116 rfl rfl rfl rfl (Nat.le_of_ble_eq_true rfl) (by decide) (by decide) ⟨by decide, by decide⟩ dX9_readClause_204 (fun w18 hp18 => ?_)
                obtain ⟨⟨gp18, gl18, nl18, hP18, hL18, hdat18⟩, hT18, hf18⟩ := hp18
                obtain ⟨st_19, est_19⟩ : ∃ z : PS, z = clSightS bt n D st := ⟨_, rfl⟩
                rw [← est_19] at hT18
                refine k_goto hC 218 dX9_readClause_207 rfl ?_
                refine k_aload_n hC dX9_readClause_218 rfl 0 rfl ?_
                have h_20 : w18 116 = .inr (9, [.ref (kad G 1), .ref (kad G 117), .ref (kad G 122)]) := (hf18 116 (by omega)).trans h116
                refine k_get hC fd_X9_25 (kl hN (by decide)) h_20 rfl dX9_readClause_219 ?_
                refine k_bipush hC dX9_readClause_222 (by decide) ?_
                have hTco_22 := hT18
                obtain ⟨cno_22, eao_22, kdo_22, nmo_22, sao_22, nxo_22, h1o_22, -⟩ := hTco_22
                have h_23 : w18 2 = bA G 700 (fun j => sb8 (bt j)) := (hf18 2 (by omega)).trans h2
                refine k_muvV hC (c_X10_needSign l hls G hN w18 fl bt n st_19 59 (by omega) hn7 hb h_23 hT18) yy_X10_needSign wm_X9_99 (kl hN (by decide)) h1o_22 rfl rfl rfl rfl (Nat.le_of_ble_eq_true rfl) (by decide) (by decide) ⟨by decide, by decide⟩ dX9_readClause_224 (fun w21 hp21 => ?_)
                obtain ⟨hT21, hf21⟩ := hp21
                obtain ⟨st_24, est_24⟩ : ∃ z : PS, z = nsP bt n 59 st_19 := ⟨_, rfl⟩
                rw [← est_24] at hT21
                have hB_25 : kPlan G w21 117 gp18 nl18 := hP18.fr (fun j q1 q2 => (hf21 j (by omega)))
                have hB_26 : kLog G w21 122 gl18 := hL18.fr (fun j q1 q2 => (hf21 j (by omega)))
                subst hQ
                exact k_vret hC hr ⟨by decide, by decide⟩ (⟨rfl, rfl, ⟨gp18, gl18, nl18, hB_25, hB_26, fun hc => by have hq0 : clS0 bt n D st = st_19 := (by unfold clS0; rw [selP_0 (hz_2.resolve_left (fun q1 => by omega)).2, selP_0 (hz_3.resolve_left (fun q1 => by omega)).2, selP_0 (hz_4.resolve_left (fun q1 => by omega)).2, selP_0 (hz_5.resolve_left (fun q1 => by omega)).2, selP_0 (hz_6.resolve_left (fun q1 => by omega)).2, selP_0 (hz_7.resolve_left (fun q1 => by omega)).2, selP_1 (hz_8.resolve_right (fun q1 => by omega)).2, est_19]); have hc0 : st_19.1 = 0 := (by by_cases q : st_19.1 = 0; exact q; (unfold clS at hc; rw [hq0, nsP_e q] at hc; exact hc)); unfold clD; rw [selP_0 (hz_2.resolve_left (fun q1 => by omega)).2, selP_0 (hz_3.resolve_left (fun q1 => by omega)).2, selP_0 (hz_4.resolve_left (fun q1 => by omega)).2, selP_0 (hz_5.resolve_left (fun q1 => by omega)).2, selP_0 (hz_6.resolve_left (fun q1 => by omega)).2, selP_0 (hz_7.resolve_left (fun q1 => by omega)).2, selP_1 (hz_8.resolve_right (fun q1 => by omega)).2]; exact hdat18 (by rw [← est_19]; exact hc0)⟩, (by have e : st_24 = clS bt n D st := (by unfold clS; have hq0 : clS0 bt n D st = st_19 := (by unfold clS0; rw [selP_0 (hz_2.resolve_left (fun q1 => by omega)).2, selP_0 (hz_3.resolve_left (fun q1 => by omega)).2, selP_0 (hz_4.resolve_left (fun q1 => by omega)).2, selP_0 (hz_5.resolve_left (fun q1 => by omega)).2, selP_0 (hz_6.resolve_left (fun q1 => by omega)).2, selP_0 (hz_7.resolve_left (fun q1 => by omega)).2, selP_1 (hz_8.resolve_right (fun q1 => by omega)).2, est_19]); rw [hq0, est_24]); rw [← e]; exact hT21), fun j hj => (hf21 j (by omega)).trans (hf18 j (by omega))⟩) dX9_readClause_227
            · refine k_aload_n hC dX9_readClause_184 rfl 0 rfl ?_
              refine k_muvV hC (c_X9_readLeg l hls G hN w fl bt gp gl nl D n st hn7 hb h2 hT hz h116 hE hI hNm hP2 hL2) yy_X9_readLeg wm_X9_87 (kl hN (by decide)) h116 rfl rfl rfl rfl (Nat.le_of_ble_eq_true rfl) (by decide) (by decide) ⟨by decide, by decide⟩ dX9_readClause_185 (fun w27 hp27 => ?_)
              obtain ⟨⟨gp27, gl27, nl27, hP27, hL27, hdat27⟩, hT27, hf27⟩ := hp27
              obtain ⟨st_28, est_28⟩ : ∃ z : PS, z = clLegS bt n D st := ⟨_, rfl⟩
              rw [← est_28] at hT27
              refine k_goto hC 218 dX9_readClause_188 rfl ?_
              refine k_aload_n hC dX9_readClause_218 rfl 0 rfl ?_
              have h_29 : w27 116 = .inr (9, [.ref (kad G 1), .ref (kad G 117), .ref (kad G 122)]) := (hf27 116 (by omega)).trans h116
              refine k_get hC fd_X9_25 (kl hN (by decide)) h_29 rfl dX9_readClause_219 ?_
              refine k_bipush hC dX9_readClause_222 (by decide) ?_
              have hTco_31 := hT27
              obtain ⟨cno_31, eao_31, kdo_31, nmo_31, sao_31, nxo_31, h1o_31, -⟩ := hTco_31
              have h_32 : w27 2 = bA G 700 (fun j => sb8 (bt j)) := (hf27 2 (by omega)).trans h2
              refine k_muvV hC (c_X10_needSign l hls G hN w27 fl bt n st_28 59 (by omega) hn7 hb h_32 hT27) yy_X10_needSign wm_X9_99 (kl hN (by decide)) h1o_31 rfl rfl rfl rfl (Nat.le_of_ble_eq_true rfl) (by decide) (by decide) ⟨by decide, by decide⟩ dX9_readClause_224 (fun w30 hp30 => ?_)
              obtain ⟨hT30, hf30⟩ := hp30
              obtain ⟨st_33, est_33⟩ : ∃ z : PS, z = nsP bt n 59 st_28 := ⟨_, rfl⟩
              rw [← est_33] at hT30
              have hB_34 : kPlan G w30 117 gp27 nl27 := hP27.fr (fun j q1 q2 => (hf30 j (by omega)))
              have hB_35 : kLog G w30 122 gl27 := hL27.fr (fun j q1 q2 => (hf30 j (by omega)))
              subst hQ
              exact k_vret hC hr ⟨by decide, by decide⟩ (⟨rfl, rfl, ⟨gp27, gl27, nl27, hB_34, hB_35, fun hc => by have hq0 : clS0 bt n D st = st_28 := (by unfold clS0; rw [selP_0 (hz_2.resolve_left (fun q1 => by omega)).2, selP_0 (hz_3.resolve_left (fun q1 => by omega)).2, selP_0 (hz_4.resolve_left (fun q1 => by omega)).2, selP_0 (hz_5.resolve_left (fun q1 => by omega)).2, selP_0 (hz_6.resolve_left (fun q1 => by omega)).2, selP_1 (hz_7.resolve_right (fun q1 => by omega)).2, est_28]); have hc0 : st_28.1 = 0 := (by by_cases q : st_28.1 = 0; exact q; (unfold clS at hc; rw [hq0, nsP_e q] at hc; exact hc)); unfold clD; rw [selP_0 (hz_2.resolve_left (fun q1 => by omega)).2, selP_0 (hz_3.resolve_left (fun q1 => by omega)).2, selP_0 (hz_4.resolve_left (fun q1 => by omega)).2, selP_0 (hz_5.resolve_left (fun q1 => by omega)).2, selP_0 (hz_6.resolve_left (fun q1 => by omega)).2, selP_1 (hz_7.resolve_right (fun q1 => by omega)).2]; exact hdat27 (by rw [← est_28]; exact hc0)⟩, (by have e : st_33 = clS bt n D st := (by unfold clS; have hq0 : clS0 bt n D st = st_28 := (by unfold clS0; rw [selP_0 (hz_2.resolve_left (fun q1 => by omega)).2, selP_0 (hz_3.resolve_left (fun q1 => by omega)).2, selP_0 (hz_4.resolve_left (fun q1 => by omega)).2, selP_0 (hz_5.resolve_left (fun q1 => by omega)).2, selP_0 (hz_6.resolve_left (fun q1 => by omega)).2, selP_1 (hz_7.resolve_right (fun q1 => by omega)).2, est_28]); rw [hq0, est_33]); rw [← e]; exact hT30), fun j hj => (hf30 j (by omega)).trans (hf27 j (by omega))⟩) dX9_readClause_227
          · refine k_aload_n hC dX9_readClause_165 rfl 0 rfl ?_
            refine k_muvV hC (c_X9_readBody l hls G hN w fl bt gp gl nl D n st hn7 hb h2 hT hz h116 hE hI hNm hP2 hL2) yy_X9_readBody wm_X9_82 (kl hN (by decide)) h116 rfl rfl rfl rfl (Nat.le_of_ble_eq_true rfl) (by decide) (by decide) ⟨by decide, by decide⟩ dX9_readClause_166 (fun w36 hp36 => ?_)
            obtain ⟨⟨gp36, gl36, nl36, hP36, hL36, hdat36⟩, hT36, hf36⟩ := hp36
            obtain ⟨st_37, est_37⟩ : ∃ z : PS, z = clBodyS bt n D st := ⟨_, rfl⟩
            rw [← est_37] at hT36
            refine k_goto hC 218 dX9_readClause_169 rfl ?_
            refine k_aload_n hC dX9_readClause_218 rfl 0 rfl ?_
            have h_38 : w36 116 = .inr (9, [.ref (kad G 1), .ref (kad G 117), .ref (kad G 122)]) := (hf36 116 (by omega)).trans h116
            refine k_get hC fd_X9_25 (kl hN (by decide)) h_38 rfl dX9_readClause_219 ?_
            refine k_bipush hC dX9_readClause_222 (by decide) ?_
            have hTco_40 := hT36
            obtain ⟨cno_40, eao_40, kdo_40, nmo_40, sao_40, nxo_40, h1o_40, -⟩ := hTco_40
            have h_41 : w36 2 = bA G 700 (fun j => sb8 (bt j)) := (hf36 2 (by omega)).trans h2
            refine k_muvV hC (c_X10_needSign l hls G hN w36 fl bt n st_37 59 (by omega) hn7 hb h_41 hT36) yy_X10_needSign wm_X9_99 (kl hN (by decide)) h1o_40 rfl rfl rfl rfl (Nat.le_of_ble_eq_true rfl) (by decide) (by decide) ⟨by decide, by decide⟩ dX9_readClause_224 (fun w39 hp39 => ?_)
            obtain ⟨hT39, hf39⟩ := hp39
            obtain ⟨st_42, est_42⟩ : ∃ z : PS, z = nsP bt n 59 st_37 := ⟨_, rfl⟩
            rw [← est_42] at hT39
            have hB_43 : kPlan G w39 117 gp36 nl36 := hP36.fr (fun j q1 q2 => (hf39 j (by omega)))
            have hB_44 : kLog G w39 122 gl36 := hL36.fr (fun j q1 q2 => (hf39 j (by omega)))
            subst hQ
            exact k_vret hC hr ⟨by decide, by decide⟩ (⟨rfl, rfl, ⟨gp36, gl36, nl36, hB_43, hB_44, fun hc => by have hq0 : clS0 bt n D st = st_37 := (by unfold clS0; rw [selP_0 (hz_2.resolve_left (fun q1 => by omega)).2, selP_0 (hz_3.resolve_left (fun q1 => by omega)).2, selP_0 (hz_4.resolve_left (fun q1 => by omega)).2, selP_0 (hz_5.resolve_left (fun q1 => by omega)).2, selP_1 (hz_6.resolve_right (fun q1 => by omega)).2, est_37]); have hc0 : st_37.1 = 0 := (by by_cases q : st_37.1 = 0; exact q; (unfold clS at hc; rw [hq0, nsP_e q] at hc; exact hc)); unfold clD; rw [selP_0 (hz_2.resolve_left (fun q1 => by omega)).2, selP_0 (hz_3.resolve_left (fun q1 => by omega)).2, selP_0 (hz_4.resolve_left (fun q1 => by omega)).2, selP_0 (hz_5.resolve_left (fun q1 => by omega)).2, selP_1 (hz_6.resolve_right (fun q1 => by omega)).2]; exact hdat36 (by rw [← est_37]; exact hc0)⟩, (by have e : st_42 = clS bt n D st := (by unfold clS; have hq0 : clS0 bt n D st = st_37 := (by unfold clS0; rw [selP_0 (hz_2.resolve_left (fun q1 => by omega)).2, selP_0 (hz_3.resolve_left (fun q1 => by omega)).2, selP_0 (hz_4.resolve_left (fun q1 => by omega)).2, selP_0 (hz_5.resolve_left (fun q1 => by omega)).2, selP_1 (hz_6.resolve_right (fun q1 => by omega)).2, est_37]); rw [hq0, est_42]); rw [← e]; exact hT39), fun j hj => (hf39 j (by omega)).trans (hf36 j (by omega))⟩) dX9_readClause_227
        · refine k_aload_n hC dX9_readClause_108 rfl 0 rfl ?_
          refine k_get hC fd_X9_25 (kl hN (by decide)) h116 rfl dX9_readClause_109 ?_
          obtain ⟨cn45, ea45, kd45, nm45, sa45, p945, hp945, h145, hadv45⟩ := tk_open hT
          refine k_muvV hC (c_X10_advance l hls G hN w fl bt n p945 cn45 st.1 ea45 kd45 nm45 sa45 hn7 hp945 hb h2 h145) yy_X10_advance wm_X9_53 (kl hN (by decide)) h145 rfl rfl rfl rfl (Nat.le_of_ble_eq_true rfl) (by decide) (by decide) ⟨by decide, by decide⟩ dX9_readClause_112 (fun w45 hp45 => ?_)
          obtain ⟨hq45, hf45⟩ := hp45
          have hT45 := hadv45 _ hq45
          obtain ⟨st_46, est_46⟩ : ∃ z : PS, z = adP bt n st := ⟨_, rfl⟩
          rw [← est_46] at hT45
          refine k_aload_n hC dX9_readClause_115 rfl 0 rfl ?_
          have h_47 : w45 116 = .inr (9, [.ref (kad G 1), .ref (kad G 117), .ref (kad G 122)]) := (hf45 116 (by decide)).trans h116
          refine k_get hC fd_X9_21 (kl hN (by decide)) h_47 rfl dX9_readClause_116 ?_
          refine k_aload_n hC dX9_readClause_119 rfl 0 rfl ?_
          refine k_get hC fd_X9_25 (kl hN (by decide)) h_47 rfl dX9_readClause_120 ?_
          refine k_iconst hC dX9_readClause_123 ?_
          refine k_sipush hC dX9_readClause_124 (by decide) ?_
          have hTco_49 := hT45
          obtain ⟨cno_49, eao_49, kdo_49, nmo_49, sao_49, nxo_49, h1o_49, -⟩ := hTco_49
          have h_50 : w45 2 = bA G 700 (fun j => sb8 (bt j)) := (hf45 2 (by decide)).trans h2
          refine k_mutV hC (c_X10_takeNumber l hls G hN w45 fl bt n st_46 0 21599 (by omega) (by omega) hn7 hb h_50 hT45) yy_X10_takeNumber wm_X9_56 (kl hN (by decide)) h1o_49 rfl rfl rfl rfl (Nat.le_of_ble_eq_true rfl) (by decide) (by decide) ⟨by decide, by decide⟩ dX9_readClause_127 (fun w48 hp48 => ?_)
          obtain ⟨hT48, hf48⟩ := hp48
          obtain ⟨st_51, est_51⟩ : ∃ z : PS, z = tkP bt n 0 21599 st_46 := ⟨_, rfl⟩
          rw [← est_51] at hT48
          have hnv_52 := nhV_b (bt := bt) (n := n) (lo := 0) (hi := 21599) (st := st_46) (by omega) (by omega)
          have hB_53 : kLog G w48 122 gl := hL2.fr (fun j q1 q2 => (hf48 j (by omega)).trans (hf45 j (by omega)))
          refine k_put hC fd_X9_74 (kl hN (by decide)) hB_53.1 [vI (gl 5), vI (gl 6), vI (nhV bt n 0 21599 st_46), vI (gl 8), vI (gl 1), .ref (kad G 123), .ref (kad G 124), .ref (kad G 125), vI (gl 2), .ref (kad G 126), .ref (kad G 127), .ref (kad G 128)] rfl (Nat.le_of_ble_eq_true rfl) rfl rfl dX9_readClause_130 (fun w54 hw54 hf54 => ?_)
          refine k_aload_n hC dX9_readClause_133 rfl 0 rfl ?_
          have h_55 : w54 116 = .inr (9, [.ref (kad G 1), .ref (kad G 117), .ref (kad G 122)]) := (hf54 116 (by decide)).trans ((hf48 116 (by decide)).trans h_47)
          refine k_get hC fd_X9_21 (kl hN (by decide)) h_55 rfl dX9_readClause_134 ?_
          refine k_aload_n hC dX9_readClause_137 rfl 0 rfl ?_
          refine k_get hC fd_X9_25 (kl hN (by decide)) h_55 rfl dX9_readClause_138 ?_
          refine k_iconst hC dX9_readClause_141 ?_
          refine k_bipush hC dX9_readClause_142 (by decide) ?_
          have hB_58 : tkR G w54 bt n st_51 := hT48.fr (fun j q1 q2 => (hf54 j (by omega)))
          have hTco_57 := hB_58
          obtain ⟨cno_57, eao_57, kdo_57, nmo_57, sao_57, nxo_57, h1o_57, -⟩ := hTco_57
          have h_59 : w54 2 = bA G 700 (fun j => sb8 (bt j)) := (hf54 2 (by decide)).trans ((hf48 2 (by decide)).trans h_50)
          refine k_mutV hC (c_X10_takeNumber l hls G hN w54 fl bt n st_51 0 100 (by omega) (by omega) hn7 hb h_59 hB_58) yy_X10_takeNumber wm_X9_56 (kl hN (by decide)) h1o_57 rfl rfl rfl rfl (Nat.le_of_ble_eq_true rfl) (by decide) (by decide) ⟨by decide, by decide⟩ dX9_readClause_144 (fun w56 hp56 => ?_)
          obtain ⟨hT56, hf56⟩ := hp56
          obtain ⟨st_60, est_60⟩ : ∃ z : PS, z = tkP bt n 0 100 st_51 := ⟨_, rfl⟩
          rw [← est_60] at hT56
          have hnv_61 := nhV_b (bt := bt) (n := n) (lo := 0) (hi := 100) (st := st_51) (by omega) (by omega)
          have h_62 : w56 122 = .inr (4, [vI (gl 5), vI (gl 6), vI (nhV bt n 0 21599 st_46), vI (gl 8), vI (gl 1), .ref (kad G 123), .ref (kad G 124), .ref (kad G 125), vI (gl 2), .ref (kad G 126), .ref (kad G 127), .ref (kad G 128)]) := (hf56 122 (by decide)).trans hw54
          refine k_put hC fd_X9_77 (kl hN (by decide)) h_62 [vI (gl 5), vI (gl 6), vI (nhV bt n 0 21599 st_46), vI (nhV bt n 0 100 st_51), vI (gl 1), .ref (kad G 123), .ref (kad G 124), .ref (kad G 125), vI (gl 2), .ref (kad G 126), .ref (kad G 127), .ref (kad G 128)] rfl (Nat.le_of_ble_eq_true rfl) rfl rfl dX9_readClause_147 (fun w63 hw63 hf63 => ?_)
          have h_65 : w63 123 = iA G 8 (fun j => gl (33 + 3 * j)) := (hf63 123 (by decide)).trans ((hf56 123 (by decide)).trans ((hf54 123 (by decide)).trans hB_53.2.1))
          have h_66 : w63 124 = iA G 8 (fun j => gl (34 + 3 * j)) := (hf63 124 (by decide)).trans ((hf56 124 (by decide)).trans ((hf54 124 (by decide)).trans hB_53.2.2.1))
          have h_67 : w63 125 = iA G 8 (fun j => gl (35 + 3 * j)) := (hf63 125 (by decide)).trans ((hf56 125 (by decide)).trans ((hf54 125 (by decide)).trans hB_53.2.2.2.1))
          have h_68 : w63 126 = iA G 12 (fun j => gl (57 + 3 * j)) := (hf63 126 (by decide)).trans ((hf56 126 (by decide)).trans ((hf54 126 (by decide)).trans hB_53.2.2.2.2.1))
          have h_69 : w63 127 = iA G 12 (fun j => gl (58 + 3 * j)) := (hf63 127 (by decide)).trans ((hf56 127 (by decide)).trans ((hf54 127 (by decide)).trans hB_53.2.2.2.2.2.1))
          have h_70 : w63 128 = iA G 12 (fun j => gl (59 + 3 * j)) := (hf63 128 (by decide)).trans ((hf56 128 (by decide)).trans ((hf54 128 (by decide)).trans hB_53.2.2.2.2.2.2))
          have hLx_64 : kLog G w63 122 (kup (kup gl 7 (nhV bt n 0 21599 st_46)) 8 (nhV bt n 0 100 st_51)) := ⟨logO_of hw63 (by simp only [kup]; repeat (first | omega | rfl | split)) (by simp only [kup]; repeat (first | omega | rfl | split)) (by simp only [kup]; repeat (first | omega | rfl | split)) (by simp only [kup]; repeat (first | omega | rfl | split)) (by simp only [kup]; repeat (first | omega | rfl | split)) (by simp only [kup]; repeat (first | omega | rfl | split)), h_65.trans (iA_congr (fun j hj => by simp only [kup]; repeat (first | omega | rfl | split))), h_66.trans (iA_congr (fun j hj => by simp only [kup]; repeat (first | omega | rfl | split))), h_67.trans (iA_congr (fun j hj => by simp only [kup]; repeat (first | omega | rfl | split))), h_68.trans (iA_congr (fun j hj => by simp only [kup]; repeat (first | omega | rfl | split))), h_69.trans (iA_congr (fun j hj => by simp only [kup]; repeat (first | omega | rfl | split))), h_70.trans (iA_congr (fun j hj => by simp only [kup]; repeat (first | omega | rfl | split)))⟩
          refine k_goto hC 218 dX9_readClause_150 rfl ?_
          refine k_aload_n hC dX9_readClause_218 rfl 0 rfl ?_
          have h_71 : w63 116 = .inr (9, [.ref (kad G 1), .ref (kad G 117), .ref (kad G 122)]) := (hf63 116 (by decide)).trans ((hf56 116 (by decide)).trans h_55)
          refine k_get hC fd_X9_25 (kl hN (by decide)) h_71 rfl dX9_readClause_219 ?_
          refine k_bipush hC dX9_readClause_222 (by decide) ?_
          have hB_74 : tkR G w63 bt n st_60 := hT56.fr (fun j q1 q2 => (hf63 j (by omega)))
          have hTco_73 := hB_74
          obtain ⟨cno_73, eao_73, kdo_73, nmo_73, sao_73, nxo_73, h1o_73, -⟩ := hTco_73
          have h_75 : w63 2 = bA G 700 (fun j => sb8 (bt j)) := (hf63 2 (by decide)).trans ((hf56 2 (by decide)).trans h_59)
          refine k_muvV hC (c_X10_needSign l hls G hN w63 fl bt n st_60 59 (by omega) hn7 hb h_75 hB_74) yy_X10_needSign wm_X9_99 (kl hN (by decide)) h1o_73 rfl rfl rfl rfl (Nat.le_of_ble_eq_true rfl) (by decide) (by decide) ⟨by decide, by decide⟩ dX9_readClause_224 (fun w72 hp72 => ?_)
          obtain ⟨hT72, hf72⟩ := hp72
          obtain ⟨st_76, est_76⟩ : ∃ z : PS, z = nsP bt n 59 st_60 := ⟨_, rfl⟩
          rw [← est_76] at hT72
          have hB_77 : kPlan G w72 117 gp nl := hP2.fr (fun j q1 q2 => (hf72 j (by omega)).trans ((hf63 j (by omega)).trans ((hf56 j (by omega)).trans ((hf54 j (by omega)).trans ((hf48 j (by omega)).trans (hf45 j (by omega)))))))
          have hB_78 : kLog G w72 122 (kup (kup gl 7 (nhV bt n 0 21599 st_46)) 8 (nhV bt n 0 100 st_51)) := hLx_64.fr (fun j q1 q2 => (hf72 j (by omega)))
          subst hQ
          exact k_vret hC hr ⟨by decide, by decide⟩ (⟨rfl, rfl, ⟨gp, kup (kup gl 7 (nhV bt n 0 21599 st_46)) 8 (nhV bt n 0 100 st_51), nl, hB_77, hB_78, fun hc => by have hq0 : clS0 bt n D st = st_60 := (by unfold clS0; rw [selP_0 (hz_2.resolve_left (fun q1 => by omega)).2, selP_0 (hz_3.resolve_left (fun q1 => by omega)).2, selP_0 (hz_4.resolve_left (fun q1 => by omega)).2, selP_1 (hz_5.resolve_right (fun q1 => by omega)).2, est_60, est_51, est_46]); have hc0 : st_60.1 = 0 := (by by_cases q : st_60.1 = 0; exact q; (unfold clS at hc; rw [hq0, nsP_e q] at hc; exact hc)); unfold clD; rw [selP_0 (hz_2.resolve_left (fun q1 => by omega)).2, selP_0 (hz_3.resolve_left (fun q1 => by omega)).2, selP_0 (hz_4.resolve_left (fun q1 => by omega)).2, selP_1 (hz_5.resolve_right (fun q1 => by omega)).2]; have hx1 : st_51.1 = 0 := (by have h := hc0; rw [est_60] at h; exact ok2 h); rw [← est_46, ← est_51, ← nhV_t (lo := 0) (hi := 21599) (st := st_46) (by rw [← est_51]; exact hx1), ← nhV_t (lo := 0) (hi := 100) (st := st_51) (by rw [← est_60]; exact hc0)]; exact ⟨hE.ll (by omega) (by omega) (by decide) _ _, hNm.hd (fun j hj => by first | exact kup_n (by omega) | (unfold setM; rw [if_neg (by omega), if_neg (by omega)])) hI⟩⟩, (by have e : st_76 = clS bt n D st := (by unfold clS; have hq0 : clS0 bt n D st = st_60 := (by unfold clS0; rw [selP_0 (hz_2.resolve_left (fun q1 => by omega)).2, selP_0 (hz_3.resolve_left (fun q1 => by omega)).2, selP_0 (hz_4.resolve_left (fun q1 => by omega)).2, selP_1 (hz_5.resolve_right (fun q1 => by omega)).2, est_60, est_51, est_46]); rw [hq0, est_76]); rw [← e]; exact hT72), fun j hj => (hf72 j (by omega)).trans ((hf63 j (by omega)).trans ((hf56 j (by omega)).trans ((hf54 j (by omega)).trans ((hf48 j (by omega)).trans (hf45 j (by omega))))))⟩) dX9_readClause_227
      · refine k_aload_n hC dX9_readClause_70 rfl 0 rfl ?_
        refine k_get hC fd_X9_25 (kl hN (by decide)) h116 rfl dX9_readClause_71 ?_
        obtain ⟨cn79, ea79, kd79, nm79, sa79, p979, hp979, h179, hadv79⟩ := tk_open hT
        refine k_muvV hC (c_X10_advance l hls G hN w fl bt n p979 cn79 st.1 ea79 kd79 nm79 sa79 hn7 hp979 hb h2 h179) yy_X10_advance wm_X9_53 (kl hN (by decide)) h179 rfl rfl rfl rfl (Nat.le_of_ble_eq_true rfl) (by decide) (by decide) ⟨by decide, by decide⟩ dX9_readClause_74 (fun w79 hp79 => ?_)
        obtain ⟨hq79, hf79⟩ := hp79
        have hT79 := hadv79 _ hq79
        obtain ⟨st_80, est_80⟩ : ∃ z : PS, z = adP bt n st := ⟨_, rfl⟩
        rw [← est_80] at hT79
        refine k_aload_n hC dX9_readClause_77 rfl 0 rfl ?_
        have h_81 : w79 116 = .inr (9, [.ref (kad G 1), .ref (kad G 117), .ref (kad G 122)]) := (hf79 116 (by decide)).trans h116
        refine k_get hC fd_X9_21 (kl hN (by decide)) h_81 rfl dX9_readClause_78 ?_
        refine k_aload_n hC dX9_readClause_81 rfl 0 rfl ?_
        refine k_get hC fd_X9_25 (kl hN (by decide)) h_81 rfl dX9_readClause_82 ?_
        refine k_bipush hC dX9_readClause_85 (by decide) ?_
        have hTco_83 := hT79
        obtain ⟨cno_83, eao_83, kdo_83, nmo_83, sao_83, nxo_83, h1o_83, -⟩ := hTco_83
        have h_84 : w79 2 = bA G 700 (fun j => sb8 (bt j)) := (hf79 2 (by decide)).trans h2
        refine k_mutV hC (c_X10_takeSigned l hls G hN w79 fl bt n st_80 60 (by omega) hn7 hb h_84 hT79) yy_X10_takeSigned wm_X9_66 (kl hN (by decide)) h1o_83 rfl rfl rfl rfl (Nat.le_of_ble_eq_true rfl) (by decide) (by decide) ⟨by decide, by decide⟩ dX9_readClause_87 (fun w82 hp82 => ?_)
        obtain ⟨hT82, hf82⟩ := hp82
        obtain ⟨st_85, est_85⟩ : ∃ z : PS, z = sgP bt n 60 st_80 := ⟨_, rfl⟩
        rw [← est_85] at hT82
        have hnv_86 := sgW_b (bt := bt) (n := n) (m := 60) (st := st_80) (by omega)
        have hB_87 : kLog G w82 122 gl := hL2.fr (fun j q1 q2 => (hf82 j (by omega)).trans (hf79 j (by omega)))
        refine k_put hC fd_X9_70 (kl hN (by decide)) hB_87.1 [vI (gl 5), vI (sgW bt n 60 st_80), vI (gl 7), vI (gl 8), vI (gl 1), .ref (kad G 123), .ref (kad G 124), .ref (kad G 125), vI (gl 2), .ref (kad G 126), .ref (kad G 127), .ref (kad G 128)] rfl (Nat.le_of_ble_eq_true rfl) rfl rfl dX9_readClause_90 (fun w88 hw88 hf88 => ?_)
        have h_90 : w88 123 = iA G 8 (fun j => gl (33 + 3 * j)) := (hf88 123 (by decide)).trans hB_87.2.1
        have h_91 : w88 124 = iA G 8 (fun j => gl (34 + 3 * j)) := (hf88 124 (by decide)).trans hB_87.2.2.1
        have h_92 : w88 125 = iA G 8 (fun j => gl (35 + 3 * j)) := (hf88 125 (by decide)).trans hB_87.2.2.2.1
        have h_93 : w88 126 = iA G 12 (fun j => gl (57 + 3 * j)) := (hf88 126 (by decide)).trans hB_87.2.2.2.2.1
        have h_94 : w88 127 = iA G 12 (fun j => gl (58 + 3 * j)) := (hf88 127 (by decide)).trans hB_87.2.2.2.2.2.1
        have h_95 : w88 128 = iA G 12 (fun j => gl (59 + 3 * j)) := (hf88 128 (by decide)).trans hB_87.2.2.2.2.2.2
        have hLx_89 : kLog G w88 122 (kup gl 6 (sgW bt n 60 st_80)) := ⟨logO_of hw88 (by simp only [kup]; repeat (first | omega | rfl | split)) (by simp only [kup]; repeat (first | omega | rfl | split)) (by simp only [kup]; repeat (first | omega | rfl | split)) (by simp only [kup]; repeat (first | omega | rfl | split)) (by simp only [kup]; repeat (first | omega | rfl | split)) (by simp only [kup]; repeat (first | omega | rfl | split)), h_90.trans (iA_congr (fun j hj => by simp only [kup]; repeat (first | omega | rfl | split))), h_91.trans (iA_congr (fun j hj => by simp only [kup]; repeat (first | omega | rfl | split))), h_92.trans (iA_congr (fun j hj => by simp only [kup]; repeat (first | omega | rfl | split))), h_93.trans (iA_congr (fun j hj => by simp only [kup]; repeat (first | omega | rfl | split))), h_94.trans (iA_congr (fun j hj => by simp only [kup]; repeat (first | omega | rfl | split))), h_95.trans (iA_congr (fun j hj => by simp only [kup]; repeat (first | omega | rfl | split)))⟩
        refine k_goto hC 218 dX9_readClause_93 rfl ?_
        refine k_aload_n hC dX9_readClause_218 rfl 0 rfl ?_
        have h_96 : w88 116 = .inr (9, [.ref (kad G 1), .ref (kad G 117), .ref (kad G 122)]) := (hf88 116 (by decide)).trans ((hf82 116 (by decide)).trans h_81)
        refine k_get hC fd_X9_25 (kl hN (by decide)) h_96 rfl dX9_readClause_219 ?_
        refine k_bipush hC dX9_readClause_222 (by decide) ?_
        have hB_99 : tkR G w88 bt n st_85 := hT82.fr (fun j q1 q2 => (hf88 j (by omega)))
        have hTco_98 := hB_99
        obtain ⟨cno_98, eao_98, kdo_98, nmo_98, sao_98, nxo_98, h1o_98, -⟩ := hTco_98
        have h_100 : w88 2 = bA G 700 (fun j => sb8 (bt j)) := (hf88 2 (by decide)).trans ((hf82 2 (by decide)).trans h_84)
        refine k_muvV hC (c_X10_needSign l hls G hN w88 fl bt n st_85 59 (by omega) hn7 hb h_100 hB_99) yy_X10_needSign wm_X9_99 (kl hN (by decide)) h1o_98 rfl rfl rfl rfl (Nat.le_of_ble_eq_true rfl) (by decide) (by decide) ⟨by decide, by decide⟩ dX9_readClause_224 (fun w97 hp97 => ?_)
        obtain ⟨hT97, hf97⟩ := hp97
        obtain ⟨st_101, est_101⟩ : ∃ z : PS, z = nsP bt n 59 st_85 := ⟨_, rfl⟩
        rw [← est_101] at hT97
        have hB_102 : kPlan G w97 117 gp nl := hP2.fr (fun j q1 q2 => (hf97 j (by omega)).trans ((hf88 j (by omega)).trans ((hf82 j (by omega)).trans (hf79 j (by omega)))))
        have hB_103 : kLog G w97 122 (kup gl 6 (sgW bt n 60 st_80)) := hLx_89.fr (fun j q1 q2 => (hf97 j (by omega)))
        subst hQ
        exact k_vret hC hr ⟨by decide, by decide⟩ (⟨rfl, rfl, ⟨gp, kup gl 6 (sgW bt n 60 st_80), nl, hB_102, hB_103, fun hc => by have hq0 : clS0 bt n D st = st_85 := (by unfold clS0; rw [selP_0 (hz_2.resolve_left (fun q1 => by omega)).2, selP_0 (hz_3.resolve_left (fun q1 => by omega)).2, selP_1 (hz_4.resolve_right (fun q1 => by omega)).2, est_85, est_80]); have hc0 : st_85.1 = 0 := (by by_cases q : st_85.1 = 0; exact q; (unfold clS at hc; rw [hq0, nsP_e q] at hc; exact hc)); unfold clD; rw [selP_0 (hz_2.resolve_left (fun q1 => by omega)).2, selP_0 (hz_3.resolve_left (fun q1 => by omega)).2, selP_1 (hz_4.resolve_right (fun q1 => by omega)).2]; rw [← est_80, ← sgW_0 (m := 60) (st := st_80) (by rw [← est_85]; exact hc0)]; exact ⟨hE.l1 (by omega) _, hNm.hd (fun j hj => by first | exact kup_n (by omega) | (unfold setM; rw [if_neg (by omega), if_neg (by omega)])) hI⟩⟩, (by have e : st_101 = clS bt n D st := (by unfold clS; have hq0 : clS0 bt n D st = st_85 := (by unfold clS0; rw [selP_0 (hz_2.resolve_left (fun q1 => by omega)).2, selP_0 (hz_3.resolve_left (fun q1 => by omega)).2, selP_1 (hz_4.resolve_right (fun q1 => by omega)).2, est_85, est_80]); rw [hq0, est_101]); rw [← e]; exact hT97), fun j hj => (hf97 j (by omega)).trans ((hf88 j (by omega)).trans ((hf82 j (by omega)).trans (hf79 j (by omega))))⟩) dX9_readClause_227
    · refine k_aload_n hC dX9_readClause_31 rfl 0 rfl ?_
      refine k_get hC fd_X9_25 (kl hN (by decide)) h116 rfl dX9_readClause_32 ?_
      obtain ⟨cn104, ea104, kd104, nm104, sa104, p9104, hp9104, h1104, hadv104⟩ := tk_open hT
      refine k_muvV hC (c_X10_advance l hls G hN w fl bt n p9104 cn104 st.1 ea104 kd104 nm104 sa104 hn7 hp9104 hb h2 h1104) yy_X10_advance wm_X9_53 (kl hN (by decide)) h1104 rfl rfl rfl rfl (Nat.le_of_ble_eq_true rfl) (by decide) (by decide) ⟨by decide, by decide⟩ dX9_readClause_35 (fun w104 hp104 => ?_)
      obtain ⟨hq104, hf104⟩ := hp104
      have hT104 := hadv104 _ hq104
      obtain ⟨st_105, est_105⟩ : ∃ z : PS, z = adP bt n st := ⟨_, rfl⟩
      rw [← est_105] at hT104
      refine k_aload_n hC dX9_readClause_38 rfl 0 rfl ?_
      have h_106 : w104 116 = .inr (9, [.ref (kad G 1), .ref (kad G 117), .ref (kad G 122)]) := (hf104 116 (by decide)).trans h116
      refine k_get hC fd_X9_21 (kl hN (by decide)) h_106 rfl dX9_readClause_39 ?_
      refine k_aload_n hC dX9_readClause_42 rfl 0 rfl ?_
      refine k_get hC fd_X9_25 (kl hN (by decide)) h_106 rfl dX9_readClause_43 ?_
      refine k_iconst hC dX9_readClause_46 ?_
      refine k_bipush hC dX9_readClause_47 (by decide) ?_
      have hTco_108 := hT104
      obtain ⟨cno_108, eao_108, kdo_108, nmo_108, sao_108, nxo_108, h1o_108, -⟩ := hTco_108
      have h_109 : w104 2 = bA G 700 (fun j => sb8 (bt j)) := (hf104 2 (by decide)).trans h2
      refine k_mutV hC (c_X10_takeNumber l hls G hN w104 fl bt n st_105 0 50 (by omega) (by omega) hn7 hb h_109 hT104) yy_X10_takeNumber wm_X9_56 (kl hN (by decide)) h1o_108 rfl rfl rfl rfl (Nat.le_of_ble_eq_true rfl) (by decide) (by decide) ⟨by decide, by decide⟩ dX9_readClause_49 (fun w107 hp107 => ?_)
      obtain ⟨hT107, hf107⟩ := hp107
      obtain ⟨st_110, est_110⟩ : ∃ z : PS, z = tkP bt n 0 50 st_105 := ⟨_, rfl⟩
      rw [← est_110] at hT107
      have hnv_111 := nhV_b (bt := bt) (n := n) (lo := 0) (hi := 50) (st := st_105) (by omega) (by omega)
      have hB_112 : kLog G w107 122 gl := hL2.fr (fun j q1 q2 => (hf107 j (by omega)).trans (hf104 j (by omega)))
      refine k_put hC fd_X9_60 (kl hN (by decide)) hB_112.1 [vI (nhV bt n 0 50 st_105), vI (gl 6), vI (gl 7), vI (gl 8), vI (gl 1), .ref (kad G 123), .ref (kad G 124), .ref (kad G 125), vI (gl 2), .ref (kad G 126), .ref (kad G 127), .ref (kad G 128)] rfl (Nat.le_of_ble_eq_true rfl) rfl rfl dX9_readClause_52 (fun w113 hw113 hf113 => ?_)
      have h_115 : w113 123 = iA G 8 (fun j => gl (33 + 3 * j)) := (hf113 123 (by decide)).trans hB_112.2.1
      have h_116 : w113 124 = iA G 8 (fun j => gl (34 + 3 * j)) := (hf113 124 (by decide)).trans hB_112.2.2.1
      have h_117 : w113 125 = iA G 8 (fun j => gl (35 + 3 * j)) := (hf113 125 (by decide)).trans hB_112.2.2.2.1
      have h_118 : w113 126 = iA G 12 (fun j => gl (57 + 3 * j)) := (hf113 126 (by decide)).trans hB_112.2.2.2.2.1
      have h_119 : w113 127 = iA G 12 (fun j => gl (58 + 3 * j)) := (hf113 127 (by decide)).trans hB_112.2.2.2.2.2.1
      have h_120 : w113 128 = iA G 12 (fun j => gl (59 + 3 * j)) := (hf113 128 (by decide)).trans hB_112.2.2.2.2.2.2
      have hLx_114 : kLog G w113 122 (kup gl 5 (nhV bt n 0 50 st_105)) := ⟨logO_of hw113 (by simp only [kup]; repeat (first | omega | rfl | split)) (by simp only [kup]; repeat (first | omega | rfl | split)) (by simp only [kup]; repeat (first | omega | rfl | split)) (by simp only [kup]; repeat (first | omega | rfl | split)) (by simp only [kup]; repeat (first | omega | rfl | split)) (by simp only [kup]; repeat (first | omega | rfl | split)), h_115.trans (iA_congr (fun j hj => by simp only [kup]; repeat (first | omega | rfl | split))), h_116.trans (iA_congr (fun j hj => by simp only [kup]; repeat (first | omega | rfl | split))), h_117.trans (iA_congr (fun j hj => by simp only [kup]; repeat (first | omega | rfl | split))), h_118.trans (iA_congr (fun j hj => by simp only [kup]; repeat (first | omega | rfl | split))), h_119.trans (iA_congr (fun j hj => by simp only [kup]; repeat (first | omega | rfl | split))), h_120.trans (iA_congr (fun j hj => by simp only [kup]; repeat (first | omega | rfl | split)))⟩
      refine k_goto hC 218 dX9_readClause_55 rfl ?_
      refine k_aload_n hC dX9_readClause_218 rfl 0 rfl ?_
      have h_121 : w113 116 = .inr (9, [.ref (kad G 1), .ref (kad G 117), .ref (kad G 122)]) := (hf113 116 (by decide)).trans ((hf107 116 (by decide)).trans h_106)
      refine k_get hC fd_X9_25 (kl hN (by decide)) h_121 rfl dX9_readClause_219 ?_
      refine k_bipush hC dX9_readClause_222 (by decide) ?_
      have hB_124 : tkR G w113 bt n st_110 := hT107.fr (fun j q1 q2 => (hf113 j (by omega)))
      have hTco_123 := hB_124
      obtain ⟨cno_123, eao_123, kdo_123, nmo_123, sao_123, nxo_123, h1o_123, -⟩ := hTco_123
      have h_125 : w113 2 = bA G 700 (fun j => sb8 (bt j)) := (hf113 2 (by decide)).trans ((hf107 2 (by decide)).trans h_109)
      refine k_muvV hC (c_X10_needSign l hls G hN w113 fl bt n st_110 59 (by omega) hn7 hb h_125 hB_124) yy_X10_needSign wm_X9_99 (kl hN (by decide)) h1o_123 rfl rfl rfl rfl (Nat.le_of_ble_eq_true rfl) (by decide) (by decide) ⟨by decide, by decide⟩ dX9_readClause_224 (fun w122 hp122 => ?_)
      obtain ⟨hT122, hf122⟩ := hp122
      obtain ⟨st_126, est_126⟩ : ∃ z : PS, z = nsP bt n 59 st_110 := ⟨_, rfl⟩
      rw [← est_126] at hT122
      have hB_127 : kPlan G w122 117 gp nl := hP2.fr (fun j q1 q2 => (hf122 j (by omega)).trans ((hf113 j (by omega)).trans ((hf107 j (by omega)).trans (hf104 j (by omega)))))
      have hB_128 : kLog G w122 122 (kup gl 5 (nhV bt n 0 50 st_105)) := hLx_114.fr (fun j q1 q2 => (hf122 j (by omega)))
      subst hQ
      exact k_vret hC hr ⟨by decide, by decide⟩ (⟨rfl, rfl, ⟨gp, kup gl 5 (nhV bt n 0 50 st_105), nl, hB_127, hB_128, fun hc => by have hq0 : clS0 bt n D st = st_110 := (by unfold clS0; rw [selP_0 (hz_2.resolve_left (fun q1 => by omega)).2, selP_1 (hz_3.resolve_right (fun q1 => by omega)).2, est_110, est_105]); have hc0 : st_110.1 = 0 := (by by_cases q : st_110.1 = 0; exact q; (unfold clS at hc; rw [hq0, nsP_e q] at hc; exact hc)); unfold clD; rw [selP_0 (hz_2.resolve_left (fun q1 => by omega)).2, selP_1 (hz_3.resolve_right (fun q1 => by omega)).2]; rw [← est_105, ← nhV_t (lo := 0) (hi := 50) (st := st_105) (by rw [← est_110]; exact hc0)]; exact ⟨hE.l1 (by omega) _, hNm.hd (fun j hj => by first | exact kup_n (by omega) | (unfold setM; rw [if_neg (by omega), if_neg (by omega)])) hI⟩⟩, (by have e : st_126 = clS bt n D st := (by unfold clS; have hq0 : clS0 bt n D st = st_110 := (by unfold clS0; rw [selP_0 (hz_2.resolve_left (fun q1 => by omega)).2, selP_1 (hz_3.resolve_right (fun q1 => by omega)).2, est_110, est_105]); rw [hq0, est_126]); rw [← e]; exact hT122), fun j hj => (hf122 j (by omega)).trans ((hf113 j (by omega)).trans ((hf107 j (by omega)).trans (hf104 j (by omega))))⟩) dX9_readClause_227
  · refine k_aload_n hC dX9_readClause_12 rfl 0 rfl ?_
    refine k_muvV hC (c_X9_readStart l hls G hN w fl bt gp gl nl D n st hn7 hb h2 hT hz h116 hE hI hNm hP2 hL2) yy_X9_readStart wm_X9_48 (kl hN (by decide)) h116 rfl rfl rfl rfl (Nat.le_of_ble_eq_true rfl) (by decide) (by decide) ⟨by decide, by decide⟩ dX9_readClause_13 (fun w129 hp129 => ?_)
    obtain ⟨⟨gp129, gl129, nl129, hP129, hL129, hdat129⟩, hT129, hf129⟩ := hp129
    obtain ⟨st_130, est_130⟩ : ∃ z : PS, z = sgP bt n 10799 (sgP bt n 3600 (adP bt n st)) := ⟨_, rfl⟩
    rw [← est_130] at hT129
    refine k_goto hC 218 dX9_readClause_16 rfl ?_
    refine k_aload_n hC dX9_readClause_218 rfl 0 rfl ?_
    have h_131 : w129 116 = .inr (9, [.ref (kad G 1), .ref (kad G 117), .ref (kad G 122)]) := (hf129 116 (by omega)).trans h116
    refine k_get hC fd_X9_25 (kl hN (by decide)) h_131 rfl dX9_readClause_219 ?_
    refine k_bipush hC dX9_readClause_222 (by decide) ?_
    have hTco_133 := hT129
    obtain ⟨cno_133, eao_133, kdo_133, nmo_133, sao_133, nxo_133, h1o_133, -⟩ := hTco_133
    have h_134 : w129 2 = bA G 700 (fun j => sb8 (bt j)) := (hf129 2 (by omega)).trans h2
    refine k_muvV hC (c_X10_needSign l hls G hN w129 fl bt n st_130 59 (by omega) hn7 hb h_134 hT129) yy_X10_needSign wm_X9_99 (kl hN (by decide)) h1o_133 rfl rfl rfl rfl (Nat.le_of_ble_eq_true rfl) (by decide) (by decide) ⟨by decide, by decide⟩ dX9_readClause_224 (fun w132 hp132 => ?_)
    obtain ⟨hT132, hf132⟩ := hp132
    obtain ⟨st_135, est_135⟩ : ∃ z : PS, z = nsP bt n 59 st_130 := ⟨_, rfl⟩
    rw [← est_135] at hT132
    have hB_136 : kPlan G w132 117 gp129 nl129 := hP129.fr (fun j q1 q2 => (hf132 j (by omega)))
    have hB_137 : kLog G w132 122 gl129 := hL129.fr (fun j q1 q2 => (hf132 j (by omega)))
    subst hQ
    exact k_vret hC hr ⟨by decide, by decide⟩ (⟨rfl, rfl, ⟨gp129, gl129, nl129, hB_136, hB_137, fun hc => by have hq0 : clS0 bt n D st = st_130 := (by unfold clS0; rw [selP_1 (hz_2.resolve_right (fun q1 => by omega)).2, est_130]); have hc0 : st_130.1 = 0 := (by by_cases q : st_130.1 = 0; exact q; (unfold clS at hc; rw [hq0, nsP_e q] at hc; exact hc)); unfold clD; rw [selP_1 (hz_2.resolve_right (fun q1 => by omega)).2]; exact hdat129 (by rw [← est_130]; exact hc0)⟩, (by have e : st_135 = clS bt n D st := (by unfold clS; have hq0 : clS0 bt n D st = st_130 := (by unfold clS0; rw [selP_1 (hz_2.resolve_right (fun q1 => by omega)).2, est_130]); rw [hq0, est_135]); rw [← e]; exact hT132), fun j hj => (hf132 j (by omega)).trans (hf129 j (by omega))⟩) dX9_readClause_227

