theorem ne0 {bt : Nat → Int} {n : Nat} {st : PS} (h : (neP bt n st).1 = 0) : st.1 = 0 := by
  by_cases q : goP bt n st
  · unfold neP at h; rw [selP_1 q] at h; exact absurd h (fl_c (by decide))
  · unfold neP at h; rw [selP_0 q] at h; exact h
theorem wd2930 : wdD 29 30 = true := by decide +kernel
theorem qyS_r {V : Int → Nat → Int} {bt : Nat → Int} {n : Nat} : qyS V bt n = neP bt n (tstM bt n (qG V bt n 6) (qy0 bt n)).1 := by
  unfold qyS qyR; rw [(rel_tst (rel_qF 6) (qy0 bt n)).1]
theorem qyV_0 {V : Int → Nat → Int} {bt : Nat → Int} {n N : Nat} (h : ¬ (qyS V bt n).1 = 0) : qyV V bt n N = -1000000000 - (qyS V bt n).1 := selI_0 h
theorem qyH {V : Int → Nat → Int} {bt : Nat → Int} {n : Nat} (h : (qyS V bt n).1 = 0) (N : Nat) : fiF (tstM bt n (qG V bt n 6) (qy0 bt n)).2.2 N = fiF (qyR V bt n).2.2 N ∧ ctF (tstM bt n (qG V bt n 6) (qy0 bt n)).2.2 N = ctF (qyR V bt n).2.2 N := by
  rw [qyS_r] at h
  exact fiF_c N (fun i _ => (rel_tst (rel_qF 6) (qy0 bt n)).2 (ne0 h) i)
theorem qyV_m {V : Int → Nat → Int} {bt : Nat → Int} {n N : Nat} (h : (qyS V bt n).1 = 0) (hm : isW bt n 29 (tx0 bt n)) : qyV V bt n N = ctF (tstM bt n (qG V bt n 6) (qy0 bt n)).2.2 N := by
  unfold qyV; rw [selI_1 h, selI_0 (isW_ne hm wd2930), (qyH h N).2]
theorem qyV_f {V : Int → Nat → Int} {bt : Nat → Int} {n N : Nat} (h : (qyS V bt n).1 = 0) (hm : isW bt n 30 (tx0 bt n)) : qyV V bt n N = fiF (tstM bt n (qG V bt n 6) (qy0 bt n)).2.2 N := by
  unfold qyV; rw [selI_1 h, selI_1 hm, (qyH h N).1]
theorem qyW {V : Int → Nat → Int} {bt : Nat → Int} {n : Nat} (hn : n ≤ 700) (h : (qyS V bt n).1 = 0) : isW bt n 29 (tx0 bt n) ∨ isW bt n 30 (tx0 bt n) := by
  by_cases q : isW bt n 29 (tx0 bt n) ∨ isW bt n 30 (tx0 bt n)
  · exact q
  · have h1 : (qyR V bt n).1.1 = 0 := ne0 h
    have e : (qy0 bt n).1 ≠ 0 := by unfold qy0; rw [selP_0 q]; exact fun z => fl_c (by decide) (ad_c.mp z)
    have h2 := gq_tst (gq_qF (V := V) (bt := bt) (n := n) 6) (qy0 bt n) (fun z => absurd z e) h1
    exact absurd h2.1 e
theorem fiF_z {h : Nat → Bool} : ∀ k : Nat, mkN h k = 0 → fiF h k = -1 := by
  intro k
  induction k with
  | zero => intro _; rfl
  | succ k ih =>
    intro q
    have q2 : (if h k = true then 2 ^ k + mkN h k else mkN h k) = 0 := q
    have hp : 0 < 2 ^ k := Nat.two_pow_pos k
    by_cases hk : h k = true
    · rw [if_pos hk] at q2; omega
    · rw [if_neg hk] at q2; exact (if_neg (fun z => hk z.2)).trans (ih q2)
set_option maxRecDepth 100000 in
set_option maxHeartbeats 4000000 in
theorem c_X11_query (l : Launch) (hls : l.stackTraces = false) (G : kG) (hN : 133 ≤ kN G) (w : Nat → va_E) (fl : va_W) (g nl bt : Nat → Int) (sv : Int) (c0 n : Nat) (cd ea kd nm sa nx en L : Int) (hL9 : -2147483648 ≤ L ∧ L ≤ 2147483647) (hnL : n = L.toNat) (hc7 : c0 ≤ 700) (hb : btOK bt) (hI : Inv g) (h00 : w 0 = srO G sv) (hL : kLog G w 3 g) (hP : kPlan G w 32 g nl) (hCt : kCht G w) (h2 : w 2 = byA G bt) (h129 : w 129 = qdO G) (hl0 : ∃ lf, w 130 = iA G 12 lf) (hr0 : ∃ rf, w 131 = iA G 12 rf) (h1 : w 1 = .inr (10, [.ref (kad G 2), vI (c0 : Int), vI cd, vI ea, vI kd, vI nm, vI sa, vI nx, vI en])) : KX l G yX11_query cX11_query 4 (some (FieldType.int)) 28 8 48 [.ref (kad G 0), vI L] w fl (kOk ((0 ≤ L ∧ L ≤ 200) ∧ L ≤ (c0 : Int)) (vI (qyV (pV g) bt n (g 2).toNat)) fl (fun w1 => tkR G w1 bt n (qyS (pV g) bt n) ∧ ((∃ lf, w1 130 = iA G 12 lf) ∧ ∃ rf, w1 131 = iA G 12 rf) ∧ kCht G w1 ∧ ∀ j, (j ≠ 1 ∧ j ≠ 130 ∧ j ≠ 131 ∧ (j < 10 ∨ 31 < j)) → w1 j = w j)) (kTh False (¬ ((0 ≤ L ∧ L ≤ 200) ∧ L ≤ (c0 : Int))) fl (fun w1 => w1 = w)) := by
  refine KX_of2 hls (by decide +kernel) rfl (lv0 := [(0, .ref (kad G 0)), (1, vI L)]) rfl (Nat.le_of_ble_eq_true rfl) (fun p e R s m args below meth c Q hC hr htb hQ => ?_)
  subst hQ
  obtain ⟨⟨h10, h11⟩, hLn, hSh, hH, h14, h15⟩ := hCt
  have h0 := hI.c
  obtain ⟨lf0, hlf0⟩ := hl0
  obtain ⟨rf0, hrf0⟩ := hr0
  refine k_iload_n hC dX11_query_0 rfl 1 rfl ?_
  refine k_if_lt hC 22 dX11_query_1 rfl (by omega) (fun c_1 => ?_) (fun c_1 => ?_)
  · exact k_thrI hC htb (List.mem_of_getElem? (i := 0) rfl) (by decide) ⟨by decide, by decide⟩ (Nat.le_of_ble_eq_true rfl) dX11_query_22 dX11_query_25 dX11_query_26 dX11_query_28 dX11_query_31 (⟨Or.inr ⟨rfl, by omega⟩, rfl, rfl⟩)
  · refine k_iload_n hC dX11_query_4 rfl 1 rfl ?_
    refine k_sipush hC dX11_query_5 (by decide) ?_
    refine k_icmp_gt hC 22 dX11_query_8 rfl (by omega) (by omega) (fun c_8 => ?_) (fun c_8 => ?_)
    · exact k_thrI hC htb (List.mem_of_getElem? (i := 0) rfl) (by decide) ⟨by decide, by decide⟩ (Nat.le_of_ble_eq_true rfl) dX11_query_22 dX11_query_25 dX11_query_26 dX11_query_28 dX11_query_31 (⟨Or.inr ⟨rfl, by omega⟩, rfl, rfl⟩)
    · refine k_iload_n hC dX11_query_11 rfl 1 rfl ?_
      refine k_aload_n hC dX11_query_12 rfl 0 rfl ?_
      refine k_get hC fd_X11_16 (kl hN (by decide)) h00 rfl dX11_query_13 ?_
      refine k_get hC fd_X11_72 (kl hN (by decide)) h1 rfl dX11_query_16 ?_
      refine k_icmp_le hC 32 dX11_query_19 rfl (by omega) (by omega) (fun c_19 => ?_) (fun c_19 => ?_)
      · obtain ⟨n9, en9⟩ : ∃ z : Nat, L = (z : Int) := ⟨L.toNat, by omega⟩
        subst en9
        have en : n = n9 := by omega
        subst en
        have hn7 : n ≤ 700 := by omega
        have hn2 : n ≤ 200 := by omega
        refine k_aload_n hC dX11_query_32 rfl 0 rfl ?_
        refine k_get hC fd_X11_43 (kl hN (by decide)) h00 rfl dX11_query_33 ?_
        refine k_aload_n hC dX11_query_36 rfl 0 rfl ?_
        refine k_get hC fd_X11_25 (kl hN (by decide)) h00 rfl dX11_query_37 ?_
        refine k_aload_n hC dX11_query_40 rfl 0 rfl ?_
        refine k_get hC fd_X11_29 (kl hN (by decide)) h00 rfl dX11_query_41 ?_
        refine k_iconst hC dX11_query_44 ?_
        refine k_muvV hC (c_X0_drawAll l hls G hN w fl g nl 0 hI (by omega) hL hP h10 h11 hLn hSh) yy_X0_drawAll wm_X11_118 (kl hN (by decide)) h10 rfl rfl rfl rfl (Nat.le_of_ble_eq_true rfl) (by decide) (by decide) ⟨by decide, by decide⟩ dX11_query_45 (fun w1 hp1 => ?_)
        obtain ⟨hD1, hLn1, hSh1, hf1⟩ := hp1
        refine k_aload_n hC dX11_query_48 rfl 0 rfl ?_
        have h_2 : w1 0 = .inr (11, [.ref (kad G 1), .ref (kad G 32), .ref (kad G 3), .ref (kad G 37), vI sv, .ref (kad G 44), .ref (kad G 10), .ref (kad G 116), .ref (kad G 129), .ref (kad G 132)]) := (hf1 0 (by omega)).trans h00
        refine k_get hC fd_X11_16 (kl hN (by decide)) h_2 rfl dX11_query_49 ?_
        refine k_iload_n hC dX11_query_52 rfl 1 rfl ?_
        have h_3 : w1 1 = .inr (10, [.ref (kad G 2), vI (c0 : Int), vI cd, vI ea, vI kd, vI nm, vI sa, vI nx, vI en]) := (hf1 1 (by omega)).trans h1
        have h_5 : w1 2 = bA G 700 (fun j => sb8 (bt j)) := (hf1 2 (by omega)).trans h2
        refine k_muvV hC (c_X10_begin l hls G hN w1 fl bt n (c0 : Int) cd ea kd nm sa nx en hn7 hb h_5 h_3) yy_X10_begin wm_X11_87 (kl hN (by decide)) h_3 rfl rfl rfl rfl (Nat.le_of_ble_eq_true rfl) (by decide) (by decide) ⟨by decide, by decide⟩ dX11_query_53 (fun w4 hp4 => ?_)
        obtain ⟨hT4, hf4⟩ := hp4
        obtain ⟨st0, est0⟩ : ∃ z : PS, z = tx0 bt n := ⟨_, rfl⟩
        rw [← est0] at hT4
        refine k_aload_n hC dX11_query_56 rfl 0 rfl ?_
        have h_6 : w4 0 = .inr (11, [.ref (kad G 1), .ref (kad G 32), .ref (kad G 3), .ref (kad G 37), vI sv, .ref (kad G 44), .ref (kad G 10), .ref (kad G 116), .ref (kad G 129), .ref (kad G 132)]) := (hf4 0 (by decide)).trans h_2
        refine k_get hC fd_X11_16 (kl hN (by decide)) h_6 rfl dX11_query_57 ?_
        refine k_ldcs hC (List.mem_of_getElem? (i := 29) rfl) dX11_query_60 ?_
        have hTco_7 := hT4
        obtain ⟨cno_7, eao_7, kdo_7, nmo_7, sao_7, nxo_7, h1o_7, -⟩ := hTco_7
        have h_8 : w4 2 = bA G 700 (fun j => sb8 (bt j)) := (hf4 2 (by decide)).trans h_5
        refine k_pureV hC (c_X10_isWord l hls G hN w4 fl bt n st0 29 (by decide) hn7 hb h_8 hT4) yy_X10_isWord wm_X11_124 (kl hN (by decide)) h1o_7 rfl rfl rfl rfl (Nat.le_of_ble_eq_true rfl) (by decide) (by decide) ⟨by decide, by decide⟩ dX11_query_62 ?_
        obtain ⟨z_9, ez_9, hz_9⟩ := selI_c (isW bt n 29 st0)
        refine k_topv (vI z_9) (by rw [ez_9]) ?_
        refine k_istore_n hC [(2, vI z_9), (0, .ref (kad G 0)), (1, vI (n : Int))] dX11_query_65 rfl (by decide) rfl ?_
        refine k_iload_n hC dX11_query_66 rfl 0 rfl ?_
        refine k_if_ne hC 90 dX11_query_67 rfl (by omega) (fun c_67 => ?_) (fun c_67 => ?_)
        · refine k_aload_n hC dX11_query_90 rfl 1 rfl ?_
          refine k_get hC fd_X11_16 (kl hN (by decide)) h_6 rfl dX11_query_91 ?_
          obtain ⟨cn10, ea10, kd10, nm10, sa10, p910, hp910, h110, hadv10⟩ := tk_open hT4
          refine k_muvV hC (c_X10_advance l hls G hN w4 fl bt n p910 cn10 st0.1 ea10 kd10 nm10 sa10 hn7 hp910 hb h_8 h110) yy_X10_advance wm_X11_133 (kl hN (by decide)) h110 rfl rfl rfl rfl (Nat.le_of_ble_eq_true rfl) (by decide) (by decide) ⟨by decide, by decide⟩ dX11_query_94 (fun w10 hp10 => ?_)
          obtain ⟨hq10, hf10⟩ := hp10
          have hT10 := hadv10 _ hq10
          obtain ⟨st_11, est_11⟩ : ∃ z : PS, z = adP bt n st0 := ⟨_, rfl⟩
          rw [← est_11] at hT10
          have hy0 : st_11 = qy0 bt n := by unfold qy0; rw [← est0, selP_1 (Or.inl (hz_9.resolve_right (fun q1 => by omega)).2)]; exact est_11
          refine k_aload_n hC dX11_query_97 rfl 1 rfl ?_
          have h_12 : w10 0 = .inr (11, [.ref (kad G 1), .ref (kad G 32), .ref (kad G 3), .ref (kad G 37), vI sv, .ref (kad G 44), .ref (kad G 10), .ref (kad G 116), .ref (kad G 129), .ref (kad G 132)]) := (hf10 0 (by decide)).trans h_6
          refine k_get hC fd_X11_61 (kl hN (by decide)) h_12 rfl dX11_query_98 ?_
          refine k_iconst hC dX11_query_101 ?_
          have h_14 : w10 130 = iA G 12 lf0 := (hf10 130 (by decide)).trans ((hf4 130 (by decide)).trans ((hf1 130 (by omega)).trans hlf0))
          have h_15 : w10 131 = iA G 12 rf0 := (hf10 131 (by decide)).trans ((hf4 131 (by decide)).trans ((hf1 131 (by omega)).trans hrf0))
          have h_16 : w10 2 = bA G 700 (fun j => sb8 (bt j)) := (hf10 2 (by decide)).trans h_8
          have h_17 : w10 129 = .inr (7, [.ref (kad G 1), .ref (kad G 3), .ref (kad G 10), .ref (kad G 130), .ref (kad G 131)]) := (hf10 129 (by decide)).trans ((hf4 129 (by decide)).trans ((hf1 129 (by omega)).trans h129))
          have hB_18 : kLog G w10 3 g := hL.fr (fun j q1 q2 => (hf10 j (by omega)).trans ((hf4 j (by omega)).trans (hf1 j (by omega))))
          have h_19 : w10 10 = .inr (0, [.ref (kad G 11), .ref (kad G 12), .ref (kad G 13), .ref (kad G 14), .ref (kad G 15), .ref (kad G 16)]) := (hf10 10 (by decide)).trans ((hf4 10 (by decide)).trans ((hf1 10 (by omega)).trans h10))
          have h_20 : w10 11 = rA G 4 12 (fun j => some (kad G (20 + j))) := (hf10 11 (by decide)).trans ((hf4 11 (by decide)).trans ((hf1 11 (by omega)).trans h11))
          have hB_21 : kDrawn w10 g 0 ((g 2).toNat) := hD1.fr (fun j q1 q2 => (hf10 j (by omega)).trans (hf4 j (by omega)))
          refine k_mutVN hC (c_X7_readTest_6 l hls G hN w10 fl bt n st_11 g hn2 hn7 hb h_16 hT10 h_17 hI hB_18 h_19 h_20 hB_21 ⟨_, h_14⟩ ⟨_, h_15⟩) yy_X7_readTest wm_X11_136 (kl hN (by decide)) h_17 rfl rfl rfl rfl (Nat.le_of_ble_eq_true rfl) (by decide) (by decide) ⟨by decide, by decide⟩ dX11_query_102 (fun w13 hp13 => ?_)
          obtain ⟨hT13, ⟨⟨lf13, hlf13⟩, rf13, hrf13⟩, hf13⟩ := hp13
          obtain ⟨st_22, est_22⟩ : ∃ z : PS, z = (tstM bt n (qG (pV g) bt n 6) st_11).1 := ⟨_, rfl⟩
          rw [← est_22] at hT13
          have hmk9 := mkN_12 (tstM bt n (qG (pV g) bt n 6) st_11).2.2 (show (g 2).toNat ≤ 12 by omega)
          refine k_istore_n hC [(3, vI ((mkN ((tstM bt n (qG (pV g) bt n 6) st_11).2.2) (g 2).toNat : Nat) : Int)), (2, vI z_9), (0, .ref (kad G 0)), (1, vI (n : Int))] dX11_query_105 rfl (by decide) rfl ?_
          refine k_aload_n hC dX11_query_106 rfl 2 rfl ?_
          have h_23 : w13 0 = .inr (11, [.ref (kad G 1), .ref (kad G 32), .ref (kad G 3), .ref (kad G 37), vI sv, .ref (kad G 44), .ref (kad G 10), .ref (kad G 116), .ref (kad G 129), .ref (kad G 132)]) := (hf13 0 (by decide)).trans h_12
          refine k_get hC fd_X11_16 (kl hN (by decide)) h_23 rfl dX11_query_107 ?_
          have hTco_25 := hT13
          obtain ⟨cno_25, eao_25, kdo_25, nmo_25, sao_25, nxo_25, h1o_25, -⟩ := hTco_25
          have h_26 : w13 2 = bA G 700 (fun j => sb8 (bt j)) := (hf13 2 (by decide)).trans h_16
          refine k_muvV hC (c_X10_needEnd l hls G hN w13 fl bt n st_22  hn7 hb h_26 hT13) yy_X10_needEnd wm_X11_140 (kl hN (by decide)) h1o_25 rfl rfl rfl rfl (Nat.le_of_ble_eq_true rfl) (by decide) (by decide) ⟨by decide, by decide⟩ dX11_query_110 (fun w24 hp24 => ?_)
          obtain ⟨hT24, hf24⟩ := hp24
          obtain ⟨st_27, est_27⟩ : ∃ z : PS, z = neP bt n st_22 := ⟨_, rfl⟩
          rw [← est_27] at hT24
          have hcb9 := tkR.c hT24
          have hqs : st_27 = qyS (pV g) bt n := by rw [qyS_r, ← hy0, ← est_22]; exact est_27
          refine k_aload_n hC dX11_query_113 rfl 2 rfl ?_
          have h_28 : w24 0 = .inr (11, [.ref (kad G 1), .ref (kad G 32), .ref (kad G 3), .ref (kad G 37), vI sv, .ref (kad G 44), .ref (kad G 10), .ref (kad G 116), .ref (kad G 129), .ref (kad G 132)]) := (hf24 0 (by decide)).trans h_23
          refine k_get hC fd_X11_16 (kl hN (by decide)) h_28 rfl dX11_query_114 ?_
          have hTco_29 := hT24
          obtain ⟨cno_29, eao_29, kdo_29, nmo_29, sao_29, nxo_29, h1o_29, -⟩ := hTco_29
          refine k_get hC fd_X11_93 (kl hN (by decide)) h1o_29 rfl dX11_query_117 ?_
          refine k_if_eq hC 134 dX11_query_120 rfl (by omega) (fun c_120 => ?_) (fun c_120 => ?_)
          · refine k_iload_n hC dX11_query_134 rfl 1 rfl ?_
            refine k_if_eq hC 143 dX11_query_135 rfl (by omega) (fun c_135 => ?_) (fun c_135 => ?_)
            · refine k_iload_n hC dX11_query_143 rfl 0 rfl ?_
              refine k_if_ne hC 151 dX11_query_144 rfl (by omega) (fun c_144 => ?_) (fun c_144 => ?_)
              · refine k_iload_n hC dX11_query_151 rfl 0 rfl ?_
                refine k_pureS hC (c_J6_numberOfTrailingZeros_0f7a4 l hls G hN w24 fl (mkN ((tstM bt n (qG (pV g) bt n 6) st_11).2.2) (g 2).toNat) (mkN_12 _ (by omega)) (by omega)) yy_J6_numberOfTrailingZeros_0f7a4 wm_X11_149 rfl rfl (Nat.le_of_ble_eq_true rfl) (by decide) (by decide) ⟨by decide, by decide⟩ dX11_query_152 ?_
                have hB_30 : kShip w24 := hSh1.fr (fun j q1 q2 => (hf24 j (by omega)).trans ((hf13 j (by omega)).trans ((hf10 j (by omega)).trans (hf4 j (by omega)))))
                have hB_31 : kHat G w24 := hH.fr (fun j q1 q2 => (hf24 j (by omega)).trans ((hf13 j (by omega)).trans ((hf10 j (by omega)).trans ((hf4 j (by omega)).trans (hf1 j (by omega))))))
                have hB_32 : kPl14 w24 := h14.fr (fun j q1 q2 => (hf24 j (by omega)).trans ((hf13 j (by omega)).trans ((hf10 j (by omega)).trans ((hf4 j (by omega)).trans (hf1 j (by omega))))))
                have hB_33 : kPl15 w24 := h15.fr (fun j q1 q2 => (hf24 j (by omega)).trans ((hf13 j (by omega)).trans ((hf10 j (by omega)).trans ((hf4 j (by omega)).trans (hf1 j (by omega))))))
                have h_34 : w24 10 = .inr (0, [.ref (kad G 11), .ref (kad G 12), .ref (kad G 13), .ref (kad G 14), .ref (kad G 15), .ref (kad G 16)]) := (hf24 10 (by decide)).trans ((hf13 10 (by decide)).trans h_19)
                have h_35 : w24 11 = rA G 4 12 (fun j => some (kad G (20 + j))) := (hf24 11 (by decide)).trans ((hf13 11 (by decide)).trans h_20)
                have hB_36 : kLines w24 := hLn1.fr (fun j q1 q2 => (hf24 j (by omega)).trans ((hf13 j (by omega)).trans ((hf10 j (by omega)).trans (hf4 j (by omega)))))
                have h_37 : w24 130 = iA G 12 lf13 := (hf24 130 (by decide)).trans hlf13
                have h_38 : w24 131 = iA G 12 rf13 := (hf24 131 (by decide)).trans hrf13
                exact k_iretX hC hr ⟨by decide, by decide⟩ (⟨by omega, congrArg (fun z => some (vI z)) (show (qyV (pV g) bt n (g 2).toNat : Int) = fiF (fun i => (mkN ((tstM bt n (qG (pV g) bt n 6) st_11).2.2) (g 2).toNat).testBit i) 12 from by rw [qyV_f (show (qyS (pV g) bt n).1 = 0 from by rw [← hqs]; omega) (show isW bt n 30 (tx0 bt n) from (qyW hn7 (show (qyS (pV g) bt n).1 = 0 from by rw [← hqs]; omega)).resolve_left (by rw [← est0]; exact (hz_9.resolve_left (fun q1 => by omega)).2)), ← hy0]; have h9 := fiF_m (tstM bt n (qG (pV g) bt n 6) st_11).2.2 (g 2).toNat (12 - (g 2).toNat); rw [show (g 2).toNat + (12 - (g 2).toNat) = 12 by omega] at h9; exact h9.symm), rfl, (by rw [← hqs]; exact hT24), ⟨⟨_, h_37⟩, _, h_38⟩, ⟨⟨h_34, h_35⟩, hB_36, hB_30, hB_31, hB_32, hB_33⟩, fun j hj => (hf24 j (by omega)).trans ((hf13 j (by omega)).trans ((hf10 j (by omega)).trans ((hf4 j (by omega)).trans (hf1 j (by omega)))))⟩) dX11_query_155
              · refine k_iconst hC dX11_query_147 ?_
                refine k_goto hC 155 dX11_query_148 rfl ?_
                have hB_39 : kShip w24 := hSh1.fr (fun j q1 q2 => (hf24 j (by omega)).trans ((hf13 j (by omega)).trans ((hf10 j (by omega)).trans (hf4 j (by omega)))))
                have hB_40 : kHat G w24 := hH.fr (fun j q1 q2 => (hf24 j (by omega)).trans ((hf13 j (by omega)).trans ((hf10 j (by omega)).trans ((hf4 j (by omega)).trans (hf1 j (by omega))))))
                have hB_41 : kPl14 w24 := h14.fr (fun j q1 q2 => (hf24 j (by omega)).trans ((hf13 j (by omega)).trans ((hf10 j (by omega)).trans ((hf4 j (by omega)).trans (hf1 j (by omega))))))
                have hB_42 : kPl15 w24 := h15.fr (fun j q1 q2 => (hf24 j (by omega)).trans ((hf13 j (by omega)).trans ((hf10 j (by omega)).trans ((hf4 j (by omega)).trans (hf1 j (by omega))))))
                have h_43 : w24 10 = .inr (0, [.ref (kad G 11), .ref (kad G 12), .ref (kad G 13), .ref (kad G 14), .ref (kad G 15), .ref (kad G 16)]) := (hf24 10 (by decide)).trans ((hf13 10 (by decide)).trans h_19)
                have h_44 : w24 11 = rA G 4 12 (fun j => some (kad G (20 + j))) := (hf24 11 (by decide)).trans ((hf13 11 (by decide)).trans h_20)
                have hB_45 : kLines w24 := hLn1.fr (fun j q1 q2 => (hf24 j (by omega)).trans ((hf13 j (by omega)).trans ((hf10 j (by omega)).trans (hf4 j (by omega)))))
                have h_46 : w24 130 = iA G 12 lf13 := (hf24 130 (by decide)).trans hlf13
                have h_47 : w24 131 = iA G 12 rf13 := (hf24 131 (by decide)).trans hrf13
                exact k_iretX hC hr ⟨by decide, by decide⟩ (⟨by omega, congrArg (fun z => some (vI z)) (show (qyV (pV g) bt n (g 2).toNat : Int) = -1 from by rw [qyV_f (show (qyS (pV g) bt n).1 = 0 from by rw [← hqs]; omega) (show isW bt n 30 (tx0 bt n) from (qyW hn7 (show (qyS (pV g) bt n).1 = 0 from by rw [← hqs]; omega)).resolve_left (by rw [← est0]; exact (hz_9.resolve_left (fun q1 => by omega)).2)), ← hy0]; exact fiF_z _ (by omega)), rfl, (by rw [← hqs]; exact hT24), ⟨⟨_, h_46⟩, _, h_47⟩, ⟨⟨h_43, h_44⟩, hB_45, hB_39, hB_40, hB_41, hB_42⟩, fun j hj => (hf24 j (by omega)).trans ((hf13 j (by omega)).trans ((hf10 j (by omega)).trans ((hf4 j (by omega)).trans (hf1 j (by omega)))))⟩) dX11_query_155
            · refine k_iload_n hC dX11_query_138 rfl 0 rfl ?_
              refine k_pureS hC (c_J6_bitCount_0f7a4 l hls G hN w24 fl (mkN ((tstM bt n (qG (pV g) bt n 6) st_11).2.2) (g 2).toNat) (mkN_12 _ (by omega))) yy_J6_bitCount_0f7a4 wm_X11_144 rfl rfl (Nat.le_of_ble_eq_true rfl) (by decide) (by decide) ⟨by decide, by decide⟩ dX11_query_139 ?_
              have hB_48 : kShip w24 := hSh1.fr (fun j q1 q2 => (hf24 j (by omega)).trans ((hf13 j (by omega)).trans ((hf10 j (by omega)).trans (hf4 j (by omega)))))
              have hB_49 : kHat G w24 := hH.fr (fun j q1 q2 => (hf24 j (by omega)).trans ((hf13 j (by omega)).trans ((hf10 j (by omega)).trans ((hf4 j (by omega)).trans (hf1 j (by omega))))))
              have hB_50 : kPl14 w24 := h14.fr (fun j q1 q2 => (hf24 j (by omega)).trans ((hf13 j (by omega)).trans ((hf10 j (by omega)).trans ((hf4 j (by omega)).trans (hf1 j (by omega))))))
              have hB_51 : kPl15 w24 := h15.fr (fun j q1 q2 => (hf24 j (by omega)).trans ((hf13 j (by omega)).trans ((hf10 j (by omega)).trans ((hf4 j (by omega)).trans (hf1 j (by omega))))))
              have h_52 : w24 10 = .inr (0, [.ref (kad G 11), .ref (kad G 12), .ref (kad G 13), .ref (kad G 14), .ref (kad G 15), .ref (kad G 16)]) := (hf24 10 (by decide)).trans ((hf13 10 (by decide)).trans h_19)
              have h_53 : w24 11 = rA G 4 12 (fun j => some (kad G (20 + j))) := (hf24 11 (by decide)).trans ((hf13 11 (by decide)).trans h_20)
              have hB_54 : kLines w24 := hLn1.fr (fun j q1 q2 => (hf24 j (by omega)).trans ((hf13 j (by omega)).trans ((hf10 j (by omega)).trans (hf4 j (by omega)))))
              have h_55 : w24 130 = iA G 12 lf13 := (hf24 130 (by decide)).trans hlf13
              have h_56 : w24 131 = iA G 12 rf13 := (hf24 131 (by decide)).trans hrf13
              exact k_iretX hC hr ⟨by decide, by decide⟩ (⟨by omega, congrArg (fun z => some (vI z)) (show (qyV (pV g) bt n (g 2).toNat : Int) = ctF (fun i => (mkN ((tstM bt n (qG (pV g) bt n 6) st_11).2.2) (g 2).toNat).testBit i) 12 from by rw [qyV_m (show (qyS (pV g) bt n).1 = 0 from by rw [← hqs]; omega) (show isW bt n 29 (tx0 bt n) from by rw [← est0]; exact (hz_9.resolve_right (fun q1 => by omega)).2), ← hy0]; have h9 := ctF_m (tstM bt n (qG (pV g) bt n 6) st_11).2.2 (g 2).toNat (12 - (g 2).toNat); rw [show (g 2).toNat + (12 - (g 2).toNat) = 12 by omega] at h9; exact h9.symm), rfl, (by rw [← hqs]; exact hT24), ⟨⟨_, h_55⟩, _, h_56⟩, ⟨⟨h_52, h_53⟩, hB_54, hB_48, hB_49, hB_50, hB_51⟩, fun j hj => (hf24 j (by omega)).trans ((hf13 j (by omega)).trans ((hf10 j (by omega)).trans ((hf4 j (by omega)).trans (hf1 j (by omega)))))⟩) dX11_query_142
          · refine k_ldc hC (x := (-1000000000)) (v := (-1000000000)) dX11_query_123 (by decide) wk_X11_143 ?_
            refine k_aload_n hC dX11_query_125 rfl 2 rfl ?_
            refine k_get hC fd_X11_16 (kl hN (by decide)) h_28 rfl dX11_query_126 ?_
            refine k_get hC fd_X11_93 (kl hN (by decide)) h1o_29 rfl dX11_query_129 ?_
            refine k_isub hC dX11_query_132 ?_
            have hB_57 : kShip w24 := hSh1.fr (fun j q1 q2 => (hf24 j (by omega)).trans ((hf13 j (by omega)).trans ((hf10 j (by omega)).trans (hf4 j (by omega)))))
            have hB_58 : kHat G w24 := hH.fr (fun j q1 q2 => (hf24 j (by omega)).trans ((hf13 j (by omega)).trans ((hf10 j (by omega)).trans ((hf4 j (by omega)).trans (hf1 j (by omega))))))
            have hB_59 : kPl14 w24 := h14.fr (fun j q1 q2 => (hf24 j (by omega)).trans ((hf13 j (by omega)).trans ((hf10 j (by omega)).trans ((hf4 j (by omega)).trans (hf1 j (by omega))))))
            have hB_60 : kPl15 w24 := h15.fr (fun j q1 q2 => (hf24 j (by omega)).trans ((hf13 j (by omega)).trans ((hf10 j (by omega)).trans ((hf4 j (by omega)).trans (hf1 j (by omega))))))
            have h_61 : w24 10 = .inr (0, [.ref (kad G 11), .ref (kad G 12), .ref (kad G 13), .ref (kad G 14), .ref (kad G 15), .ref (kad G 16)]) := (hf24 10 (by decide)).trans ((hf13 10 (by decide)).trans h_19)
            have h_62 : w24 11 = rA G 4 12 (fun j => some (kad G (20 + j))) := (hf24 11 (by decide)).trans ((hf13 11 (by decide)).trans h_20)
            have hB_63 : kLines w24 := hLn1.fr (fun j q1 q2 => (hf24 j (by omega)).trans ((hf13 j (by omega)).trans ((hf10 j (by omega)).trans (hf4 j (by omega)))))
            have h_64 : w24 130 = iA G 12 lf13 := (hf24 130 (by decide)).trans hlf13
            have h_65 : w24 131 = iA G 12 rf13 := (hf24 131 (by decide)).trans hrf13
            exact k_iretX hC hr ⟨by decide, by decide⟩ (⟨by omega, congrArg (fun z => some (vI z)) (show (qyV (pV g) bt n (g 2).toNat : Int) = (-1000000000) - st_27.1 from by rw [qyV_0 (by rw [← hqs]; omega), ← hqs]), rfl, (by rw [← hqs]; exact hT24), ⟨⟨_, h_64⟩, _, h_65⟩, ⟨⟨h_61, h_62⟩, hB_63, hB_57, hB_58, hB_59, hB_60⟩, fun j hj => (hf24 j (by omega)).trans ((hf13 j (by omega)).trans ((hf10 j (by omega)).trans ((hf4 j (by omega)).trans (hf1 j (by omega)))))⟩) dX11_query_133
        · refine k_aload_n hC dX11_query_70 rfl 1 rfl ?_
          refine k_get hC fd_X11_16 (kl hN (by decide)) h_6 rfl dX11_query_71 ?_
          refine k_ldcs hC (List.mem_of_getElem? (i := 30) rfl) dX11_query_74 ?_
          refine k_pureV hC (c_X10_isWord l hls G hN w4 fl bt n st0 30 (by decide) hn7 hb h_8 hT4) yy_X10_isWord wm_X11_124 (kl hN (by decide)) h1o_7 rfl rfl rfl rfl (Nat.le_of_ble_eq_true rfl) (by decide) (by decide) ⟨by decide, by decide⟩ dX11_query_76 ?_
          obtain ⟨z_66, ez_66, hz_66⟩ := selI_c (isW bt n 30 st0)
          refine k_topv (vI z_66) (by rw [ez_66]) ?_
          refine k_if_ne hC 90 dX11_query_79 rfl (by omega) (fun c_79 => ?_) (fun c_79 => ?_)
          · refine k_aload_n hC dX11_query_90 rfl 1 rfl ?_
            refine k_get hC fd_X11_16 (kl hN (by decide)) h_6 rfl dX11_query_91 ?_
            obtain ⟨cn67, ea67, kd67, nm67, sa67, p967, hp967, h167, hadv67⟩ := tk_open hT4
            refine k_muvV hC (c_X10_advance l hls G hN w4 fl bt n p967 cn67 st0.1 ea67 kd67 nm67 sa67 hn7 hp967 hb h_8 h167) yy_X10_advance wm_X11_133 (kl hN (by decide)) h167 rfl rfl rfl rfl (Nat.le_of_ble_eq_true rfl) (by decide) (by decide) ⟨by decide, by decide⟩ dX11_query_94 (fun w67 hp67 => ?_)
            obtain ⟨hq67, hf67⟩ := hp67
            have hT67 := hadv67 _ hq67
            obtain ⟨st_68, est_68⟩ : ∃ z : PS, z = adP bt n st0 := ⟨_, rfl⟩
            rw [← est_68] at hT67
            have hy0 : st_68 = qy0 bt n := by unfold qy0; rw [← est0, selP_1 (Or.inr (hz_66.resolve_right (fun q1 => by omega)).2)]; exact est_68
            refine k_aload_n hC dX11_query_97 rfl 1 rfl ?_
            have h_69 : w67 0 = .inr (11, [.ref (kad G 1), .ref (kad G 32), .ref (kad G 3), .ref (kad G 37), vI sv, .ref (kad G 44), .ref (kad G 10), .ref (kad G 116), .ref (kad G 129), .ref (kad G 132)]) := (hf67 0 (by decide)).trans h_6
            refine k_get hC fd_X11_61 (kl hN (by decide)) h_69 rfl dX11_query_98 ?_
            refine k_iconst hC dX11_query_101 ?_
            have h_71 : w67 130 = iA G 12 lf0 := (hf67 130 (by decide)).trans ((hf4 130 (by decide)).trans ((hf1 130 (by omega)).trans hlf0))
            have h_72 : w67 131 = iA G 12 rf0 := (hf67 131 (by decide)).trans ((hf4 131 (by decide)).trans ((hf1 131 (by omega)).trans hrf0))
            have h_73 : w67 2 = bA G 700 (fun j => sb8 (bt j)) := (hf67 2 (by decide)).trans h_8
            have h_74 : w67 129 = .inr (7, [.ref (kad G 1), .ref (kad G 3), .ref (kad G 10), .ref (kad G 130), .ref (kad G 131)]) := (hf67 129 (by decide)).trans ((hf4 129 (by decide)).trans ((hf1 129 (by omega)).trans h129))
            have hB_75 : kLog G w67 3 g := hL.fr (fun j q1 q2 => (hf67 j (by omega)).trans ((hf4 j (by omega)).trans (hf1 j (by omega))))
            have h_76 : w67 10 = .inr (0, [.ref (kad G 11), .ref (kad G 12), .ref (kad G 13), .ref (kad G 14), .ref (kad G 15), .ref (kad G 16)]) := (hf67 10 (by decide)).trans ((hf4 10 (by decide)).trans ((hf1 10 (by omega)).trans h10))
            have h_77 : w67 11 = rA G 4 12 (fun j => some (kad G (20 + j))) := (hf67 11 (by decide)).trans ((hf4 11 (by decide)).trans ((hf1 11 (by omega)).trans h11))
            have hB_78 : kDrawn w67 g 0 ((g 2).toNat) := hD1.fr (fun j q1 q2 => (hf67 j (by omega)).trans (hf4 j (by omega)))
            refine k_mutVN hC (c_X7_readTest_6 l hls G hN w67 fl bt n st_68 g hn2 hn7 hb h_73 hT67 h_74 hI hB_75 h_76 h_77 hB_78 ⟨_, h_71⟩ ⟨_, h_72⟩) yy_X7_readTest wm_X11_136 (kl hN (by decide)) h_74 rfl rfl rfl rfl (Nat.le_of_ble_eq_true rfl) (by decide) (by decide) ⟨by decide, by decide⟩ dX11_query_102 (fun w70 hp70 => ?_)
            obtain ⟨hT70, ⟨⟨lf70, hlf70⟩, rf70, hrf70⟩, hf70⟩ := hp70
            obtain ⟨st_79, est_79⟩ : ∃ z : PS, z = (tstM bt n (qG (pV g) bt n 6) st_68).1 := ⟨_, rfl⟩
            rw [← est_79] at hT70
            have hmk9 := mkN_12 (tstM bt n (qG (pV g) bt n 6) st_68).2.2 (show (g 2).toNat ≤ 12 by omega)
            refine k_istore_n hC [(3, vI ((mkN ((tstM bt n (qG (pV g) bt n 6) st_68).2.2) (g 2).toNat : Nat) : Int)), (2, vI z_9), (0, .ref (kad G 0)), (1, vI (n : Int))] dX11_query_105 rfl (by decide) rfl ?_
            refine k_aload_n hC dX11_query_106 rfl 2 rfl ?_
            have h_80 : w70 0 = .inr (11, [.ref (kad G 1), .ref (kad G 32), .ref (kad G 3), .ref (kad G 37), vI sv, .ref (kad G 44), .ref (kad G 10), .ref (kad G 116), .ref (kad G 129), .ref (kad G 132)]) := (hf70 0 (by decide)).trans h_69
            refine k_get hC fd_X11_16 (kl hN (by decide)) h_80 rfl dX11_query_107 ?_
            have hTco_82 := hT70
            obtain ⟨cno_82, eao_82, kdo_82, nmo_82, sao_82, nxo_82, h1o_82, -⟩ := hTco_82
            have h_83 : w70 2 = bA G 700 (fun j => sb8 (bt j)) := (hf70 2 (by decide)).trans h_73
            refine k_muvV hC (c_X10_needEnd l hls G hN w70 fl bt n st_79  hn7 hb h_83 hT70) yy_X10_needEnd wm_X11_140 (kl hN (by decide)) h1o_82 rfl rfl rfl rfl (Nat.le_of_ble_eq_true rfl) (by decide) (by decide) ⟨by decide, by decide⟩ dX11_query_110 (fun w81 hp81 => ?_)
            obtain ⟨hT81, hf81⟩ := hp81
            obtain ⟨st_84, est_84⟩ : ∃ z : PS, z = neP bt n st_79 := ⟨_, rfl⟩
            rw [← est_84] at hT81
            have hcb9 := tkR.c hT81
            have hqs : st_84 = qyS (pV g) bt n := by rw [qyS_r, ← hy0, ← est_79]; exact est_84
            refine k_aload_n hC dX11_query_113 rfl 2 rfl ?_
            have h_85 : w81 0 = .inr (11, [.ref (kad G 1), .ref (kad G 32), .ref (kad G 3), .ref (kad G 37), vI sv, .ref (kad G 44), .ref (kad G 10), .ref (kad G 116), .ref (kad G 129), .ref (kad G 132)]) := (hf81 0 (by decide)).trans h_80
            refine k_get hC fd_X11_16 (kl hN (by decide)) h_85 rfl dX11_query_114 ?_
            have hTco_86 := hT81
            obtain ⟨cno_86, eao_86, kdo_86, nmo_86, sao_86, nxo_86, h1o_86, -⟩ := hTco_86
            refine k_get hC fd_X11_93 (kl hN (by decide)) h1o_86 rfl dX11_query_117 ?_
            refine k_if_eq hC 134 dX11_query_120 rfl (by omega) (fun c_120 => ?_) (fun c_120 => ?_)
            · refine k_iload_n hC dX11_query_134 rfl 1 rfl ?_
              refine k_if_eq hC 143 dX11_query_135 rfl (by omega) (fun c_135 => ?_) (fun c_135 => ?_)
              · refine k_iload_n hC dX11_query_143 rfl 0 rfl ?_
                refine k_if_ne hC 151 dX11_query_144 rfl (by omega) (fun c_144 => ?_) (fun c_144 => ?_)
                · refine k_iload_n hC dX11_query_151 rfl 0 rfl ?_
                  refine k_pureS hC (c_J6_numberOfTrailingZeros_0f7a4 l hls G hN w81 fl (mkN ((tstM bt n (qG (pV g) bt n 6) st_68).2.2) (g 2).toNat) (mkN_12 _ (by omega)) (by omega)) yy_J6_numberOfTrailingZeros_0f7a4 wm_X11_149 rfl rfl (Nat.le_of_ble_eq_true rfl) (by decide) (by decide) ⟨by decide, by decide⟩ dX11_query_152 ?_
                  have hB_87 : kShip w81 := hSh1.fr (fun j q1 q2 => (hf81 j (by omega)).trans ((hf70 j (by omega)).trans ((hf67 j (by omega)).trans (hf4 j (by omega)))))
                  have hB_88 : kHat G w81 := hH.fr (fun j q1 q2 => (hf81 j (by omega)).trans ((hf70 j (by omega)).trans ((hf67 j (by omega)).trans ((hf4 j (by omega)).trans (hf1 j (by omega))))))
                  have hB_89 : kPl14 w81 := h14.fr (fun j q1 q2 => (hf81 j (by omega)).trans ((hf70 j (by omega)).trans ((hf67 j (by omega)).trans ((hf4 j (by omega)).trans (hf1 j (by omega))))))
                  have hB_90 : kPl15 w81 := h15.fr (fun j q1 q2 => (hf81 j (by omega)).trans ((hf70 j (by omega)).trans ((hf67 j (by omega)).trans ((hf4 j (by omega)).trans (hf1 j (by omega))))))
                  have h_91 : w81 10 = .inr (0, [.ref (kad G 11), .ref (kad G 12), .ref (kad G 13), .ref (kad G 14), .ref (kad G 15), .ref (kad G 16)]) := (hf81 10 (by decide)).trans ((hf70 10 (by decide)).trans h_76)
                  have h_92 : w81 11 = rA G 4 12 (fun j => some (kad G (20 + j))) := (hf81 11 (by decide)).trans ((hf70 11 (by decide)).trans h_77)
                  have hB_93 : kLines w81 := hLn1.fr (fun j q1 q2 => (hf81 j (by omega)).trans ((hf70 j (by omega)).trans ((hf67 j (by omega)).trans (hf4 j (by omega)))))
                  have h_94 : w81 130 = iA G 12 lf70 := (hf81 130 (by decide)).trans hlf70
                  have h_95 : w81 131 = iA G 12 rf70 := (hf81 131 (by decide)).trans hrf70
                  exact k_iretX hC hr ⟨by decide, by decide⟩ (⟨by omega, congrArg (fun z => some (vI z)) (show (qyV (pV g) bt n (g 2).toNat : Int) = fiF (fun i => (mkN ((tstM bt n (qG (pV g) bt n 6) st_68).2.2) (g 2).toNat).testBit i) 12 from by rw [qyV_f (show (qyS (pV g) bt n).1 = 0 from by rw [← hqs]; omega) (show isW bt n 30 (tx0 bt n) from (qyW hn7 (show (qyS (pV g) bt n).1 = 0 from by rw [← hqs]; omega)).resolve_left (by rw [← est0]; exact (hz_9.resolve_left (fun q1 => by omega)).2)), ← hy0]; have h9 := fiF_m (tstM bt n (qG (pV g) bt n 6) st_68).2.2 (g 2).toNat (12 - (g 2).toNat); rw [show (g 2).toNat + (12 - (g 2).toNat) = 12 by omega] at h9; exact h9.symm), rfl, (by rw [← hqs]; exact hT81), ⟨⟨_, h_94⟩, _, h_95⟩, ⟨⟨h_91, h_92⟩, hB_93, hB_87, hB_88, hB_89, hB_90⟩, fun j hj => (hf81 j (by omega)).trans ((hf70 j (by omega)).trans ((hf67 j (by omega)).trans ((hf4 j (by omega)).trans (hf1 j (by omega)))))⟩) dX11_query_155
                · refine k_iconst hC dX11_query_147 ?_
                  refine k_goto hC 155 dX11_query_148 rfl ?_
                  have hB_96 : kShip w81 := hSh1.fr (fun j q1 q2 => (hf81 j (by omega)).trans ((hf70 j (by omega)).trans ((hf67 j (by omega)).trans (hf4 j (by omega)))))
                  have hB_97 : kHat G w81 := hH.fr (fun j q1 q2 => (hf81 j (by omega)).trans ((hf70 j (by omega)).trans ((hf67 j (by omega)).trans ((hf4 j (by omega)).trans (hf1 j (by omega))))))
                  have hB_98 : kPl14 w81 := h14.fr (fun j q1 q2 => (hf81 j (by omega)).trans ((hf70 j (by omega)).trans ((hf67 j (by omega)).trans ((hf4 j (by omega)).trans (hf1 j (by omega))))))
                  have hB_99 : kPl15 w81 := h15.fr (fun j q1 q2 => (hf81 j (by omega)).trans ((hf70 j (by omega)).trans ((hf67 j (by omega)).trans ((hf4 j (by omega)).trans (hf1 j (by omega))))))
                  have h_100 : w81 10 = .inr (0, [.ref (kad G 11), .ref (kad G 12), .ref (kad G 13), .ref (kad G 14), .ref (kad G 15), .ref (kad G 16)]) := (hf81 10 (by decide)).trans ((hf70 10 (by decide)).trans h_76)
                  have h_101 : w81 11 = rA G 4 12 (fun j => some (kad G (20 + j))) := (hf81 11 (by decide)).trans ((hf70 11 (by decide)).trans h_77)
                  have hB_102 : kLines w81 := hLn1.fr (fun j q1 q2 => (hf81 j (by omega)).trans ((hf70 j (by omega)).trans ((hf67 j (by omega)).trans (hf4 j (by omega)))))
                  have h_103 : w81 130 = iA G 12 lf70 := (hf81 130 (by decide)).trans hlf70
                  have h_104 : w81 131 = iA G 12 rf70 := (hf81 131 (by decide)).trans hrf70
                  exact k_iretX hC hr ⟨by decide, by decide⟩ (⟨by omega, congrArg (fun z => some (vI z)) (show (qyV (pV g) bt n (g 2).toNat : Int) = -1 from by rw [qyV_f (show (qyS (pV g) bt n).1 = 0 from by rw [← hqs]; omega) (show isW bt n 30 (tx0 bt n) from (qyW hn7 (show (qyS (pV g) bt n).1 = 0 from by rw [← hqs]; omega)).resolve_left (by rw [← est0]; exact (hz_9.resolve_left (fun q1 => by omega)).2)), ← hy0]; exact fiF_z _ (by omega)), rfl, (by rw [← hqs]; exact hT81), ⟨⟨_, h_103⟩, _, h_104⟩, ⟨⟨h_100, h_101⟩, hB_102, hB_96, hB_97, hB_98, hB_99⟩, fun j hj => (hf81 j (by omega)).trans ((hf70 j (by omega)).trans ((hf67 j (by omega)).trans ((hf4 j (by omega)).trans (hf1 j (by omega)))))⟩) dX11_query_155
              · refine k_iload_n hC dX11_query_138 rfl 0 rfl ?_
                refine k_pureS hC (c_J6_bitCount_0f7a4 l hls G hN w81 fl (mkN ((tstM bt n (qG (pV g) bt n 6) st_68).2.2) (g 2).toNat) (mkN_12 _ (by omega))) yy_J6_bitCount_0f7a4 wm_X11_144 rfl rfl (Nat.le_of_ble_eq_true rfl) (by decide) (by decide) ⟨by decide, by decide⟩ dX11_query_139 ?_
                have hB_105 : kShip w81 := hSh1.fr (fun j q1 q2 => (hf81 j (by omega)).trans ((hf70 j (by omega)).trans ((hf67 j (by omega)).trans (hf4 j (by omega)))))
                have hB_106 : kHat G w81 := hH.fr (fun j q1 q2 => (hf81 j (by omega)).trans ((hf70 j (by omega)).trans ((hf67 j (by omega)).trans ((hf4 j (by omega)).trans (hf1 j (by omega))))))
                have hB_107 : kPl14 w81 := h14.fr (fun j q1 q2 => (hf81 j (by omega)).trans ((hf70 j (by omega)).trans ((hf67 j (by omega)).trans ((hf4 j (by omega)).trans (hf1 j (by omega))))))
                have hB_108 : kPl15 w81 := h15.fr (fun j q1 q2 => (hf81 j (by omega)).trans ((hf70 j (by omega)).trans ((hf67 j (by omega)).trans ((hf4 j (by omega)).trans (hf1 j (by omega))))))
                have h_109 : w81 10 = .inr (0, [.ref (kad G 11), .ref (kad G 12), .ref (kad G 13), .ref (kad G 14), .ref (kad G 15), .ref (kad G 16)]) := (hf81 10 (by decide)).trans ((hf70 10 (by decide)).trans h_76)
                have h_110 : w81 11 = rA G 4 12 (fun j => some (kad G (20 + j))) := (hf81 11 (by decide)).trans ((hf70 11 (by decide)).trans h_77)
                have hB_111 : kLines w81 := hLn1.fr (fun j q1 q2 => (hf81 j (by omega)).trans ((hf70 j (by omega)).trans ((hf67 j (by omega)).trans (hf4 j (by omega)))))
                have h_112 : w81 130 = iA G 12 lf70 := (hf81 130 (by decide)).trans hlf70
                have h_113 : w81 131 = iA G 12 rf70 := (hf81 131 (by decide)).trans hrf70
                exact k_iretX hC hr ⟨by decide, by decide⟩ (⟨by omega, congrArg (fun z => some (vI z)) (show (qyV (pV g) bt n (g 2).toNat : Int) = ctF (fun i => (mkN ((tstM bt n (qG (pV g) bt n 6) st_68).2.2) (g 2).toNat).testBit i) 12 from by rw [qyV_m (show (qyS (pV g) bt n).1 = 0 from by rw [← hqs]; omega) (show isW bt n 29 (tx0 bt n) from by rw [← est0]; exact (hz_9.resolve_right (fun q1 => by omega)).2), ← hy0]; have h9 := ctF_m (tstM bt n (qG (pV g) bt n 6) st_68).2.2 (g 2).toNat (12 - (g 2).toNat); rw [show (g 2).toNat + (12 - (g 2).toNat) = 12 by omega] at h9; exact h9.symm), rfl, (by rw [← hqs]; exact hT81), ⟨⟨_, h_112⟩, _, h_113⟩, ⟨⟨h_109, h_110⟩, hB_111, hB_105, hB_106, hB_107, hB_108⟩, fun j hj => (hf81 j (by omega)).trans ((hf70 j (by omega)).trans ((hf67 j (by omega)).trans ((hf4 j (by omega)).trans (hf1 j (by omega)))))⟩) dX11_query_142
            · refine k_ldc hC (x := (-1000000000)) (v := (-1000000000)) dX11_query_123 (by decide) wk_X11_143 ?_
              refine k_aload_n hC dX11_query_125 rfl 2 rfl ?_
              refine k_get hC fd_X11_16 (kl hN (by decide)) h_85 rfl dX11_query_126 ?_
              refine k_get hC fd_X11_93 (kl hN (by decide)) h1o_86 rfl dX11_query_129 ?_
              refine k_isub hC dX11_query_132 ?_
              have hB_114 : kShip w81 := hSh1.fr (fun j q1 q2 => (hf81 j (by omega)).trans ((hf70 j (by omega)).trans ((hf67 j (by omega)).trans (hf4 j (by omega)))))
              have hB_115 : kHat G w81 := hH.fr (fun j q1 q2 => (hf81 j (by omega)).trans ((hf70 j (by omega)).trans ((hf67 j (by omega)).trans ((hf4 j (by omega)).trans (hf1 j (by omega))))))
              have hB_116 : kPl14 w81 := h14.fr (fun j q1 q2 => (hf81 j (by omega)).trans ((hf70 j (by omega)).trans ((hf67 j (by omega)).trans ((hf4 j (by omega)).trans (hf1 j (by omega))))))
              have hB_117 : kPl15 w81 := h15.fr (fun j q1 q2 => (hf81 j (by omega)).trans ((hf70 j (by omega)).trans ((hf67 j (by omega)).trans ((hf4 j (by omega)).trans (hf1 j (by omega))))))
              have h_118 : w81 10 = .inr (0, [.ref (kad G 11), .ref (kad G 12), .ref (kad G 13), .ref (kad G 14), .ref (kad G 15), .ref (kad G 16)]) := (hf81 10 (by decide)).trans ((hf70 10 (by decide)).trans h_76)
              have h_119 : w81 11 = rA G 4 12 (fun j => some (kad G (20 + j))) := (hf81 11 (by decide)).trans ((hf70 11 (by decide)).trans h_77)
              have hB_120 : kLines w81 := hLn1.fr (fun j q1 q2 => (hf81 j (by omega)).trans ((hf70 j (by omega)).trans ((hf67 j (by omega)).trans (hf4 j (by omega)))))
              have h_121 : w81 130 = iA G 12 lf70 := (hf81 130 (by decide)).trans hlf70
              have h_122 : w81 131 = iA G 12 rf70 := (hf81 131 (by decide)).trans hrf70
              exact k_iretX hC hr ⟨by decide, by decide⟩ (⟨by omega, congrArg (fun z => some (vI z)) (show (qyV (pV g) bt n (g 2).toNat : Int) = (-1000000000) - st_84.1 from by rw [qyV_0 (by rw [← hqs]; omega), ← hqs]), rfl, (by rw [← hqs]; exact hT81), ⟨⟨_, h_121⟩, _, h_122⟩, ⟨⟨h_118, h_119⟩, hB_120, hB_114, hB_115, hB_116, hB_117⟩, fun j hj => (hf81 j (by omega)).trans ((hf70 j (by omega)).trans ((hf67 j (by omega)).trans ((hf4 j (by omega)).trans (hf1 j (by omega)))))⟩) dX11_query_133
          · refine k_aload_n hC dX11_query_82 rfl 1 rfl ?_
            refine k_get hC fd_X11_16 (kl hN (by decide)) h_6 rfl dX11_query_83 ?_
            refine k_iconst hC dX11_query_86 ?_
            refine k_muvV hC (c_X10_fail l hls G hN w4 fl bt n st0 1 (by omega) hn7 hb h_8 hT4) yy_X10_fail wm_X11_130 (kl hN (by decide)) h1o_7 rfl rfl rfl rfl (Nat.le_of_ble_eq_true rfl) (by decide) (by decide) ⟨by decide, by decide⟩ dX11_query_87 (fun w123 hp123 => ?_)
            obtain ⟨hT123, hf123⟩ := hp123
            obtain ⟨st_124, est_124⟩ : ∃ z : PS, z = flP 1 st0 := ⟨_, rfl⟩
            rw [← est_124] at hT123
            refine k_aload_n hC dX11_query_90 rfl 1 rfl ?_
            have h_125 : w123 0 = .inr (11, [.ref (kad G 1), .ref (kad G 32), .ref (kad G 3), .ref (kad G 37), vI sv, .ref (kad G 44), .ref (kad G 10), .ref (kad G 116), .ref (kad G 129), .ref (kad G 132)]) := (hf123 0 (by decide)).trans h_6
            refine k_get hC fd_X11_16 (kl hN (by decide)) h_125 rfl dX11_query_91 ?_
            obtain ⟨cn126, ea126, kd126, nm126, sa126, p9126, hp9126, h1126, hadv126⟩ := tk_open hT123
            have h_127 : w123 2 = bA G 700 (fun j => sb8 (bt j)) := (hf123 2 (by decide)).trans h_8
            refine k_muvV hC (c_X10_advance l hls G hN w123 fl bt n p9126 cn126 st_124.1 ea126 kd126 nm126 sa126 hn7 hp9126 hb h_127 h1126) yy_X10_advance wm_X11_133 (kl hN (by decide)) h1126 rfl rfl rfl rfl (Nat.le_of_ble_eq_true rfl) (by decide) (by decide) ⟨by decide, by decide⟩ dX11_query_94 (fun w126 hp126 => ?_)
            obtain ⟨hq126, hf126⟩ := hp126
            have hT126 := hadv126 _ hq126
            obtain ⟨st_128, est_128⟩ : ∃ z : PS, z = adP bt n st_124 := ⟨_, rfl⟩
            rw [← est_128] at hT126
            have hy0 : st_128 = qy0 bt n := by unfold qy0; rw [← est0, selP_0 (fun q => q.elim (hz_9.resolve_left (fun q1 => by omega)).2 (hz_66.resolve_left (fun q1 => by omega)).2), ← est_124]; exact est_128
            refine k_aload_n hC dX11_query_97 rfl 1 rfl ?_
            have h_129 : w126 0 = .inr (11, [.ref (kad G 1), .ref (kad G 32), .ref (kad G 3), .ref (kad G 37), vI sv, .ref (kad G 44), .ref (kad G 10), .ref (kad G 116), .ref (kad G 129), .ref (kad G 132)]) := (hf126 0 (by decide)).trans h_125
            refine k_get hC fd_X11_61 (kl hN (by decide)) h_129 rfl dX11_query_98 ?_
            refine k_iconst hC dX11_query_101 ?_
            have h_131 : w126 130 = iA G 12 lf0 := (hf126 130 (by decide)).trans ((hf123 130 (by decide)).trans ((hf4 130 (by decide)).trans ((hf1 130 (by omega)).trans hlf0)))
            have h_132 : w126 131 = iA G 12 rf0 := (hf126 131 (by decide)).trans ((hf123 131 (by decide)).trans ((hf4 131 (by decide)).trans ((hf1 131 (by omega)).trans hrf0)))
            have h_133 : w126 2 = bA G 700 (fun j => sb8 (bt j)) := (hf126 2 (by decide)).trans h_127
            have h_134 : w126 129 = .inr (7, [.ref (kad G 1), .ref (kad G 3), .ref (kad G 10), .ref (kad G 130), .ref (kad G 131)]) := (hf126 129 (by decide)).trans ((hf123 129 (by decide)).trans ((hf4 129 (by decide)).trans ((hf1 129 (by omega)).trans h129)))
            have hB_135 : kLog G w126 3 g := hL.fr (fun j q1 q2 => (hf126 j (by omega)).trans ((hf123 j (by omega)).trans ((hf4 j (by omega)).trans (hf1 j (by omega)))))
            have h_136 : w126 10 = .inr (0, [.ref (kad G 11), .ref (kad G 12), .ref (kad G 13), .ref (kad G 14), .ref (kad G 15), .ref (kad G 16)]) := (hf126 10 (by decide)).trans ((hf123 10 (by decide)).trans ((hf4 10 (by decide)).trans ((hf1 10 (by omega)).trans h10)))
            have h_137 : w126 11 = rA G 4 12 (fun j => some (kad G (20 + j))) := (hf126 11 (by decide)).trans ((hf123 11 (by decide)).trans ((hf4 11 (by decide)).trans ((hf1 11 (by omega)).trans h11)))
            have hB_138 : kDrawn w126 g 0 ((g 2).toNat) := hD1.fr (fun j q1 q2 => (hf126 j (by omega)).trans ((hf123 j (by omega)).trans (hf4 j (by omega))))
            refine k_mutVN hC (c_X7_readTest_6 l hls G hN w126 fl bt n st_128 g hn2 hn7 hb h_133 hT126 h_134 hI hB_135 h_136 h_137 hB_138 ⟨_, h_131⟩ ⟨_, h_132⟩) yy_X7_readTest wm_X11_136 (kl hN (by decide)) h_134 rfl rfl rfl rfl (Nat.le_of_ble_eq_true rfl) (by decide) (by decide) ⟨by decide, by decide⟩ dX11_query_102 (fun w130 hp130 => ?_)
            obtain ⟨hT130, ⟨⟨lf130, hlf130⟩, rf130, hrf130⟩, hf130⟩ := hp130
            obtain ⟨st_139, est_139⟩ : ∃ z : PS, z = (tstM bt n (qG (pV g) bt n 6) st_128).1 := ⟨_, rfl⟩
            rw [← est_139] at hT130
            have hmk9 := mkN_12 (tstM bt n (qG (pV g) bt n 6) st_128).2.2 (show (g 2).toNat ≤ 12 by omega)
            refine k_istore_n hC [(3, vI ((mkN ((tstM bt n (qG (pV g) bt n 6) st_128).2.2) (g 2).toNat : Nat) : Int)), (2, vI z_9), (0, .ref (kad G 0)), (1, vI (n : Int))] dX11_query_105 rfl (by decide) rfl ?_
            refine k_aload_n hC dX11_query_106 rfl 2 rfl ?_
            have h_140 : w130 0 = .inr (11, [.ref (kad G 1), .ref (kad G 32), .ref (kad G 3), .ref (kad G 37), vI sv, .ref (kad G 44), .ref (kad G 10), .ref (kad G 116), .ref (kad G 129), .ref (kad G 132)]) := (hf130 0 (by decide)).trans h_129
            refine k_get hC fd_X11_16 (kl hN (by decide)) h_140 rfl dX11_query_107 ?_
            have hTco_142 := hT130
            obtain ⟨cno_142, eao_142, kdo_142, nmo_142, sao_142, nxo_142, h1o_142, -⟩ := hTco_142
            have h_143 : w130 2 = bA G 700 (fun j => sb8 (bt j)) := (hf130 2 (by decide)).trans h_133
            refine k_muvV hC (c_X10_needEnd l hls G hN w130 fl bt n st_139  hn7 hb h_143 hT130) yy_X10_needEnd wm_X11_140 (kl hN (by decide)) h1o_142 rfl rfl rfl rfl (Nat.le_of_ble_eq_true rfl) (by decide) (by decide) ⟨by decide, by decide⟩ dX11_query_110 (fun w141 hp141 => ?_)
            obtain ⟨hT141, hf141⟩ := hp141
            obtain ⟨st_144, est_144⟩ : ∃ z : PS, z = neP bt n st_139 := ⟨_, rfl⟩
            rw [← est_144] at hT141
            have hcb9 := tkR.c hT141
            have hqs : st_144 = qyS (pV g) bt n := by rw [qyS_r, ← hy0, ← est_139]; exact est_144
            refine k_aload_n hC dX11_query_113 rfl 2 rfl ?_
            have h_145 : w141 0 = .inr (11, [.ref (kad G 1), .ref (kad G 32), .ref (kad G 3), .ref (kad G 37), vI sv, .ref (kad G 44), .ref (kad G 10), .ref (kad G 116), .ref (kad G 129), .ref (kad G 132)]) := (hf141 0 (by decide)).trans h_140
            refine k_get hC fd_X11_16 (kl hN (by decide)) h_145 rfl dX11_query_114 ?_
            have hTco_146 := hT141
            obtain ⟨cno_146, eao_146, kdo_146, nmo_146, sao_146, nxo_146, h1o_146, -⟩ := hTco_146
            refine k_get hC fd_X11_93 (kl hN (by decide)) h1o_146 rfl dX11_query_117 ?_
            refine k_if_eq hC 134 dX11_query_120 rfl (by omega) (fun c_120 => ?_) (fun c_120 => ?_)
            · refine k_iload_n hC dX11_query_134 rfl 1 rfl ?_
              refine k_if_eq hC 143 dX11_query_135 rfl (by omega) (fun c_135 => ?_) (fun c_135 => ?_)
              · refine k_iload_n hC dX11_query_143 rfl 0 rfl ?_
                refine k_if_ne hC 151 dX11_query_144 rfl (by omega) (fun c_144 => ?_) (fun c_144 => ?_)
                · refine k_iload_n hC dX11_query_151 rfl 0 rfl ?_
                  refine k_pureS hC (c_J6_numberOfTrailingZeros_0f7a4 l hls G hN w141 fl (mkN ((tstM bt n (qG (pV g) bt n 6) st_128).2.2) (g 2).toNat) (mkN_12 _ (by omega)) (by omega)) yy_J6_numberOfTrailingZeros_0f7a4 wm_X11_149 rfl rfl (Nat.le_of_ble_eq_true rfl) (by decide) (by decide) ⟨by decide, by decide⟩ dX11_query_152 ?_
                  have hB_147 : kShip w141 := hSh1.fr (fun j q1 q2 => (hf141 j (by omega)).trans ((hf130 j (by omega)).trans ((hf126 j (by omega)).trans ((hf123 j (by omega)).trans (hf4 j (by omega))))))
                  have hB_148 : kHat G w141 := hH.fr (fun j q1 q2 => (hf141 j (by omega)).trans ((hf130 j (by omega)).trans ((hf126 j (by omega)).trans ((hf123 j (by omega)).trans ((hf4 j (by omega)).trans (hf1 j (by omega)))))))
                  have hB_149 : kPl14 w141 := h14.fr (fun j q1 q2 => (hf141 j (by omega)).trans ((hf130 j (by omega)).trans ((hf126 j (by omega)).trans ((hf123 j (by omega)).trans ((hf4 j (by omega)).trans (hf1 j (by omega)))))))
                  have hB_150 : kPl15 w141 := h15.fr (fun j q1 q2 => (hf141 j (by omega)).trans ((hf130 j (by omega)).trans ((hf126 j (by omega)).trans ((hf123 j (by omega)).trans ((hf4 j (by omega)).trans (hf1 j (by omega)))))))
                  have h_151 : w141 10 = .inr (0, [.ref (kad G 11), .ref (kad G 12), .ref (kad G 13), .ref (kad G 14), .ref (kad G 15), .ref (kad G 16)]) := (hf141 10 (by decide)).trans ((hf130 10 (by decide)).trans h_136)
                  have h_152 : w141 11 = rA G 4 12 (fun j => some (kad G (20 + j))) := (hf141 11 (by decide)).trans ((hf130 11 (by decide)).trans h_137)
                  have hB_153 : kLines w141 := hLn1.fr (fun j q1 q2 => (hf141 j (by omega)).trans ((hf130 j (by omega)).trans ((hf126 j (by omega)).trans ((hf123 j (by omega)).trans (hf4 j (by omega))))))
                  have h_154 : w141 130 = iA G 12 lf130 := (hf141 130 (by decide)).trans hlf130
                  have h_155 : w141 131 = iA G 12 rf130 := (hf141 131 (by decide)).trans hrf130
                  exact k_iretX hC hr ⟨by decide, by decide⟩ (⟨by omega, congrArg (fun z => some (vI z)) (show (qyV (pV g) bt n (g 2).toNat : Int) = fiF (fun i => (mkN ((tstM bt n (qG (pV g) bt n 6) st_128).2.2) (g 2).toNat).testBit i) 12 from by rw [qyV_f (show (qyS (pV g) bt n).1 = 0 from by rw [← hqs]; omega) (show isW bt n 30 (tx0 bt n) from (qyW hn7 (show (qyS (pV g) bt n).1 = 0 from by rw [← hqs]; omega)).resolve_left (by rw [← est0]; exact (hz_9.resolve_left (fun q1 => by omega)).2)), ← hy0]; have h9 := fiF_m (tstM bt n (qG (pV g) bt n 6) st_128).2.2 (g 2).toNat (12 - (g 2).toNat); rw [show (g 2).toNat + (12 - (g 2).toNat) = 12 by omega] at h9; exact h9.symm), rfl, (by rw [← hqs]; exact hT141), ⟨⟨_, h_154⟩, _, h_155⟩, ⟨⟨h_151, h_152⟩, hB_153, hB_147, hB_148, hB_149, hB_150⟩, fun j hj => (hf141 j (by omega)).trans ((hf130 j (by omega)).trans ((hf126 j (by omega)).trans ((hf123 j (by omega)).trans ((hf4 j (by omega)).trans (hf1 j (by omega))))))⟩) dX11_query_155
                · refine k_iconst hC dX11_query_147 ?_
                  refine k_goto hC 155 dX11_query_148 rfl ?_
                  have hB_156 : kShip w141 := hSh1.fr (fun j q1 q2 => (hf141 j (by omega)).trans ((hf130 j (by omega)).trans ((hf126 j (by omega)).trans ((hf123 j (by omega)).trans (hf4 j (by omega))))))
                  have hB_157 : kHat G w141 := hH.fr (fun j q1 q2 => (hf141 j (by omega)).trans ((hf130 j (by omega)).trans ((hf126 j (by omega)).trans ((hf123 j (by omega)).trans ((hf4 j (by omega)).trans (hf1 j (by omega)))))))
                  have hB_158 : kPl14 w141 := h14.fr (fun j q1 q2 => (hf141 j (by omega)).trans ((hf130 j (by omega)).trans ((hf126 j (by omega)).trans ((hf123 j (by omega)).trans ((hf4 j (by omega)).trans (hf1 j (by omega)))))))
                  have hB_159 : kPl15 w141 := h15.fr (fun j q1 q2 => (hf141 j (by omega)).trans ((hf130 j (by omega)).trans ((hf126 j (by omega)).trans ((hf123 j (by omega)).trans ((hf4 j (by omega)).trans (hf1 j (by omega)))))))
                  have h_160 : w141 10 = .inr (0, [.ref (kad G 11), .ref (kad G 12), .ref (kad G 13), .ref (kad G 14), .ref (kad G 15), .ref (kad G 16)]) := (hf141 10 (by decide)).trans ((hf130 10 (by decide)).trans h_136)
                  have h_161 : w141 11 = rA G 4 12 (fun j => some (kad G (20 + j))) := (hf141 11 (by decide)).trans ((hf130 11 (by decide)).trans h_137)
                  have hB_162 : kLines w141 := hLn1.fr (fun j q1 q2 => (hf141 j (by omega)).trans ((hf130 j (by omega)).trans ((hf126 j (by omega)).trans ((hf123 j (by omega)).trans (hf4 j (by omega))))))
                  have h_163 : w141 130 = iA G 12 lf130 := (hf141 130 (by decide)).trans hlf130
                  have h_164 : w141 131 = iA G 12 rf130 := (hf141 131 (by decide)).trans hrf130
                  exact k_iretX hC hr ⟨by decide, by decide⟩ (⟨by omega, congrArg (fun z => some (vI z)) (show (qyV (pV g) bt n (g 2).toNat : Int) = -1 from by rw [qyV_f (show (qyS (pV g) bt n).1 = 0 from by rw [← hqs]; omega) (show isW bt n 30 (tx0 bt n) from (qyW hn7 (show (qyS (pV g) bt n).1 = 0 from by rw [← hqs]; omega)).resolve_left (by rw [← est0]; exact (hz_9.resolve_left (fun q1 => by omega)).2)), ← hy0]; exact fiF_z _ (by omega)), rfl, (by rw [← hqs]; exact hT141), ⟨⟨_, h_163⟩, _, h_164⟩, ⟨⟨h_160, h_161⟩, hB_162, hB_156, hB_157, hB_158, hB_159⟩, fun j hj => (hf141 j (by omega)).trans ((hf130 j (by omega)).trans ((hf126 j (by omega)).trans ((hf123 j (by omega)).trans ((hf4 j (by omega)).trans (hf1 j (by omega))))))⟩) dX11_query_155
              · refine k_iload_n hC dX11_query_138 rfl 0 rfl ?_
                refine k_pureS hC (c_J6_bitCount_0f7a4 l hls G hN w141 fl (mkN ((tstM bt n (qG (pV g) bt n 6) st_128).2.2) (g 2).toNat) (mkN_12 _ (by omega))) yy_J6_bitCount_0f7a4 wm_X11_144 rfl rfl (Nat.le_of_ble_eq_true rfl) (by decide) (by decide) ⟨by decide, by decide⟩ dX11_query_139 ?_
                have hB_165 : kShip w141 := hSh1.fr (fun j q1 q2 => (hf141 j (by omega)).trans ((hf130 j (by omega)).trans ((hf126 j (by omega)).trans ((hf123 j (by omega)).trans (hf4 j (by omega))))))
                have hB_166 : kHat G w141 := hH.fr (fun j q1 q2 => (hf141 j (by omega)).trans ((hf130 j (by omega)).trans ((hf126 j (by omega)).trans ((hf123 j (by omega)).trans ((hf4 j (by omega)).trans (hf1 j (by omega)))))))
                have hB_167 : kPl14 w141 := h14.fr (fun j q1 q2 => (hf141 j (by omega)).trans ((hf130 j (by omega)).trans ((hf126 j (by omega)).trans ((hf123 j (by omega)).trans ((hf4 j (by omega)).trans (hf1 j (by omega)))))))
                have hB_168 : kPl15 w141 := h15.fr (fun j q1 q2 => (hf141 j (by omega)).trans ((hf130 j (by omega)).trans ((hf126 j (by omega)).trans ((hf123 j (by omega)).trans ((hf4 j (by omega)).trans (hf1 j (by omega)))))))
                have h_169 : w141 10 = .inr (0, [.ref (kad G 11), .ref (kad G 12), .ref (kad G 13), .ref (kad G 14), .ref (kad G 15), .ref (kad G 16)]) := (hf141 10 (by decide)).trans ((hf130 10 (by decide)).trans h_136)
                have h_170 : w141 11 = rA G 4 12 (fun j => some (kad G (20 + j))) := (hf141 11 (by decide)).trans ((hf130 11 (by decide)).trans h_137)
                have hB_171 : kLines w141 := hLn1.fr (fun j q1 q2 => (hf141 j (by omega)).trans ((hf130 j (by omega)).trans ((hf126 j (by omega)).trans ((hf123 j (by omega)).trans (hf4 j (by omega))))))
                have h_172 : w141 130 = iA G 12 lf130 := (hf141 130 (by decide)).trans hlf130
                have h_173 : w141 131 = iA G 12 rf130 := (hf141 131 (by decide)).trans hrf130
                exact k_iretX hC hr ⟨by decide, by decide⟩ (⟨by omega, congrArg (fun z => some (vI z)) (show (qyV (pV g) bt n (g 2).toNat : Int) = ctF (fun i => (mkN ((tstM bt n (qG (pV g) bt n 6) st_128).2.2) (g 2).toNat).testBit i) 12 from by rw [qyV_m (show (qyS (pV g) bt n).1 = 0 from by rw [← hqs]; omega) (show isW bt n 29 (tx0 bt n) from by rw [← est0]; exact (hz_9.resolve_right (fun q1 => by omega)).2), ← hy0]; have h9 := ctF_m (tstM bt n (qG (pV g) bt n 6) st_128).2.2 (g 2).toNat (12 - (g 2).toNat); rw [show (g 2).toNat + (12 - (g 2).toNat) = 12 by omega] at h9; exact h9.symm), rfl, (by rw [← hqs]; exact hT141), ⟨⟨_, h_172⟩, _, h_173⟩, ⟨⟨h_169, h_170⟩, hB_171, hB_165, hB_166, hB_167, hB_168⟩, fun j hj => (hf141 j (by omega)).trans ((hf130 j (by omega)).trans ((hf126 j (by omega)).trans ((hf123 j (by omega)).trans ((hf4 j (by omega)).trans (hf1 j (by omega))))))⟩) dX11_query_142
            · refine k_ldc hC (x := (-1000000000)) (v := (-1000000000)) dX11_query_123 (by decide) wk_X11_143 ?_
              refine k_aload_n hC dX11_query_125 rfl 2 rfl ?_
              refine k_get hC fd_X11_16 (kl hN (by decide)) h_145 rfl dX11_query_126 ?_
              refine k_get hC fd_X11_93 (kl hN (by decide)) h1o_146 rfl dX11_query_129 ?_
              refine k_isub hC dX11_query_132 ?_
              have hB_174 : kShip w141 := hSh1.fr (fun j q1 q2 => (hf141 j (by omega)).trans ((hf130 j (by omega)).trans ((hf126 j (by omega)).trans ((hf123 j (by omega)).trans (hf4 j (by omega))))))
              have hB_175 : kHat G w141 := hH.fr (fun j q1 q2 => (hf141 j (by omega)).trans ((hf130 j (by omega)).trans ((hf126 j (by omega)).trans ((hf123 j (by omega)).trans ((hf4 j (by omega)).trans (hf1 j (by omega)))))))
              have hB_176 : kPl14 w141 := h14.fr (fun j q1 q2 => (hf141 j (by omega)).trans ((hf130 j (by omega)).trans ((hf126 j (by omega)).trans ((hf123 j (by omega)).trans ((hf4 j (by omega)).trans (hf1 j (by omega)))))))
              have hB_177 : kPl15 w141 := h15.fr (fun j q1 q2 => (hf141 j (by omega)).trans ((hf130 j (by omega)).trans ((hf126 j (by omega)).trans ((hf123 j (by omega)).trans ((hf4 j (by omega)).trans (hf1 j (by omega)))))))
              have h_178 : w141 10 = .inr (0, [.ref (kad G 11), .ref (kad G 12), .ref (kad G 13), .ref (kad G 14), .ref (kad G 15), .ref (kad G 16)]) := (hf141 10 (by decide)).trans ((hf130 10 (by decide)).trans h_136)
              have h_179 : w141 11 = rA G 4 12 (fun j => some (kad G (20 + j))) := (hf141 11 (by decide)).trans ((hf130 11 (by decide)).trans h_137)
              have hB_180 : kLines w141 := hLn1.fr (fun j q1 q2 => (hf141 j (by omega)).trans ((hf130 j (by omega)).trans ((hf126 j (by omega)).trans ((hf123 j (by omega)).trans (hf4 j (by omega))))))
              have h_181 : w141 130 = iA G 12 lf130 := (hf141 130 (by decide)).trans hlf130
              have h_182 : w141 131 = iA G 12 rf130 := (hf141 131 (by decide)).trans hrf130
              exact k_iretX hC hr ⟨by decide, by decide⟩ (⟨by omega, congrArg (fun z => some (vI z)) (show (qyV (pV g) bt n (g 2).toNat : Int) = (-1000000000) - st_144.1 from by rw [qyV_0 (by rw [← hqs]; omega), ← hqs]), rfl, (by rw [← hqs]; exact hT141), ⟨⟨_, h_181⟩, _, h_182⟩, ⟨⟨h_178, h_179⟩, hB_180, hB_174, hB_175, hB_176, hB_177⟩, fun j hj => (hf141 j (by omega)).trans ((hf130 j (by omega)).trans ((hf126 j (by omega)).trans ((hf123 j (by omega)).trans ((hf4 j (by omega)).trans (hf1 j (by omega))))))⟩) dX11_query_133
      · exact k_thrI hC htb (List.mem_of_getElem? (i := 0) rfl) (by decide) ⟨by decide, by decide⟩ (Nat.le_of_ble_eq_true rfl) dX11_query_22 dX11_query_25 dX11_query_26 dX11_query_28 dX11_query_31 (⟨Or.inr ⟨rfl, by omega⟩, rfl, rfl⟩)

