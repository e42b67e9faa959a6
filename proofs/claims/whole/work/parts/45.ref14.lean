def fiF (h : Nat → Bool) : Nat → Int
  | 0 => -1
  | k + 1 => if fiF h k = -1 ∧ h k = true then (k : Int) else fiF h k
def ctF (h : Nat → Bool) : Nat → Int
  | 0 => 0
  | k + 1 => if h k = true then ctF h k + 1 else ctF h k
theorem fiF_st {h : Nat → Bool} {k : Nat} (q : fiF h k ≠ -1) : ∀ j : Nat, fiF h (k + j) = fiF h k := by
  intro j
  induction j with
  | zero => rfl
  | succ j ih =>
    show (if fiF h (k + j) = -1 ∧ _ then _ else fiF h (k + j)) = _
    rw [if_neg (fun z => q (ih ▸ z.1)), ih]
noncomputable def qyV (V : Int → Nat → Int) (bt : Nat → Int) (n N : Nat) : Int := selI ((qyS V bt n).1 = 0) (selI (isW bt n 30 (tx0 bt n)) (fiF (qyR V bt n).2.2 N) (ctF (qyR V bt n).2.2 N)) (-1000000000 - (qyS V bt n).1)
def qrO (G : kG) (w w1 : Nat → va_E) (u : Nat → Int) (st : PS) (th : Int) : Prop :=
  (th ≠ 0 ∧ w1 133 = mdO G (kup u 5 th) ∧ ∀ j, j ≠ 133 → w1 j = w j) ∨
  (th = 0 ∧ (∃ u1, w1 133 = mdO G u1 ∧ (u1 5 = 0 ∧ u1 15 = u 15 ∧ u1 17 = 0 ∧ u1 24 = selI (st.1 = 0) (-1) st.2.1 ∧ u1 4 = u 4 ∧ u1 6 = u 6)) ∧ (∃ cf, w1 146 = iA G 200 cf) ∧ (∃ f, w1 147 = lA G 200 f) ∧ ∀ j, (j ≠ 133 ∧ j ≠ 146 ∧ j ≠ 147) → w1 j = w j)
theorem okr_q {V : Int → Nat → Int} {bt : Nat → Int} {n : Nat} {y : PS} (hs : y.1 = 0 → y.2.2 ≤ n) (hc : (tstM bt n (qF V bt n 6) y).1.1 = 0) (i : Nat) : okr V i (bI ((tstM bt n (qF V bt n 6) y).2.2 i)) (tstM bt n (qF V bt n 6) y).2.1 [] := by
  have h := (gq_tst (gq_qF (V := V) (bt := bt) (n := n) 6) y hs hc).2.2.2.2 i (bI ((tstM bt n (qF V bt n 6) y).2.2 i)) [] [] rfl
  rw [List.append_nil] at h
  exact h
theorem bI_1 {h : Bool} (q : bI h ≠ 0) : h = true := by cases h; exact absurd rfl q; rfl
theorem bI_0 {h : Bool} (q : ¬ bI h ≠ 0) : h = false := by cases h; rfl; exact absurd (show bI true ≠ 0 by decide) q
set_option maxRecDepth 100000 in
set_option maxHeartbeats 4000000 in
theorem c_X12_query (l : Launch) (hls : l.stackTraces = false) (G : kG) (hN : kN G = 150) (w : Nat → va_E) (fl : va_W) (u bt g cf0 f0 : Nat → Int) (L : Int) (n : Nat) (hL9 : -2147483648 ≤ L ∧ L ≤ 2147483647) (hnL : n = L.toNat) (h17 : 0 ≤ u 17 ∧ u 17 ≤ 700) (hb : btOK bt) (hI : Inv g) (hm : w 133 = mdO G u) (hn : w 134 = lA G 93 g) (h144 : w 144 = iA G 700 bt) (h145 : w 145 = nmA G) (h146 : w 146 = iA G 200 cf0) (h147 : w 147 = lA G 200 f0) : KM l G yX12_query cX12_query 5 (some (FieldType.int)) 27 0 0 [.ref (kad G 133), vI L] w fl (kRt (thR ((0 ≤ L ∧ L ≤ u 17) ∧ L ≤ 200) (qyV (pV g) bt n (g 2).toNat) (False) 1 (¬ ((0 ≤ L ∧ L ≤ u 17) ∧ L ≤ 200)) 1) fl (fun th w1 => qrO G w w1 u (qyS (pV g) bt n) th)) := by
  refine KM_of2 hls (by decide +kernel) rfl (lv0 := [(0, .ref (kad G 133)), (1, vI L)]) rfl (Nat.le_of_ble_eq_true rfl) (fun p e R s m args below meth c Q hC hr hQ => ?_)
  have h0 := hI.c
  obtain ⟨V, eV⟩ : ∃ z : Int → Nat → Int, z = pV g := ⟨_, rfl⟩
  refine k_aload_n hC dX12_query_0 rfl 0 rfl ?_
  refine k_iconst hC dX12_query_1 ?_
  refine k_put hC fd_X12_74 (kl hN (by decide)) hm [.ref (kad G 134), .ref (kad G 135), .ref (kad G 136), .ref (kad G 137), vI (u 4), vI 0, vI (u 6), .ref (kad G 138), .ref (kad G 139), .ref (kad G 140), .ref (kad G 141), .ref (kad G 142), vL (u 12), vL (u 13), .ref (kad G 143), vI (u 15), .ref (kad G 144), vI (u 17), vI (u 18), vI (u 19), vI (u 20), vI (u 21), vI (u 22), vI (u 23), vI (u 24), vI (u 25), .ref (kad G 145), .ref (kad G 146), .ref (kad G 147), vI (u 29)] rfl (Nat.le_of_ble_eq_true rfl) rfl rfl dX12_query_2 (fun w1 hw1 hf1 => ?_)
  refine k_iload_n hC dX12_query_5 rfl 1 rfl ?_
  refine k_i2l hC dX12_query_6 (by omega) ?_
  refine k_lconst (x := 0) hC dX12_query_7 (by decide) ?_
  refine k_aload_n hC dX12_query_8 rfl 0 rfl ?_
  refine k_get hC fd_X12_362 (kl hN (by decide)) hw1 rfl dX12_query_9 ?_
  refine k_topv (vI (u 17)) rfl ?_
  refine k_sipush hC dX12_query_12 (by decide) ?_
  refine k_mmin hC wm_X12_518 wmath_mmin (by omega) (by omega) (by decide) (Nat.le_of_ble_eq_true rfl) ⟨by decide, by decide⟩ dX12_query_15 ?_
  refine k_i2l hC dX12_query_18 (by omega) ?_
  refine k_pureS hC (c_X12_inRange l hls G hN w1 fl L 0 (min (u 17) 200) (by omega) (by omega) (by omega)) yy_X12_inRange wm_X12_243 rfl rfl (Nat.le_of_ble_eq_true rfl) (by decide) (by decide) ⟨by decide, by decide⟩ dX12_query_19 ?_
  refine k_topv (vI (if 0 ≤ L ∧ L ≤ min (u 17) 200 then 1 else 0)) rfl ?_
  obtain ⟨z_2, ez_2, hz_2⟩ := k_bI (0 ≤ L ∧ L ≤ min (u 17) 200)
  refine k_topv (vI z_2) (by rw [ez_2]) ?_
  refine k_if_ne hC 31 dX12_query_22 rfl (by omega) (fun c_22 => ?_) (fun c_22 => ?_)
  · obtain ⟨n9, en9⟩ : ∃ z : Nat, L = (z : Int) := ⟨L.toNat, by omega⟩
    subst en9
    have en : n = n9 := by omega
    subst en
    have hn7 : n ≤ 700 := by omega
    have hn2 : n ≤ 200 := by omega
    refine k_aload_n hC dX12_query_31 rfl 0 rfl ?_
    refine k_iconst hC dX12_query_32 ?_
    refine k_put hC fd_X12_483 (kl hN (by decide)) hw1 [.ref (kad G 134), .ref (kad G 135), .ref (kad G 136), .ref (kad G 137), vI (u 4), vI 0, vI (u 6), .ref (kad G 138), .ref (kad G 139), .ref (kad G 140), .ref (kad G 141), .ref (kad G 142), vL (u 12), vL (u 13), .ref (kad G 143), vI (u 15), .ref (kad G 144), vI (u 17), vI (u 18), vI (u 19), vI (u 20), vI (u 21), vI (u 22), vI (u 23), vI (u 24), vI (u 25), .ref (kad G 145), .ref (kad G 146), .ref (kad G 147), vI 0] rfl (Nat.le_of_ble_eq_true rfl) rfl rfl dX12_query_33 (fun w3 hw3 hf3 => ?_)
    refine k_aload_n hC dX12_query_36 rfl 0 rfl ?_
    refine k_iload_n hC dX12_query_37 rfl 1 rfl ?_
    have h_5 : w3 144 = iA G 700 bt := (hf3 144 (by decide)).trans ((hf1 144 (by decide)).trans h144)
    refine k_muvV hC (c_X12_startText l hls G hN w3 fl (kup (kup u 5 0) 29 0) bt n hn7 hb hw3 h_5) yy_X12_startText wm_X12_474 (kl hN (by decide)) hw3 rfl rfl rfl rfl (Nat.le_of_ble_eq_true rfl) (by decide) (by decide) ⟨by decide, by decide⟩ dX12_query_38 (fun w4 hp4 => ?_)
    obtain ⟨⟨u4, hu4, hK4, hu25, hus⟩, hf4⟩ := hp4
    obtain ⟨st0, est0⟩ : ∃ z : PS, z = tx0 bt n := ⟨_, rfl⟩
    have hKs : mkR u4 bt n st0 := by rw [est0]; exact hK4
    have hzt : st0.1 = 0 := by rw [est0]; rfl
    have h_6 : w4 146 = iA G 200 cf0 := (hf4 146 (by decide)).trans ((hf3 146 (by decide)).trans ((hf1 146 (by decide)).trans h146))
    have hqc0 : qcW G w4 u4 st0 [] := ⟨0, cf0, (hus 29 (by decide)), by omega, h_6, fun _ => ⟨rfl, fun j hj => absurd hj (Nat.not_lt_zero j)⟩⟩
    have h18s := hKs.1
    have h22s := hKs.2.1
    have hrgs := hKs.2.2.1
    have hcbs := hKs.cb
    have hzzs : st0.1 = 0 := by omega
    have hq0s := hKs.2.2.2.1 hzzs
    have hens := enM_b (bt := bt) hq0s.2.2.2
    refine k_aload_n hC dX12_query_41 rfl 0 rfl ?_
    refine k_ldcsw hC (List.mem_of_getElem? (i := 53) rfl) dX12_query_42 ?_
    have h_7 : w4 144 = iA G 700 bt := (hf4 144 (by decide)).trans h_5
    refine k_pureV hC (c_X12_isWord l hls G hN w4 fl u4 bt n st0 30 (by decide) hn7 hb hu4 h_7 hKs) yy_X12_isWord wm_X12_409 (kl hN (by decide)) hu4 rfl rfl rfl rfl (Nat.le_of_ble_eq_true rfl) (by decide) (by decide) ⟨by decide, by decide⟩ dX12_query_45 ?_
    obtain ⟨z_8, ez_8, hz_8⟩ := selI_c (isW bt n 30 st0)
    refine k_topv (vI z_8) (by rw [ez_8]) ?_
    refine k_istore_n hC [(2, vI z_8), (0, .ref (kad G 133)), (1, vI (n : Int))] dX12_query_48 rfl (by decide) rfl ?_
    refine k_aload_n hC dX12_query_49 rfl 1 rfl ?_
    refine k_iload_n hC dX12_query_50 rfl 0 rfl ?_
    refine k_if_ne hC 64 dX12_query_51 rfl (by omega) (fun c_51 => ?_) (fun c_51 => ?_)
    · refine k_iconst hC dX12_query_64 ?_
      refine k_goto hC 69 dX12_query_65 rfl ?_
      refine k_iconst hC dX12_query_69 ?_
      refine k_muvV hC (c_X12_check1 l hls G hN w4 fl u4 bt n st0 1 (by omega) hn7 hb hu4 h_7 hKs) yy_X12_check wm_X12_413 (kl hN (by decide)) hu4 rfl rfl rfl rfl (Nat.le_of_ble_eq_true rfl) (by decide) (by decide) ⟨by decide, by decide⟩ dX12_query_70 (fun w9 hp9 => ?_)
      obtain ⟨hT9, hf9⟩ := hp9
      obtain ⟨u9, hu9, hKr9, hs9⟩ := hT9
      have h18r9 := hKr9.1
      have h22r9 := hKr9.2.1
      have hrgr9 := hKr9.2.2.1
      have hcbr9 := hKr9.cb
      have hzzr9 : st0.1 = 0 := by omega
      have hq0r9 := hKr9.2.2.2.1 hzzr9
      have henr9 := enM_b (bt := bt) hq0r9.2.2.2
      have hQ_9 : qcW G w9 u9 st0 ([]) := hqc0.go (hs9 29 (by omega)) (hf9 146 (by decide)) (fun q => q)
      have h25_9 : u9 25 = 0 := (hs9 25 (by omega)).trans hu25
      refine k_aload_n hC dX12_query_73 rfl 1 rfl ?_
      have h_11 : w9 144 = iA G 700 bt := (hf9 144 (by decide)).trans h_7
      refine k_muvV hC (c_X12_advance l hls G hN w9 fl u9 bt n st0  hn7 hb hu9 h_11 hKr9) yy_X12_advance wm_X12_417 (kl hN (by decide)) hu9 rfl rfl rfl rfl (Nat.le_of_ble_eq_true rfl) (by decide) (by decide) ⟨by decide, by decide⟩ dX12_query_74 (fun w10 hp10 => ?_)
      obtain ⟨hT10, hf10⟩ := hp10
      obtain ⟨u10, hu10, hKr10, hs10⟩ := hT10
      obtain ⟨st_12, est_12⟩ : ∃ z : PS, z = adP bt n st0 := ⟨_, rfl⟩
      rw [← est_12] at hKr10
      have h18r10 := hKr10.1
      have h22r10 := hKr10.2.1
      have hrgr10 := hKr10.2.2.1
      have hcbr10 := hKr10.cb
      have hzir10 : st_12.1 = 0 := by rw [est_12]; exact ad_c.mpr (by omega)
      have hzzr10 : st_12.1 = 0 := by omega
      have hq0r10 := hKr10.2.2.2.1 hzzr10
      have henr10 := enM_b (bt := bt) hq0r10.2.2.2
      have hQ_10 : qcW G w10 u10 st_12 ([]) := hQ_9.go (hs10 29 (by omega)) (hf10 146 (by decide)) (fun q => ad_c.mp (by rw [← est_12]; exact q))
      have h25_10 : u10 25 = 0 := (hs10 25 (by omega)).trans h25_9
      have hy0 : st_12 = qy0 bt n := by unfold qy0; rw [← est0, selP_1 (Or.inr (hz_8.resolve_right (fun q1 => by omega)).2)]; exact est_12
      refine k_aload_n hC dX12_query_77 rfl 1 rfl ?_
      have h_13 : w10 145 = rA G 6 7 (fun j => some (kadK G (nmI j))) := (hf10 145 (by decide)).trans ((hf9 145 (by decide)).trans ((hf4 145 (by decide)).trans ((hf3 145 (by decide)).trans ((hf1 145 (by decide)).trans h145))))
      have h_14 : w10 144 = iA G 700 bt := (hf10 144 (by decide)).trans h_11
      refine k_muvV hC (c_X12_compileTest_6 l hls G hN w10 fl u10 bt n st_12 ([]) V hn2 hQ_10 (fun _ => Nat.zero_le _) h_13 h25_10 hn7 hb hu10 h_14 hKr10) yy_X12_compileTest wm_X12_498 (kl hN (by decide)) hu10 rfl rfl rfl rfl (Nat.le_of_ble_eq_true rfl) (by decide) (by decide) ⟨by decide, by decide⟩ dX12_query_78 (fun w15 hp15 => ?_)
      obtain ⟨hT15, hf15⟩ := hp15
      obtain ⟨u15, hu15, hKr15, hQ_15, h25_15, hs15⟩ := hT15
      obtain ⟨st_16, est_16⟩ : ∃ z : PS, z = (tstM bt n (qF V bt n 6) st_12).1 := ⟨_, rfl⟩
      rw [← est_16] at hKr15 hQ_15
      have h18r15 := hKr15.1
      have h22r15 := hKr15.2.1
      have hrgr15 := hKr15.2.2.1
      have hcbr15 := hKr15.cb
      refine k_aload_n hC dX12_query_81 rfl 1 rfl ?_
      refine k_aload_n hC dX12_query_82 rfl 1 rfl ?_
      refine k_get hC fd_X12_386 (kl hN (by decide)) hu15 rfl dX12_query_83 ?_
      refine k_if_ne hC 96 dX12_query_86 rfl (by omega) (fun c_86 => ?_) (fun c_86 => ?_)
      · have hzzr15 : st_16.1 ≠ 0 := by omega
        refine k_iconst hC dX12_query_96 ?_
        refine k_goto hC 101 dX12_query_97 rfl ?_
        refine k_iconst hC dX12_query_101 ?_
        have h_18 : w15 144 = iA G 700 bt := (hf15 144 (by decide)).trans h_14
        refine k_muvV hC (c_X12_check1 l hls G hN w15 fl u15 bt n st_16 1 (by omega) hn7 hb hu15 h_18 hKr15) yy_X12_check wm_X12_413 (kl hN (by decide)) hu15 rfl rfl rfl rfl (Nat.le_of_ble_eq_true rfl) (by decide) (by decide) ⟨by decide, by decide⟩ dX12_query_102 (fun w17 hp17 => ?_)
        obtain ⟨hT17, hf17⟩ := hp17
        obtain ⟨u17, hu17, hKr17, hs17⟩ := hT17
        have h18r17 := hKr17.1
        have h22r17 := hKr17.2.1
        have hrgr17 := hKr17.2.2.1
        have hcbr17 := hKr17.cb
        have hzzr17 : st_16.1 ≠ 0 := by omega
        have hQ_17 : qcW G w17 u17 st_16 ([] ++ (tstM bt n (qF V bt n 6) st_12).2.1) := hQ_15.go (hs17 29 (by omega)) (hf17 146 (by decide)) (fun q => q)
        have h25_17 : u17 25 = 0 := (hs17 25 (by omega)).trans h25_15
        refine k_aload_n hC dX12_query_105 rfl 1 rfl ?_
        have hqs : st_16 = qyS V bt n := by unfold qyS neP qyR; rw [← hy0, ← est_16]; exact (selP_0 (fun q => by have q1 := q.1; have q2 := q.2; omega)).symm
        obtain ⟨c9, cf9, h29, hc9, h146z, hcd9⟩ := hQ_17
        have h_20 : w17 144 = iA G 700 bt := (hf17 144 (by decide)).trans h_18
        refine k_mutV hC (c_X12_finish l hls G hN w17 fl u17 bt n st_16 hn7 hb hu17 h_20 hKr17) yy_X12_finish wm_X12_480 (kl hN (by decide)) hu17 rfl rfl rfl rfl (Nat.le_of_ble_eq_true rfl) (by decide) (by decide) ⟨by decide, by decide⟩ dX12_query_106 (fun w19 hp19 => ?_)
        obtain ⟨hu19, hf19⟩ := hp19
        refine k_if_eq hC 121 dX12_query_109 rfl (by omega) (fun c_109 => absurd c_109 (by omega)) (fun c_109 => ?_)
        refine k_ldcw hC (x := (-1000000000)) (v := (-1000000000)) dX12_query_112 (by decide) wk_X12_268 ?_
        refine k_aload_n hC dX12_query_115 rfl 1 rfl ?_
        refine k_get hC fd_X12_386 (kl hN (by decide)) hu19 rfl dX12_query_116 ?_
        refine k_topv (vI (u17 22)) rfl ?_
        refine k_isub hC dX12_query_119 ?_
        have h_21 : w19 146 = iA G 200 cf9 := (hf19 146 (by decide)).trans h146z
        have h_22 : w19 147 = lA G 200 f0 := (hf19 147 (by decide)).trans ((hf17 147 (by decide)).trans ((hf15 147 (by decide)).trans ((hf10 147 (by decide)).trans ((hf9 147 (by decide)).trans ((hf4 147 (by decide)).trans ((hf3 147 (by decide)).trans ((hf1 147 (by decide)).trans h147)))))))
        subst hQ
        exact k_iret hC hr ⟨by decide, by decide⟩ (⟨_, 0, rfl, rfl, Or.inl ⟨by omega, rfl, (show (((-1000000000) - (u17 22) : Int) = _) from (by unfold qyV; rw [selI_0 (by rw [← eV, ← hqs]; omega), ← eV, ← hqs]; omega))⟩, Or.inr ⟨rfl, ⟨(kup (kup u17 17 0) 24 (selI (st_16.1 = 0) (-1) st_16.2.1)), hu19, (((uQ.tr (uQ.tr (uQ.tr (uQ.tr uQ.rf (uS.q hs9)) (uS.q hs10)) hs15) (uS.q hs17)) 5 (by decide)).trans (hus 5 (by decide))), (((uQ.tr (uQ.tr (uQ.tr (uQ.tr uQ.rf (uS.q hs9)) (uS.q hs10)) hs15) (uS.q hs17)) 15 (by decide)).trans (hus 15 (by decide))), rfl, (by rw [← eV, ← hqs]; rfl), (((uQ.tr (uQ.tr (uQ.tr (uQ.tr uQ.rf (uS.q hs9)) (uS.q hs10)) hs15) (uS.q hs17)) 4 (by decide)).trans (hus 4 (by decide))), (((uQ.tr (uQ.tr (uQ.tr (uQ.tr uQ.rf (uS.q hs9)) (uS.q hs10)) hs15) (uS.q hs17)) 6 (by decide)).trans (hus 6 (by decide)))⟩, ⟨_, h_21⟩, ⟨_, h_22⟩, fun j hj => (hf19 j (by omega)).trans ((hf17 j (by omega)).trans ((hf15 j (by omega)).trans ((hf10 j (by omega)).trans ((hf9 j (by omega)).trans ((hf4 j (by omega)).trans ((hf3 j (by omega)).trans (hf1 j (by omega))))))))⟩⟩) dX12_query_120
      · have hzzr15 : st_16.1 = 0 := by omega
        have hq0r15 := hKr15.2.2.2.1 hzzr15
        have henr15 := enM_b (bt := bt) hq0r15.2.2.2
        refine k_aload_n hC dX12_query_89 rfl 1 rfl ?_
        refine k_get hC fd_X12_377 (kl hN (by decide)) hu15 rfl dX12_query_90 ?_
        refine k_if_ne hC 100 dX12_query_93 rfl (by omega) (fun c_93 => ?_) (fun c_93 => ?_)
        · refine k_iconst hC dX12_query_100 ?_
          refine k_iconst hC dX12_query_101 ?_
          have h_24 : w15 144 = iA G 700 bt := (hf15 144 (by decide)).trans h_14
          refine k_muvV hC (c_X12_check0 l hls G hN w15 fl u15 bt n st_16 1 (by omega) hn7 hb hu15 h_24 hKr15) yy_X12_check wm_X12_413 (kl hN (by decide)) hu15 rfl rfl rfl rfl (Nat.le_of_ble_eq_true rfl) (by decide) (by decide) ⟨by decide, by decide⟩ dX12_query_102 (fun w23 hp23 => ?_)
          obtain ⟨hT23, hf23⟩ := hp23
          obtain ⟨u23, hu23, hKr23, hs23⟩ := hT23
          obtain ⟨st_25, est_25⟩ : ∃ z : PS, z = flP 1 st_16 := ⟨_, rfl⟩
          rw [← est_25] at hKr23
          have h18r23 := hKr23.1
          have h22r23 := hKr23.2.1
          have hrgr23 := hKr23.2.2.1
          have hcbr23 := hKr23.cb
          have hzzr23 : st_25.1 ≠ 0 := by rw [est_25]; exact fl_c (by omega)
          have hQ_23 : qcW G w23 u23 st_25 ([] ++ (tstM bt n (qF V bt n 6) st_12).2.1) := hQ_15.go (hs23 29 (by omega)) (hf23 146 (by decide)) (fun q => absurd q hzzr23)
          have h25_23 : u23 25 = 0 := (hs23 25 (by omega)).trans h25_15
          refine k_aload_n hC dX12_query_105 rfl 1 rfl ?_
          have hqs : st_25 = qyS V bt n := by unfold qyS neP qyR; rw [← hy0, ← est_16, selP_1 ⟨by omega, by omega⟩]; exact est_25
          obtain ⟨c9, cf9, h29, hc9, h146z, hcd9⟩ := hQ_23
          have h_27 : w23 144 = iA G 700 bt := (hf23 144 (by decide)).trans h_24
          refine k_mutV hC (c_X12_finish l hls G hN w23 fl u23 bt n st_25 hn7 hb hu23 h_27 hKr23) yy_X12_finish wm_X12_480 (kl hN (by decide)) hu23 rfl rfl rfl rfl (Nat.le_of_ble_eq_true rfl) (by decide) (by decide) ⟨by decide, by decide⟩ dX12_query_106 (fun w26 hp26 => ?_)
          obtain ⟨hu26, hf26⟩ := hp26
          refine k_if_eq hC 121 dX12_query_109 rfl (by omega) (fun c_109 => absurd c_109 (by omega)) (fun c_109 => ?_)
          refine k_ldcw hC (x := (-1000000000)) (v := (-1000000000)) dX12_query_112 (by decide) wk_X12_268 ?_
          refine k_aload_n hC dX12_query_115 rfl 1 rfl ?_
          refine k_get hC fd_X12_386 (kl hN (by decide)) hu26 rfl dX12_query_116 ?_
          refine k_topv (vI (u23 22)) rfl ?_
          refine k_isub hC dX12_query_119 ?_
          have h_28 : w26 146 = iA G 200 cf9 := (hf26 146 (by decide)).trans h146z
          have h_29 : w26 147 = lA G 200 f0 := (hf26 147 (by decide)).trans ((hf23 147 (by decide)).trans ((hf15 147 (by decide)).trans ((hf10 147 (by decide)).trans ((hf9 147 (by decide)).trans ((hf4 147 (by decide)).trans ((hf3 147 (by decide)).trans ((hf1 147 (by decide)).trans h147)))))))
          subst hQ
          exact k_iret hC hr ⟨by decide, by decide⟩ (⟨_, 0, rfl, rfl, Or.inl ⟨by omega, rfl, (show (((-1000000000) - (u23 22) : Int) = _) from (by unfold qyV; rw [selI_0 (by rw [← eV, ← hqs]; omega), ← eV, ← hqs]; omega))⟩, Or.inr ⟨rfl, ⟨(kup (kup u23 17 0) 24 (selI (st_25.1 = 0) (-1) st_25.2.1)), hu26, (((uQ.tr (uQ.tr (uQ.tr (uQ.tr uQ.rf (uS.q hs9)) (uS.q hs10)) hs15) (uS.q hs23)) 5 (by decide)).trans (hus 5 (by decide))), (((uQ.tr (uQ.tr (uQ.tr (uQ.tr uQ.rf (uS.q hs9)) (uS.q hs10)) hs15) (uS.q hs23)) 15 (by decide)).trans (hus 15 (by decide))), rfl, (by rw [← eV, ← hqs]; rfl), (((uQ.tr (uQ.tr (uQ.tr (uQ.tr uQ.rf (uS.q hs9)) (uS.q hs10)) hs15) (uS.q hs23)) 4 (by decide)).trans (hus 4 (by decide))), (((uQ.tr (uQ.tr (uQ.tr (uQ.tr uQ.rf (uS.q hs9)) (uS.q hs10)) hs15) (uS.q hs23)) 6 (by decide)).trans (hus 6 (by decide)))⟩, ⟨_, h_28⟩, ⟨_, h_29⟩, fun j hj => (hf26 j (by omega)).trans ((hf23 j (by omega)).trans ((hf15 j (by omega)).trans ((hf10 j (by omega)).trans ((hf9 j (by omega)).trans ((hf4 j (by omega)).trans ((hf3 j (by omega)).trans (hf1 j (by omega))))))))⟩⟩) dX12_query_120
        · refine k_iconst hC dX12_query_96 ?_
          refine k_goto hC 101 dX12_query_97 rfl ?_
          refine k_iconst hC dX12_query_101 ?_
          have h_31 : w15 144 = iA G 700 bt := (hf15 144 (by decide)).trans h_14
          refine k_muvV hC (c_X12_check1 l hls G hN w15 fl u15 bt n st_16 1 (by omega) hn7 hb hu15 h_31 hKr15) yy_X12_check wm_X12_413 (kl hN (by decide)) hu15 rfl rfl rfl rfl (Nat.le_of_ble_eq_true rfl) (by decide) (by decide) ⟨by decide, by decide⟩ dX12_query_102 (fun w30 hp30 => ?_)
          obtain ⟨hT30, hf30⟩ := hp30
          obtain ⟨u30, hu30, hKr30, hs30⟩ := hT30
          have h18r30 := hKr30.1
          have h22r30 := hKr30.2.1
          have hrgr30 := hKr30.2.2.1
          have hcbr30 := hKr30.cb
          have hzzr30 : st_16.1 = 0 := by omega
          have hq0r30 := hKr30.2.2.2.1 hzzr30
          have henr30 := enM_b (bt := bt) hq0r30.2.2.2
          have hQ_30 : qcW G w30 u30 st_16 ([] ++ (tstM bt n (qF V bt n 6) st_12).2.1) := hQ_15.go (hs30 29 (by omega)) (hf30 146 (by decide)) (fun q => q)
          have h25_30 : u30 25 = 0 := (hs30 25 (by omega)).trans h25_15
          refine k_aload_n hC dX12_query_105 rfl 1 rfl ?_
          have hqs : st_16 = qyS V bt n := by unfold qyS neP qyR; rw [← hy0, ← est_16]; exact (selP_0 (fun q => by have q1 := q.1; have q2 := q.2; omega)).symm
          obtain ⟨c9, cf9, h29, hc9, h146z, hcd9⟩ := hQ_30
          have h_33 : w30 144 = iA G 700 bt := (hf30 144 (by decide)).trans h_31
          refine k_mutV hC (c_X12_finish l hls G hN w30 fl u30 bt n st_16 hn7 hb hu30 h_33 hKr30) yy_X12_finish wm_X12_480 (kl hN (by decide)) hu30 rfl rfl rfl rfl (Nat.le_of_ble_eq_true rfl) (by decide) (by decide) ⟨by decide, by decide⟩ dX12_query_106 (fun w32 hp32 => ?_)
          obtain ⟨hu32, hf32⟩ := hp32
          refine k_if_eq hC 121 dX12_query_109 rfl (by omega) (fun c_109 => ?_) (fun c_109 => absurd c_109 (by omega))
          refine k_iconst hC dX12_query_121 ?_
          refine k_istore_n hC [(3, vI 0), (2, vI z_8), (0, .ref (kad G 133)), (1, vI (n : Int))] dX12_query_122 rfl (by decide) rfl ?_
          refine k_iconst hC dX12_query_123 ?_
          refine k_istore hC [(4, vI 0), (3, vI 0), (2, vI z_8), (0, .ref (kad G 133)), (1, vI (n : Int))] dX12_query_124 (by decide) rfl ?_
          have hz9 : st_16.1 = 0 := by omega
          have hle9 := (hKr30 : mkR _ bt n st_16).le
          obtain ⟨hh, ehh⟩ : ∃ q : Nat → Bool, q = (tstM bt n (qF V bt n 6) st_12).2.2 := ⟨_, rfl⟩
          have hqR : qyR V bt n = tstM bt n (qF V bt n 6) st_12 := by unfold qyR; rw [hy0]
          have hqv : qyV (pV g) bt n (g 2).toNat = selI (isW bt n 30 st0) (fiF hh (g 2).toNat) (ctF hh (g 2).toNat) := by unfold qyV; rw [← eV, selI_1 (by rw [← hqs]; exact hz9), hqR, ← ehh, est0]
          have hokr := okr_q (V := V) (bt := bt) (n := n) (y := st_12) hKr10.le (by rw [← est_16]; omega)
          rw [← ehh, eV] at hokr
          have hfz := hz_8
          have hcdz := hcd9 (by omega)
          have hcdz : cdR cf9 c9 (tstM bt n (qF (pV g) bt n 6) st_12).2.1 := by rw [← eV]; exact hcdz
          have h29z : (kup (kup u30 17 0) 24 (selI (st_16.1 = 0) (-1) st_16.2.1)) 29 = (c9 : Int) := h29
          have loopw : ∀ (nw : Nat) (k : Nat) (ct : Int) (f : Nat → Int) (wvw : Nat → va_E), ((g 2).toNat < nw + k) → ((k : Int) ≤ g 2) → (z_8 = 1 → fiF hh k = -1) → (ct = ctF hh k) → (0 ≤ ct ∧ ct ≤ k) → (wvw 133 = .inr (12, [.ref (kad G 134), .ref (kad G 135), .ref (kad G 136), .ref (kad G 137), vI (u30 4), vI (u30 5), vI (u30 6), .ref (kad G 138), .ref (kad G 139), .ref (kad G 140), .ref (kad G 141), .ref (kad G 142), vL (u30 12), vL (u30 13), .ref (kad G 143), vI (u30 15), .ref (kad G 144), vI 0, vI (u30 18), vI (u30 19), vI (u30 20), vI (u30 21), vI (u30 22), vI (u30 23), vI (selI (st_16.1 = 0) (-1) st_16.2.1), vI (u30 25), .ref (kad G 145), .ref (kad G 146), .ref (kad G 147), vI (u30 29)])) → (wvw 134 = lA G 93 g) → (wvw 146 = iA G 200 cf9) → (wvw 147 = lA G 200 f) → ((∀ j, (j ≠ 133 ∧ j ≠ 146 ∧ j ≠ 147) → wvw j = w j)) → KW p l e R s m args below meth c 5 G Q wvw fl 0 0 126 [(4, vI (k : Int)), (3, vI ct), (2, vI z_8), (0, .ref (kad G 133)), (1, vI (n : Int))] [] := by
            intro nw
            induction nw with
            | zero =>
              intro k ct f wvw hn_w hk hfi hct hcr hmq hnq h146q h147q hfrw
              exact absurd hn_w (by omega)
            | succ nw ihw =>
              intro k ct f wvw hn_w hk hfi hct hcr hmq hnq h146q h147q hfrw
              refine k_iload hC dX12_query_126 0 rfl ?_
              refine k_i2l hC dX12_query_128 (by omega) ?_
              refine k_aload_n hC dX12_query_129 rfl 3 rfl ?_
              refine k_get hC fd_X12_9 (kl hN (by decide)) hmq rfl dX12_query_130 ?_
              refine k_iconst hC dX12_query_133 ?_
              refine k_lald hC (kl hN (by decide)) hnq (by omega) (by decide) dX12_query_134 ?_
              refine k_topv (vL (g 2)) rfl ?_
              refine k_lcmp_ge hC 167 dX12_query_135 dX12_query_136 rfl (by omega) (by omega) (fun c_135 => ?_) (fun c_135 => ?_)
              · refine k_iload_n hC dX12_query_167 rfl 2 rfl ?_
                refine k_if_eq hC 175 dX12_query_168 rfl (by omega) (fun c_168 => ?_) (fun c_168 => ?_)
                · refine k_iload_n hC dX12_query_175 rfl 1 rfl ?_
                  subst hQ
                  exact k_iret hC hr ⟨by decide, by decide⟩ (⟨_, 0, rfl, rfl, Or.inl ⟨by omega, rfl, (show ((ct : Int) = _) from (by rw [hqv, selI_0 (hfz.resolve_left (fun q1 => by omega)).2, show (g 2).toNat = k by omega]; exact hct))⟩, Or.inr ⟨rfl, ⟨(kup (kup u30 17 0) 24 (selI (st_16.1 = 0) (-1) st_16.2.1)), hmq, (((uQ.tr (uQ.tr (uQ.tr (uQ.tr uQ.rf (uS.q hs9)) (uS.q hs10)) hs15) (uS.q hs30)) 5 (by decide)).trans (hus 5 (by decide))), (((uQ.tr (uQ.tr (uQ.tr (uQ.tr uQ.rf (uS.q hs9)) (uS.q hs10)) hs15) (uS.q hs30)) 15 (by decide)).trans (hus 15 (by decide))), rfl, (by rw [← eV, ← hqs]; rfl), (((uQ.tr (uQ.tr (uQ.tr (uQ.tr uQ.rf (uS.q hs9)) (uS.q hs10)) hs15) (uS.q hs30)) 4 (by decide)).trans (hus 4 (by decide))), (((uQ.tr (uQ.tr (uQ.tr (uQ.tr uQ.rf (uS.q hs9)) (uS.q hs10)) hs15) (uS.q hs30)) 6 (by decide)).trans (hus 6 (by decide)))⟩, ⟨_, h146q⟩, ⟨_, h147q⟩, fun j hj => hfrw j (by omega)⟩⟩) dX12_query_176
                · refine k_iconst hC dX12_query_171 ?_
                  refine k_goto hC 176 dX12_query_172 rfl ?_
                  subst hQ
                  exact k_iret hC hr ⟨by decide, by decide⟩ (⟨_, 0, rfl, rfl, Or.inl ⟨by omega, rfl, (show ((-1 : Int) = _) from (by rw [hqv, selI_1 (hfz.resolve_right (fun q1 => by omega)).2, show (g 2).toNat = k by omega]; exact (hfi (by omega)).symm))⟩, Or.inr ⟨rfl, ⟨(kup (kup u30 17 0) 24 (selI (st_16.1 = 0) (-1) st_16.2.1)), hmq, (((uQ.tr (uQ.tr (uQ.tr (uQ.tr uQ.rf (uS.q hs9)) (uS.q hs10)) hs15) (uS.q hs30)) 5 (by decide)).trans (hus 5 (by decide))), (((uQ.tr (uQ.tr (uQ.tr (uQ.tr uQ.rf (uS.q hs9)) (uS.q hs10)) hs15) (uS.q hs30)) 15 (by decide)).trans (hus 15 (by decide))), rfl, (by rw [← eV, ← hqs]; rfl), (((uQ.tr (uQ.tr (uQ.tr (uQ.tr uQ.rf (uS.q hs9)) (uS.q hs10)) hs15) (uS.q hs30)) 4 (by decide)).trans (hus 4 (by decide))), (((uQ.tr (uQ.tr (uQ.tr (uQ.tr uQ.rf (uS.q hs9)) (uS.q hs10)) hs15) (uS.q hs30)) 6 (by decide)).trans (hus 6 (by decide)))⟩, ⟨_, h146q⟩, ⟨_, h147q⟩, fun j hj => hfrw j (by omega)⟩⟩) dX12_query_176
              · refine k_aload_n hC dX12_query_139 rfl 3 rfl ?_
                refine k_iload hC dX12_query_140 0 rfl ?_
                refine k_mutV hC (c_X12_holdsFor l hls G hN wvw fl (kup (kup u30 17 0) 24 (selI (st_16.1 = 0) (-1) st_16.2.1)) g cf9 f k c9 (tstM bt n (qF (pV g) bt n 6) st_12).2.1 (bI (hh k)) hI (by omega) hc9 h29z hcdz (bI_c _) (hokr k) hmq hnq h146q h147q) yy_X12_holdsFor wm_X12_524 (kl hN (by decide)) hmq rfl rfl rfl rfl (Nat.le_of_ble_eq_true rfl) (by decide) (by decide) ⟨by decide, by decide⟩ dX12_query_142 (fun w34 hp34 => ?_)
                obtain ⟨⟨f34, h7_34⟩, hf34⟩ := hp34
                have hbc := bI_c (hh k)
                refine k_if_ne hC 151 dX12_query_145 rfl (by omega) (fun c_145 => ?_) (fun c_145 => ?_)
                · have hhk : hh k = true := bI_1 (by omega)
                  refine k_iload_n hC dX12_query_151 rfl 2 rfl ?_
                  refine k_if_eq hC 158 dX12_query_152 rfl (by omega) (fun c_152 => ?_) (fun c_152 => ?_)
                  · refine k_iinc hC (y := ct + 1) [(3, vI (ct + 1)), (4, vI (k : Int)), (2, vI z_8), (0, .ref (kad G 133)), (1, vI (n : Int))] (j := 1) dX12_query_158 rfl (by omega) (by decide) rfl ?_
                    refine k_iinc hC (y := (k : Int) + 1) [(4, vI ((k : Int) + 1)), (3, vI (ct + 1)), (2, vI z_8), (0, .ref (kad G 133)), (1, vI (n : Int))] (j := 1) dX12_query_161 rfl (by omega) (by decide) rfl ?_
                    refine k_goto hC 126 dX12_query_164 rfl ?_
                    refine k_lvs (ls := [0, 1, 2, 3, 4]) [(4, vI ((k + 1 : Nat) : Int)), (3, vI (ct + 1)), (2, vI z_8), (0, .ref (kad G 133)), (1, vI (n : Int))] (by simp only [lv_pick]; rfl) ?_
                    have h_35 : w34 133 = .inr (12, [.ref (kad G 134), .ref (kad G 135), .ref (kad G 136), .ref (kad G 137), vI (u30 4), vI (u30 5), vI (u30 6), .ref (kad G 138), .ref (kad G 139), .ref (kad G 140), .ref (kad G 141), .ref (kad G 142), vL (u30 12), vL (u30 13), .ref (kad G 143), vI (u30 15), .ref (kad G 144), vI 0, vI (u30 18), vI (u30 19), vI (u30 20), vI (u30 21), vI (u30 22), vI (u30 23), vI (selI (st_16.1 = 0) (-1) st_16.2.1), vI (u30 25), .ref (kad G 145), .ref (kad G 146), .ref (kad G 147), vI (u30 29)]) := (hf34 133 (by decide)).trans hmq
                    have h_36 : w34 134 = lA G 93 g := (hf34 134 (by decide)).trans hnq
                    have h_37 : w34 146 = iA G 200 cf9 := (hf34 146 (by decide)).trans h146q
                    exact ihw (k + 1) (ct + 1) f34 w34 (by omega) (by omega) (fun q => by first | exact (if_neg (fun z9 => by have z8 := z9.2; rw [hhk] at z8; exact absurd z8 (by decide))).trans (hfi q) | (exfalso; omega)) (by show _ = (if hh k = true then ctF hh k + 1 else ctF hh k); rw [hhk, hct]; rfl) (by omega) h_35 h_36 h_37 h7_34 (fun j hj => (hf34 j (by omega)).trans (hfrw j (by omega)))
                  · refine k_iload hC dX12_query_155 0 rfl ?_
                    have h_38 : w34 133 = .inr (12, [.ref (kad G 134), .ref (kad G 135), .ref (kad G 136), .ref (kad G 137), vI (u30 4), vI (u30 5), vI (u30 6), .ref (kad G 138), .ref (kad G 139), .ref (kad G 140), .ref (kad G 141), .ref (kad G 142), vL (u30 12), vL (u30 13), .ref (kad G 143), vI (u30 15), .ref (kad G 144), vI 0, vI (u30 18), vI (u30 19), vI (u30 20), vI (u30 21), vI (u30 22), vI (u30 23), vI (selI (st_16.1 = 0) (-1) st_16.2.1), vI (u30 25), .ref (kad G 145), .ref (kad G 146), .ref (kad G 147), vI (u30 29)]) := (hf34 133 (by decide)).trans hmq
                    have h_39 : w34 146 = iA G 200 cf9 := (hf34 146 (by decide)).trans h146q
                    subst hQ
                    exact k_iret hC hr ⟨by decide, by decide⟩ (⟨_, 0, rfl, rfl, Or.inl ⟨by omega, rfl, (show (((k : Int) : Int) = _) from (by rw [hqv, selI_1 (hfz.resolve_right (fun q1 => by omega)).2]; have e1 : fiF hh (k + 1) = (k : Int) := if_pos ⟨hfi (by omega), by exact hhk⟩; have e2 := fiF_st (h := hh) (k := k + 1) (by rw [e1]; omega) ((g 2).toNat - (k + 1)); rw [show (g 2).toNat = k + 1 + ((g 2).toNat - (k + 1)) by omega, e2, e1]))⟩, Or.inr ⟨rfl, ⟨(kup (kup u30 17 0) 24 (selI (st_16.1 = 0) (-1) st_16.2.1)), h_38, (((uQ.tr (uQ.tr (uQ.tr (uQ.tr uQ.rf (uS.q hs9)) (uS.q hs10)) hs15) (uS.q hs30)) 5 (by decide)).trans (hus 5 (by decide))), (((uQ.tr (uQ.tr (uQ.tr (uQ.tr uQ.rf (uS.q hs9)) (uS.q hs10)) hs15) (uS.q hs30)) 15 (by decide)).trans (hus 15 (by decide))), rfl, (by rw [← eV, ← hqs]; rfl), (((uQ.tr (uQ.tr (uQ.tr (uQ.tr uQ.rf (uS.q hs9)) (uS.q hs10)) hs15) (uS.q hs30)) 4 (by decide)).trans (hus 4 (by decide))), (((uQ.tr (uQ.tr (uQ.tr (uQ.tr uQ.rf (uS.q hs9)) (uS.q hs10)) hs15) (uS.q hs30)) 6 (by decide)).trans (hus 6 (by decide)))⟩, ⟨_, h_39⟩, ⟨_, h7_34⟩, fun j hj => (hf34 j (by omega)).trans (hfrw j (by omega))⟩⟩) dX12_query_157
                · have hhk : hh k = false := bI_0 (by omega)
                  refine k_goto hC 161 dX12_query_148 rfl ?_
                  refine k_iinc hC (y := (k : Int) + 1) [(4, vI ((k : Int) + 1)), (3, vI ct), (2, vI z_8), (0, .ref (kad G 133)), (1, vI (n : Int))] (j := 0) dX12_query_161 rfl (by omega) (by decide) rfl ?_
                  refine k_goto hC 126 dX12_query_164 rfl ?_
                  refine k_lvs (ls := [0, 1, 2, 3, 4]) [(4, vI ((k + 1 : Nat) : Int)), (3, vI ct), (2, vI z_8), (0, .ref (kad G 133)), (1, vI (n : Int))] (by simp only [lv_pick]; rfl) ?_
                  have h_40 : w34 133 = .inr (12, [.ref (kad G 134), .ref (kad G 135), .ref (kad G 136), .ref (kad G 137), vI (u30 4), vI (u30 5), vI (u30 6), .ref (kad G 138), .ref (kad G 139), .ref (kad G 140), .ref (kad G 141), .ref (kad G 142), vL (u30 12), vL (u30 13), .ref (kad G 143), vI (u30 15), .ref (kad G 144), vI 0, vI (u30 18), vI (u30 19), vI (u30 20), vI (u30 21), vI (u30 22), vI (u30 23), vI (selI (st_16.1 = 0) (-1) st_16.2.1), vI (u30 25), .ref (kad G 145), .ref (kad G 146), .ref (kad G 147), vI (u30 29)]) := (hf34 133 (by decide)).trans hmq
                  have h_41 : w34 134 = lA G 93 g := (hf34 134 (by decide)).trans hnq
                  have h_42 : w34 146 = iA G 200 cf9 := (hf34 146 (by decide)).trans h146q
                  exact ihw (k + 1) ct f34 w34 (by omega) (by omega) (fun q => by first | exact (if_neg (fun z9 => by have z8 := z9.2; rw [hhk] at z8; exact absurd z8 (by decide))).trans (hfi q) | (exfalso; omega)) (by show _ = (if hh k = true then ctF hh k + 1 else ctF hh k); rw [hhk, hct]; rfl) (by omega) h_40 h_41 h_42 h7_34 (fun j hj => (hf34 j (by omega)).trans (hfrw j (by omega)))
          refine k_lvs (ls := [0, 1, 2, 3, 4]) [(4, vI ((0 : Nat) : Int)), (3, vI 0), (2, vI z_8), (0, .ref (kad G 133)), (1, vI (n : Int))] (by simp only [lv_pick]; rfl) ?_
          have h_43 : w32 134 = lA G 93 g := (hf32 134 (by decide)).trans ((hf30 134 (by decide)).trans ((hf15 134 (by decide)).trans ((hf10 134 (by decide)).trans ((hf9 134 (by decide)).trans ((hf4 134 (by decide)).trans ((hf3 134 (by decide)).trans ((hf1 134 (by decide)).trans hn)))))))
          have h_44 : w32 146 = iA G 200 cf9 := (hf32 146 (by decide)).trans h146z
          have h_45 : w32 147 = lA G 200 f0 := (hf32 147 (by decide)).trans ((hf30 147 (by decide)).trans ((hf15 147 (by decide)).trans ((hf10 147 (by decide)).trans ((hf9 147 (by decide)).trans ((hf4 147 (by decide)).trans ((hf3 147 (by decide)).trans ((hf1 147 (by decide)).trans h147)))))))
          exact loopw ((g 2).toNat + 1) 0 0 f0 w32 (by omega) (by omega) (fun _ => rfl) rfl (by omega) hu32 h_43 h_44 h_45 (fun j hj => (hf32 j (by omega)).trans ((hf30 j (by omega)).trans ((hf15 j (by omega)).trans ((hf10 j (by omega)).trans ((hf9 j (by omega)).trans ((hf4 j (by omega)).trans ((hf3 j (by omega)).trans (hf1 j (by omega)))))))))
    · refine k_aload_n hC dX12_query_54 rfl 1 rfl ?_
      refine k_ldcsw hC (List.mem_of_getElem? (i := 54) rfl) dX12_query_55 ?_
      refine k_pureV hC (c_X12_isWord l hls G hN w4 fl u4 bt n st0 29 (by decide) hn7 hb hu4 h_7 hKs) yy_X12_isWord wm_X12_409 (kl hN (by decide)) hu4 rfl rfl rfl rfl (Nat.le_of_ble_eq_true rfl) (by decide) (by decide) ⟨by decide, by decide⟩ dX12_query_58 ?_
      obtain ⟨z_46, ez_46, hz_46⟩ := selI_c (isW bt n 29 st0)
      refine k_topv (vI z_46) (by rw [ez_46]) ?_
      refine k_if_eq hC 68 dX12_query_61 rfl (by omega) (fun c_61 => ?_) (fun c_61 => ?_)
      · refine k_iconst hC dX12_query_68 ?_
        refine k_iconst hC dX12_query_69 ?_
        refine k_muvV hC (c_X12_check0 l hls G hN w4 fl u4 bt n st0 1 (by omega) hn7 hb hu4 h_7 hKs) yy_X12_check wm_X12_413 (kl hN (by decide)) hu4 rfl rfl rfl rfl (Nat.le_of_ble_eq_true rfl) (by decide) (by decide) ⟨by decide, by decide⟩ dX12_query_70 (fun w47 hp47 => ?_)
        obtain ⟨hT47, hf47⟩ := hp47
        obtain ⟨u47, hu47, hKr47, hs47⟩ := hT47
        obtain ⟨st_48, est_48⟩ : ∃ z : PS, z = flP 1 st0 := ⟨_, rfl⟩
        rw [← est_48] at hKr47
        have h18r47 := hKr47.1
        have h22r47 := hKr47.2.1
        have hrgr47 := hKr47.2.2.1
        have hcbr47 := hKr47.cb
        have hzzr47 : st_48.1 ≠ 0 := by rw [est_48]; exact fl_c (by omega)
        have hQ_47 : qcW G w47 u47 st_48 ([]) := hqc0.go (hs47 29 (by omega)) (hf47 146 (by decide)) (fun q => absurd q hzzr47)
        have h25_47 : u47 25 = 0 := (hs47 25 (by omega)).trans hu25
        refine k_aload_n hC dX12_query_73 rfl 1 rfl ?_
        have h_50 : w47 144 = iA G 700 bt := (hf47 144 (by decide)).trans h_7
        refine k_muvV hC (c_X12_advance l hls G hN w47 fl u47 bt n st_48  hn7 hb hu47 h_50 hKr47) yy_X12_advance wm_X12_417 (kl hN (by decide)) hu47 rfl rfl rfl rfl (Nat.le_of_ble_eq_true rfl) (by decide) (by decide) ⟨by decide, by decide⟩ dX12_query_74 (fun w49 hp49 => ?_)
        obtain ⟨hT49, hf49⟩ := hp49
        obtain ⟨u49, hu49, hKr49, hs49⟩ := hT49
        obtain ⟨st_51, est_51⟩ : ∃ z : PS, z = adP bt n st_48 := ⟨_, rfl⟩
        rw [← est_51] at hKr49
        have h18r49 := hKr49.1
        have h22r49 := hKr49.2.1
        have hrgr49 := hKr49.2.2.1
        have hcbr49 := hKr49.cb
        have hzzr49 : st_51.1 ≠ 0 := by rw [est_51, adP_e (by omega)]; omega
        have hQ_49 : qcW G w49 u49 st_51 ([]) := hQ_47.go (hs49 29 (by omega)) (hf49 146 (by decide)) (fun q => ad_c.mp (by rw [← est_51]; exact q))
        have h25_49 : u49 25 = 0 := (hs49 25 (by omega)).trans h25_47
        have hy0 : st_51 = qy0 bt n := by unfold qy0; rw [← est0, selP_0 (fun q => q.elim (hz_46.resolve_left (fun q1 => by omega)).2 (hz_8.resolve_left (fun q1 => by omega)).2), ← est_48]; exact est_51
        refine k_aload_n hC dX12_query_77 rfl 1 rfl ?_
        have h_52 : w49 145 = rA G 6 7 (fun j => some (kadK G (nmI j))) := (hf49 145 (by decide)).trans ((hf47 145 (by decide)).trans ((hf4 145 (by decide)).trans ((hf3 145 (by decide)).trans ((hf1 145 (by decide)).trans h145))))
        have h_53 : w49 144 = iA G 700 bt := (hf49 144 (by decide)).trans h_50
        refine k_muvV hC (c_X12_compileTest_6 l hls G hN w49 fl u49 bt n st_51 ([]) V hn2 hQ_49 (fun _ => Nat.zero_le _) h_52 h25_49 hn7 hb hu49 h_53 hKr49) yy_X12_compileTest wm_X12_498 (kl hN (by decide)) hu49 rfl rfl rfl rfl (Nat.le_of_ble_eq_true rfl) (by decide) (by decide) ⟨by decide, by decide⟩ dX12_query_78 (fun w54 hp54 => ?_)
        obtain ⟨hT54, hf54⟩ := hp54
        obtain ⟨u54, hu54, hKr54, hQ_54, h25_54, hs54⟩ := hT54
        obtain ⟨st_55, est_55⟩ : ∃ z : PS, z = (tstM bt n (qF V bt n 6) st_51).1 := ⟨_, rfl⟩
        rw [← est_55] at hKr54 hQ_54
        have h18r54 := hKr54.1
        have h22r54 := hKr54.2.1
        have hrgr54 := hKr54.2.2.1
        have hcbr54 := hKr54.cb
        refine k_aload_n hC dX12_query_81 rfl 1 rfl ?_
        refine k_aload_n hC dX12_query_82 rfl 1 rfl ?_
        refine k_get hC fd_X12_386 (kl hN (by decide)) hu54 rfl dX12_query_83 ?_
        refine k_if_ne hC 96 dX12_query_86 rfl (by omega) (fun c_86 => ?_) (fun c_86 => ?_)
        · have hzzr54 : st_55.1 ≠ 0 := by omega
          refine k_iconst hC dX12_query_96 ?_
          refine k_goto hC 101 dX12_query_97 rfl ?_
          refine k_iconst hC dX12_query_101 ?_
          have h_57 : w54 144 = iA G 700 bt := (hf54 144 (by decide)).trans h_53
          refine k_muvV hC (c_X12_check1 l hls G hN w54 fl u54 bt n st_55 1 (by omega) hn7 hb hu54 h_57 hKr54) yy_X12_check wm_X12_413 (kl hN (by decide)) hu54 rfl rfl rfl rfl (Nat.le_of_ble_eq_true rfl) (by decide) (by decide) ⟨by decide, by decide⟩ dX12_query_102 (fun w56 hp56 => ?_)
          obtain ⟨hT56, hf56⟩ := hp56
          obtain ⟨u56, hu56, hKr56, hs56⟩ := hT56
          have h18r56 := hKr56.1
          have h22r56 := hKr56.2.1
          have hrgr56 := hKr56.2.2.1
          have hcbr56 := hKr56.cb
          have hzzr56 : st_55.1 ≠ 0 := by omega
          have hQ_56 : qcW G w56 u56 st_55 ([] ++ (tstM bt n (qF V bt n 6) st_51).2.1) := hQ_54.go (hs56 29 (by omega)) (hf56 146 (by decide)) (fun q => q)
          have h25_56 : u56 25 = 0 := (hs56 25 (by omega)).trans h25_54
          refine k_aload_n hC dX12_query_105 rfl 1 rfl ?_
          have hqs : st_55 = qyS V bt n := by unfold qyS neP qyR; rw [← hy0, ← est_55]; exact (selP_0 (fun q => by have q1 := q.1; have q2 := q.2; omega)).symm
          obtain ⟨c9, cf9, h29, hc9, h146z, hcd9⟩ := hQ_56
          have h_59 : w56 144 = iA G 700 bt := (hf56 144 (by decide)).trans h_57
          refine k_mutV hC (c_X12_finish l hls G hN w56 fl u56 bt n st_55 hn7 hb hu56 h_59 hKr56) yy_X12_finish wm_X12_480 (kl hN (by decide)) hu56 rfl rfl rfl rfl (Nat.le_of_ble_eq_true rfl) (by decide) (by decide) ⟨by decide, by decide⟩ dX12_query_106 (fun w58 hp58 => ?_)
          obtain ⟨hu58, hf58⟩ := hp58
          refine k_if_eq hC 121 dX12_query_109 rfl (by omega) (fun c_109 => absurd c_109 (by omega)) (fun c_109 => ?_)
          refine k_ldcw hC (x := (-1000000000)) (v := (-1000000000)) dX12_query_112 (by decide) wk_X12_268 ?_
          refine k_aload_n hC dX12_query_115 rfl 1 rfl ?_
          refine k_get hC fd_X12_386 (kl hN (by decide)) hu58 rfl dX12_query_116 ?_
          refine k_topv (vI (u56 22)) rfl ?_
          refine k_isub hC dX12_query_119 ?_
          have h_60 : w58 146 = iA G 200 cf9 := (hf58 146 (by decide)).trans h146z
          have h_61 : w58 147 = lA G 200 f0 := (hf58 147 (by decide)).trans ((hf56 147 (by decide)).trans ((hf54 147 (by decide)).trans ((hf49 147 (by decide)).trans ((hf47 147 (by decide)).trans ((hf4 147 (by decide)).trans ((hf3 147 (by decide)).trans ((hf1 147 (by decide)).trans h147)))))))
          subst hQ
          exact k_iret hC hr ⟨by decide, by decide⟩ (⟨_, 0, rfl, rfl, Or.inl ⟨by omega, rfl, (show (((-1000000000) - (u56 22) : Int) = _) from (by unfold qyV; rw [selI_0 (by rw [← eV, ← hqs]; omega), ← eV, ← hqs]; omega))⟩, Or.inr ⟨rfl, ⟨(kup (kup u56 17 0) 24 (selI (st_55.1 = 0) (-1) st_55.2.1)), hu58, (((uQ.tr (uQ.tr (uQ.tr (uQ.tr uQ.rf (uS.q hs47)) (uS.q hs49)) hs54) (uS.q hs56)) 5 (by decide)).trans (hus 5 (by decide))), (((uQ.tr (uQ.tr (uQ.tr (uQ.tr uQ.rf (uS.q hs47)) (uS.q hs49)) hs54) (uS.q hs56)) 15 (by decide)).trans (hus 15 (by decide))), rfl, (by rw [← eV, ← hqs]; rfl), (((uQ.tr (uQ.tr (uQ.tr (uQ.tr uQ.rf (uS.q hs47)) (uS.q hs49)) hs54) (uS.q hs56)) 4 (by decide)).trans (hus 4 (by decide))), (((uQ.tr (uQ.tr (uQ.tr (uQ.tr uQ.rf (uS.q hs47)) (uS.q hs49)) hs54) (uS.q hs56)) 6 (by decide)).trans (hus 6 (by decide)))⟩, ⟨_, h_60⟩, ⟨_, h_61⟩, fun j hj => (hf58 j (by omega)).trans ((hf56 j (by omega)).trans ((hf54 j (by omega)).trans ((hf49 j (by omega)).trans ((hf47 j (by omega)).trans ((hf4 j (by omega)).trans ((hf3 j (by omega)).trans (hf1 j (by omega))))))))⟩⟩) dX12_query_120
        · have hzzr54 : st_55.1 = 0 := by omega
          have hq0r54 := hKr54.2.2.2.1 hzzr54
          have henr54 := enM_b (bt := bt) hq0r54.2.2.2
          refine k_aload_n hC dX12_query_89 rfl 1 rfl ?_
          refine k_get hC fd_X12_377 (kl hN (by decide)) hu54 rfl dX12_query_90 ?_
          refine k_if_ne hC 100 dX12_query_93 rfl (by omega) (fun c_93 => ?_) (fun c_93 => ?_)
          · refine k_iconst hC dX12_query_100 ?_
            refine k_iconst hC dX12_query_101 ?_
            have h_63 : w54 144 = iA G 700 bt := (hf54 144 (by decide)).trans h_53
            refine k_muvV hC (c_X12_check0 l hls G hN w54 fl u54 bt n st_55 1 (by omega) hn7 hb hu54 h_63 hKr54) yy_X12_check wm_X12_413 (kl hN (by decide)) hu54 rfl rfl rfl rfl (Nat.le_of_ble_eq_true rfl) (by decide) (by decide) ⟨by decide, by decide⟩ dX12_query_102 (fun w62 hp62 => ?_)
            obtain ⟨hT62, hf62⟩ := hp62
            obtain ⟨u62, hu62, hKr62, hs62⟩ := hT62
            obtain ⟨st_64, est_64⟩ : ∃ z : PS, z = flP 1 st_55 := ⟨_, rfl⟩
            rw [← est_64] at hKr62
            have h18r62 := hKr62.1
            have h22r62 := hKr62.2.1
            have hrgr62 := hKr62.2.2.1
            have hcbr62 := hKr62.cb
            have hzzr62 : st_64.1 ≠ 0 := by rw [est_64]; exact fl_c (by omega)
            have hQ_62 : qcW G w62 u62 st_64 ([] ++ (tstM bt n (qF V bt n 6) st_51).2.1) := hQ_54.go (hs62 29 (by omega)) (hf62 146 (by decide)) (fun q => absurd q hzzr62)
            have h25_62 : u62 25 = 0 := (hs62 25 (by omega)).trans h25_54
            refine k_aload_n hC dX12_query_105 rfl 1 rfl ?_
            have hqs : st_64 = qyS V bt n := by unfold qyS neP qyR; rw [← hy0, ← est_55, selP_1 ⟨by omega, by omega⟩]; exact est_64
            obtain ⟨c9, cf9, h29, hc9, h146z, hcd9⟩ := hQ_62
            have h_66 : w62 144 = iA G 700 bt := (hf62 144 (by decide)).trans h_63
            refine k_mutV hC (c_X12_finish l hls G hN w62 fl u62 bt n st_64 hn7 hb hu62 h_66 hKr62) yy_X12_finish wm_X12_480 (kl hN (by decide)) hu62 rfl rfl rfl rfl (Nat.le_of_ble_eq_true rfl) (by decide) (by decide) ⟨by decide, by decide⟩ dX12_query_106 (fun w65 hp65 => ?_)
            obtain ⟨hu65, hf65⟩ := hp65
            refine k_if_eq hC 121 dX12_query_109 rfl (by omega) (fun c_109 => absurd c_109 (by omega)) (fun c_109 => ?_)
            refine k_ldcw hC (x := (-1000000000)) (v := (-1000000000)) dX12_query_112 (by decide) wk_X12_268 ?_
            refine k_aload_n hC dX12_query_115 rfl 1 rfl ?_
            refine k_get hC fd_X12_386 (kl hN (by decide)) hu65 rfl dX12_query_116 ?_
            refine k_topv (vI (u62 22)) rfl ?_
            refine k_isub hC dX12_query_119 ?_
            have h_67 : w65 146 = iA G 200 cf9 := (hf65 146 (by decide)).trans h146z
            have h_68 : w65 147 = lA G 200 f0 := (hf65 147 (by decide)).trans ((hf62 147 (by decide)).trans ((hf54 147 (by decide)).trans ((hf49 147 (by decide)).trans ((hf47 147 (by decide)).trans ((hf4 147 (by decide)).trans ((hf3 147 (by decide)).trans ((hf1 147 (by decide)).trans h147)))))))
            subst hQ
            exact k_iret hC hr ⟨by decide, by decide⟩ (⟨_, 0, rfl, rfl, Or.inl ⟨by omega, rfl, (show (((-1000000000) - (u62 22) : Int) = _) from (by unfold qyV; rw [selI_0 (by rw [← eV, ← hqs]; omega), ← eV, ← hqs]; omega))⟩, Or.inr ⟨rfl, ⟨(kup (kup u62 17 0) 24 (selI (st_64.1 = 0) (-1) st_64.2.1)), hu65, (((uQ.tr (uQ.tr (uQ.tr (uQ.tr uQ.rf (uS.q hs47)) (uS.q hs49)) hs54) (uS.q hs62)) 5 (by decide)).trans (hus 5 (by decide))), (((uQ.tr (uQ.tr (uQ.tr (uQ.tr uQ.rf (uS.q hs47)) (uS.q hs49)) hs54) (uS.q hs62)) 15 (by decide)).trans (hus 15 (by decide))), rfl, (by rw [← eV, ← hqs]; rfl), (((uQ.tr (uQ.tr (uQ.tr (uQ.tr uQ.rf (uS.q hs47)) (uS.q hs49)) hs54) (uS.q hs62)) 4 (by decide)).trans (hus 4 (by decide))), (((uQ.tr (uQ.tr (uQ.tr (uQ.tr uQ.rf (uS.q hs47)) (uS.q hs49)) hs54) (uS.q hs62)) 6 (by decide)).trans (hus 6 (by decide)))⟩, ⟨_, h_67⟩, ⟨_, h_68⟩, fun j hj => (hf65 j (by omega)).trans ((hf62 j (by omega)).trans ((hf54 j (by omega)).trans ((hf49 j (by omega)).trans ((hf47 j (by omega)).trans ((hf4 j (by omega)).trans ((hf3 j (by omega)).trans (hf1 j (by omega))))))))⟩⟩) dX12_query_120
          · refine k_iconst hC dX12_query_96 ?_
            refine k_goto hC 101 dX12_query_97 rfl ?_
            refine k_iconst hC dX12_query_101 ?_
            have h_70 : w54 144 = iA G 700 bt := (hf54 144 (by decide)).trans h_53
            refine k_muvV hC (c_X12_check1 l hls G hN w54 fl u54 bt n st_55 1 (by omega) hn7 hb hu54 h_70 hKr54) yy_X12_check wm_X12_413 (kl hN (by decide)) hu54 rfl rfl rfl rfl (Nat.le_of_ble_eq_true rfl) (by decide) (by decide) ⟨by decide, by decide⟩ dX12_query_102 (fun w69 hp69 => ?_)
            obtain ⟨hT69, hf69⟩ := hp69
            obtain ⟨u69, hu69, hKr69, hs69⟩ := hT69
            have h18r69 := hKr69.1
            have h22r69 := hKr69.2.1
            have hrgr69 := hKr69.2.2.1
            have hcbr69 := hKr69.cb
            have hzzr69 : st_55.1 = 0 := by omega
            have hq0r69 := hKr69.2.2.2.1 hzzr69
            have henr69 := enM_b (bt := bt) hq0r69.2.2.2
            have hQ_69 : qcW G w69 u69 st_55 ([] ++ (tstM bt n (qF V bt n 6) st_51).2.1) := hQ_54.go (hs69 29 (by omega)) (hf69 146 (by decide)) (fun q => q)
            have h25_69 : u69 25 = 0 := (hs69 25 (by omega)).trans h25_54
            refine k_aload_n hC dX12_query_105 rfl 1 rfl ?_
            have hqs : st_55 = qyS V bt n := by unfold qyS neP qyR; rw [← hy0, ← est_55]; exact (selP_0 (fun q => by have q1 := q.1; have q2 := q.2; omega)).symm
            obtain ⟨c9, cf9, h29, hc9, h146z, hcd9⟩ := hQ_69
            have h_72 : w69 144 = iA G 700 bt := (hf69 144 (by decide)).trans h_70
            refine k_mutV hC (c_X12_finish l hls G hN w69 fl u69 bt n st_55 hn7 hb hu69 h_72 hKr69) yy_X12_finish wm_X12_480 (kl hN (by decide)) hu69 rfl rfl rfl rfl (Nat.le_of_ble_eq_true rfl) (by decide) (by decide) ⟨by decide, by decide⟩ dX12_query_106 (fun w71 hp71 => ?_)
            obtain ⟨hu71, hf71⟩ := hp71
            refine k_if_eq hC 121 dX12_query_109 rfl (by omega) (fun c_109 => ?_) (fun c_109 => absurd c_109 (by omega))
            refine k_iconst hC dX12_query_121 ?_
            refine k_istore_n hC [(3, vI 0), (2, vI z_8), (0, .ref (kad G 133)), (1, vI (n : Int))] dX12_query_122 rfl (by decide) rfl ?_
            refine k_iconst hC dX12_query_123 ?_
            refine k_istore hC [(4, vI 0), (3, vI 0), (2, vI z_8), (0, .ref (kad G 133)), (1, vI (n : Int))] dX12_query_124 (by decide) rfl ?_
            have hz9 : st_55.1 = 0 := by omega
            have hle9 := (hKr69 : mkR _ bt n st_55).le
            obtain ⟨hh, ehh⟩ : ∃ q : Nat → Bool, q = (tstM bt n (qF V bt n 6) st_51).2.2 := ⟨_, rfl⟩
            have hqR : qyR V bt n = tstM bt n (qF V bt n 6) st_51 := by unfold qyR; rw [hy0]
            have hqv : qyV (pV g) bt n (g 2).toNat = selI (isW bt n 30 st0) (fiF hh (g 2).toNat) (ctF hh (g 2).toNat) := by unfold qyV; rw [← eV, selI_1 (by rw [← hqs]; exact hz9), hqR, ← ehh, est0]
            have hokr := okr_q (V := V) (bt := bt) (n := n) (y := st_51) hKr49.le (by rw [← est_55]; omega)
            rw [← ehh, eV] at hokr
            have hfz := hz_8
            have hcdz := hcd9 (by omega)
            have hcdz : cdR cf9 c9 (tstM bt n (qF (pV g) bt n 6) st_51).2.1 := by rw [← eV]; exact hcdz
            have h29z : (kup (kup u69 17 0) 24 (selI (st_55.1 = 0) (-1) st_55.2.1)) 29 = (c9 : Int) := h29
            have loopw : ∀ (nw : Nat) (k : Nat) (ct : Int) (f : Nat → Int) (wvw : Nat → va_E), ((g 2).toNat < nw + k) → ((k : Int) ≤ g 2) → (z_8 = 1 → fiF hh k = -1) → (ct = ctF hh k) → (0 ≤ ct ∧ ct ≤ k) → (wvw 133 = .inr (12, [.ref (kad G 134), .ref (kad G 135), .ref (kad G 136), .ref (kad G 137), vI (u69 4), vI (u69 5), vI (u69 6), .ref (kad G 138), .ref (kad G 139), .ref (kad G 140), .ref (kad G 141), .ref (kad G 142), vL (u69 12), vL (u69 13), .ref (kad G 143), vI (u69 15), .ref (kad G 144), vI 0, vI (u69 18), vI (u69 19), vI (u69 20), vI (u69 21), vI (u69 22), vI (u69 23), vI (selI (st_55.1 = 0) (-1) st_55.2.1), vI (u69 25), .ref (kad G 145), .ref (kad G 146), .ref (kad G 147), vI (u69 29)])) → (wvw 134 = lA G 93 g) → (wvw 146 = iA G 200 cf9) → (wvw 147 = lA G 200 f) → ((∀ j, (j ≠ 133 ∧ j ≠ 146 ∧ j ≠ 147) → wvw j = w j)) → KW p l e R s m args below meth c 5 G Q wvw fl 0 0 126 [(4, vI (k : Int)), (3, vI ct), (2, vI z_8), (0, .ref (kad G 133)), (1, vI (n : Int))] [] := by
              intro nw
              induction nw with
              | zero =>
                intro k ct f wvw hn_w hk hfi hct hcr hmq hnq h146q h147q hfrw
                exact absurd hn_w (by omega)
              | succ nw ihw =>
                intro k ct f wvw hn_w hk hfi hct hcr hmq hnq h146q h147q hfrw
                refine k_iload hC dX12_query_126 0 rfl ?_
                refine k_i2l hC dX12_query_128 (by omega) ?_
                refine k_aload_n hC dX12_query_129 rfl 3 rfl ?_
                refine k_get hC fd_X12_9 (kl hN (by decide)) hmq rfl dX12_query_130 ?_
                refine k_iconst hC dX12_query_133 ?_
                refine k_lald hC (kl hN (by decide)) hnq (by omega) (by decide) dX12_query_134 ?_
                refine k_topv (vL (g 2)) rfl ?_
                refine k_lcmp_ge hC 167 dX12_query_135 dX12_query_136 rfl (by omega) (by omega) (fun c_135 => ?_) (fun c_135 => ?_)
                · refine k_iload_n hC dX12_query_167 rfl 2 rfl ?_
                  refine k_if_eq hC 175 dX12_query_168 rfl (by omega) (fun c_168 => ?_) (fun c_168 => ?_)
                  · refine k_iload_n hC dX12_query_175 rfl 1 rfl ?_
                    subst hQ
                    exact k_iret hC hr ⟨by decide, by decide⟩ (⟨_, 0, rfl, rfl, Or.inl ⟨by omega, rfl, (show ((ct : Int) = _) from (by rw [hqv, selI_0 (hfz.resolve_left (fun q1 => by omega)).2, show (g 2).toNat = k by omega]; exact hct))⟩, Or.inr ⟨rfl, ⟨(kup (kup u69 17 0) 24 (selI (st_55.1 = 0) (-1) st_55.2.1)), hmq, (((uQ.tr (uQ.tr (uQ.tr (uQ.tr uQ.rf (uS.q hs47)) (uS.q hs49)) hs54) (uS.q hs69)) 5 (by decide)).trans (hus 5 (by decide))), (((uQ.tr (uQ.tr (uQ.tr (uQ.tr uQ.rf (uS.q hs47)) (uS.q hs49)) hs54) (uS.q hs69)) 15 (by decide)).trans (hus 15 (by decide))), rfl, (by rw [← eV, ← hqs]; rfl), (((uQ.tr (uQ.tr (uQ.tr (uQ.tr uQ.rf (uS.q hs47)) (uS.q hs49)) hs54) (uS.q hs69)) 4 (by decide)).trans (hus 4 (by decide))), (((uQ.tr (uQ.tr (uQ.tr (uQ.tr uQ.rf (uS.q hs47)) (uS.q hs49)) hs54) (uS.q hs69)) 6 (by decide)).trans (hus 6 (by decide)))⟩, ⟨_, h146q⟩, ⟨_, h147q⟩, fun j hj => hfrw j (by omega)⟩⟩) dX12_query_176
                  · refine k_iconst hC dX12_query_171 ?_
                    refine k_goto hC 176 dX12_query_172 rfl ?_
                    subst hQ
                    exact k_iret hC hr ⟨by decide, by decide⟩ (⟨_, 0, rfl, rfl, Or.inl ⟨by omega, rfl, (show ((-1 : Int) = _) from (by rw [hqv, selI_1 (hfz.resolve_right (fun q1 => by omega)).2, show (g 2).toNat = k by omega]; exact (hfi (by omega)).symm))⟩, Or.inr ⟨rfl, ⟨(kup (kup u69 17 0) 24 (selI (st_55.1 = 0) (-1) st_55.2.1)), hmq, (((uQ.tr (uQ.tr (uQ.tr (uQ.tr uQ.rf (uS.q hs47)) (uS.q hs49)) hs54) (uS.q hs69)) 5 (by decide)).trans (hus 5 (by decide))), (((uQ.tr (uQ.tr (uQ.tr (uQ.tr uQ.rf (uS.q hs47)) (uS.q hs49)) hs54) (uS.q hs69)) 15 (by decide)).trans (hus 15 (by decide))), rfl, (by rw [← eV, ← hqs]; rfl), (((uQ.tr (uQ.tr (uQ.tr (uQ.tr uQ.rf (uS.q hs47)) (uS.q hs49)) hs54) (uS.q hs69)) 4 (by decide)).trans (hus 4 (by decide))), (((uQ.tr (uQ.tr (uQ.tr (uQ.tr uQ.rf (uS.q hs47)) (uS.q hs49)) hs54) (uS.q hs69)) 6 (by decide)).trans (hus 6 (by decide)))⟩, ⟨_, h146q⟩, ⟨_, h147q⟩, fun j hj => hfrw j (by omega)⟩⟩) dX12_query_176
                · refine k_aload_n hC dX12_query_139 rfl 3 rfl ?_
                  refine k_iload hC dX12_query_140 0 rfl ?_
                  refine k_mutV hC (c_X12_holdsFor l hls G hN wvw fl (kup (kup u69 17 0) 24 (selI (st_55.1 = 0) (-1) st_55.2.1)) g cf9 f k c9 (tstM bt n (qF (pV g) bt n 6) st_51).2.1 (bI (hh k)) hI (by omega) hc9 h29z hcdz (bI_c _) (hokr k) hmq hnq h146q h147q) yy_X12_holdsFor wm_X12_524 (kl hN (by decide)) hmq rfl rfl rfl rfl (Nat.le_of_ble_eq_true rfl) (by decide) (by decide) ⟨by decide, by decide⟩ dX12_query_142 (fun w73 hp73 => ?_)
                  obtain ⟨⟨f73, h7_73⟩, hf73⟩ := hp73
                  have hbc := bI_c (hh k)
                  refine k_if_ne hC 151 dX12_query_145 rfl (by omega) (fun c_145 => ?_) (fun c_145 => ?_)
                  · have hhk : hh k = true := bI_1 (by omega)
                    refine k_iload_n hC dX12_query_151 rfl 2 rfl ?_
                    refine k_if_eq hC 158 dX12_query_152 rfl (by omega) (fun c_152 => ?_) (fun c_152 => ?_)
                    · refine k_iinc hC (y := ct + 1) [(3, vI (ct + 1)), (4, vI (k : Int)), (2, vI z_8), (0, .ref (kad G 133)), (1, vI (n : Int))] (j := 1) dX12_query_158 rfl (by omega) (by decide) rfl ?_
                      refine k_iinc hC (y := (k : Int) + 1) [(4, vI ((k : Int) + 1)), (3, vI (ct + 1)), (2, vI z_8), (0, .ref (kad G 133)), (1, vI (n : Int))] (j := 1) dX12_query_161 rfl (by omega) (by decide) rfl ?_
                      refine k_goto hC 126 dX12_query_164 rfl ?_
                      refine k_lvs (ls := [0, 1, 2, 3, 4]) [(4, vI ((k + 1 : Nat) : Int)), (3, vI (ct + 1)), (2, vI z_8), (0, .ref (kad G 133)), (1, vI (n : Int))] (by simp only [lv_pick]; rfl) ?_
                      have h_74 : w73 133 = .inr (12, [.ref (kad G 134), .ref (kad G 135), .ref (kad G 136), .ref (kad G 137), vI (u69 4), vI (u69 5), vI (u69 6), .ref (kad G 138), .ref (kad G 139), .ref (kad G 140), .ref (kad G 141), .ref (kad G 142), vL (u69 12), vL (u69 13), .ref (kad G 143), vI (u69 15), .ref (kad G 144), vI 0, vI (u69 18), vI (u69 19), vI (u69 20), vI (u69 21), vI (u69 22), vI (u69 23), vI (selI (st_55.1 = 0) (-1) st_55.2.1), vI (u69 25), .ref (kad G 145), .ref (kad G 146), .ref (kad G 147), vI (u69 29)]) := (hf73 133 (by decide)).trans hmq
                      have h_75 : w73 134 = lA G 93 g := (hf73 134 (by decide)).trans hnq
                      have h_76 : w73 146 = iA G 200 cf9 := (hf73 146 (by decide)).trans h146q
                      exact ihw (k + 1) (ct + 1) f73 w73 (by omega) (by omega) (fun q => by first | exact (if_neg (fun z9 => by have z8 := z9.2; rw [hhk] at z8; exact absurd z8 (by decide))).trans (hfi q) | (exfalso; omega)) (by show _ = (if hh k = true then ctF hh k + 1 else ctF hh k); rw [hhk, hct]; rfl) (by omega) h_74 h_75 h_76 h7_73 (fun j hj => (hf73 j (by omega)).trans (hfrw j (by omega)))
                    · refine k_iload hC dX12_query_155 0 rfl ?_
                      have h_77 : w73 133 = .inr (12, [.ref (kad G 134), .ref (kad G 135), .ref (kad G 136), .ref (kad G 137), vI (u69 4), vI (u69 5), vI (u69 6), .ref (kad G 138), .ref (kad G 139), .ref (kad G 140), .ref (kad G 141), .ref (kad G 142), vL (u69 12), vL (u69 13), .ref (kad G 143), vI (u69 15), .ref (kad G 144), vI 0, vI (u69 18), vI (u69 19), vI (u69 20), vI (u69 21), vI (u69 22), vI (u69 23), vI (selI (st_55.1 = 0) (-1) st_55.2.1), vI (u69 25), .ref (kad G 145), .ref (kad G 146), .ref (kad G 147), vI (u69 29)]) := (hf73 133 (by decide)).trans hmq
                      have h_78 : w73 146 = iA G 200 cf9 := (hf73 146 (by decide)).trans h146q
                      subst hQ
                      exact k_iret hC hr ⟨by decide, by decide⟩ (⟨_, 0, rfl, rfl, Or.inl ⟨by omega, rfl, (show (((k : Int) : Int) = _) from (by rw [hqv, selI_1 (hfz.resolve_right (fun q1 => by omega)).2]; have e1 : fiF hh (k + 1) = (k : Int) := if_pos ⟨hfi (by omega), by exact hhk⟩; have e2 := fiF_st (h := hh) (k := k + 1) (by rw [e1]; omega) ((g 2).toNat - (k + 1)); rw [show (g 2).toNat = k + 1 + ((g 2).toNat - (k + 1)) by omega, e2, e1]))⟩, Or.inr ⟨rfl, ⟨(kup (kup u69 17 0) 24 (selI (st_55.1 = 0) (-1) st_55.2.1)), h_77, (((uQ.tr (uQ.tr (uQ.tr (uQ.tr uQ.rf (uS.q hs47)) (uS.q hs49)) hs54) (uS.q hs69)) 5 (by decide)).trans (hus 5 (by decide))), (((uQ.tr (uQ.tr (uQ.tr (uQ.tr uQ.rf (uS.q hs47)) (uS.q hs49)) hs54) (uS.q hs69)) 15 (by decide)).trans (hus 15 (by decide))), rfl, (by rw [← eV, ← hqs]; rfl), (((uQ.tr (uQ.tr (uQ.tr (uQ.tr uQ.rf (uS.q hs47)) (uS.q hs49)) hs54) (uS.q hs69)) 4 (by decide)).trans (hus 4 (by decide))), (((uQ.tr (uQ.tr (uQ.tr (uQ.tr uQ.rf (uS.q hs47)) (uS.q hs49)) hs54) (uS.q hs69)) 6 (by decide)).trans (hus 6 (by decide)))⟩, ⟨_, h_78⟩, ⟨_, h7_73⟩, fun j hj => (hf73 j (by omega)).trans (hfrw j (by omega))⟩⟩) dX12_query_157
                  · have hhk : hh k = false := bI_0 (by omega)
                    refine k_goto hC 161 dX12_query_148 rfl ?_
                    refine k_iinc hC (y := (k : Int) + 1) [(4, vI ((k : Int) + 1)), (3, vI ct), (2, vI z_8), (0, .ref (kad G 133)), (1, vI (n : Int))] (j := 0) dX12_query_161 rfl (by omega) (by decide) rfl ?_
                    refine k_goto hC 126 dX12_query_164 rfl ?_
                    refine k_lvs (ls := [0, 1, 2, 3, 4]) [(4, vI ((k + 1 : Nat) : Int)), (3, vI ct), (2, vI z_8), (0, .ref (kad G 133)), (1, vI (n : Int))] (by simp only [lv_pick]; rfl) ?_
                    have h_79 : w73 133 = .inr (12, [.ref (kad G 134), .ref (kad G 135), .ref (kad G 136), .ref (kad G 137), vI (u69 4), vI (u69 5), vI (u69 6), .ref (kad G 138), .ref (kad G 139), .ref (kad G 140), .ref (kad G 141), .ref (kad G 142), vL (u69 12), vL (u69 13), .ref (kad G 143), vI (u69 15), .ref (kad G 144), vI 0, vI (u69 18), vI (u69 19), vI (u69 20), vI (u69 21), vI (u69 22), vI (u69 23), vI (selI (st_55.1 = 0) (-1) st_55.2.1), vI (u69 25), .ref (kad G 145), .ref (kad G 146), .ref (kad G 147), vI (u69 29)]) := (hf73 133 (by decide)).trans hmq
                    have h_80 : w73 134 = lA G 93 g := (hf73 134 (by decide)).trans hnq
                    have h_81 : w73 146 = iA G 200 cf9 := (hf73 146 (by decide)).trans h146q
                    exact ihw (k + 1) ct f73 w73 (by omega) (by omega) (fun q => by first | exact (if_neg (fun z9 => by have z8 := z9.2; rw [hhk] at z8; exact absurd z8 (by decide))).trans (hfi q) | (exfalso; omega)) (by show _ = (if hh k = true then ctF hh k + 1 else ctF hh k); rw [hhk, hct]; rfl) (by omega) h_79 h_80 h_81 h7_73 (fun j hj => (hf73 j (by omega)).trans (hfrw j (by omega)))
            refine k_lvs (ls := [0, 1, 2, 3, 4]) [(4, vI ((0 : Nat) : Int)), (3, vI 0), (2, vI z_8), (0, .ref (kad G 133)), (1, vI (n : Int))] (by simp only [lv_pick]; rfl) ?_
            have h_82 : w71 134 = lA G 93 g := (hf71 134 (by decide)).trans ((hf69 134 (by decide)).trans ((hf54 134 (by decide)).trans ((hf49 134 (by decide)).trans ((hf47 134 (by decide)).trans ((hf4 134 (by decide)).trans ((hf3 134 (by decide)).trans ((hf1 134 (by decide)).trans hn)))))))
            have h_83 : w71 146 = iA G 200 cf9 := (hf71 146 (by decide)).trans h146z
            have h_84 : w71 147 = lA G 200 f0 := (hf71 147 (by decide)).trans ((hf69 147 (by decide)).trans ((hf54 147 (by decide)).trans ((hf49 147 (by decide)).trans ((hf47 147 (by decide)).trans ((hf4 147 (by decide)).trans ((hf3 147 (by decide)).trans ((hf1 147 (by decide)).trans h147)))))))
            exact loopw ((g 2).toNat + 1) 0 0 f0 w71 (by omega) (by omega) (fun _ => rfl) rfl (by omega) hu71 h_82 h_83 h_84 (fun j hj => (hf71 j (by omega)).trans ((hf69 j (by omega)).trans ((hf54 j (by omega)).trans ((hf49 j (by omega)).trans ((hf47 j (by omega)).trans ((hf4 j (by omega)).trans ((hf3 j (by omega)).trans (hf1 j (by omega)))))))))
      · refine k_iconst hC dX12_query_64 ?_
        refine k_goto hC 69 dX12_query_65 rfl ?_
        refine k_iconst hC dX12_query_69 ?_
        refine k_muvV hC (c_X12_check1 l hls G hN w4 fl u4 bt n st0 1 (by omega) hn7 hb hu4 h_7 hKs) yy_X12_check wm_X12_413 (kl hN (by decide)) hu4 rfl rfl rfl rfl (Nat.le_of_ble_eq_true rfl) (by decide) (by decide) ⟨by decide, by decide⟩ dX12_query_70 (fun w85 hp85 => ?_)
        obtain ⟨hT85, hf85⟩ := hp85
        obtain ⟨u85, hu85, hKr85, hs85⟩ := hT85
        have h18r85 := hKr85.1
        have h22r85 := hKr85.2.1
        have hrgr85 := hKr85.2.2.1
        have hcbr85 := hKr85.cb
        have hzzr85 : st0.1 = 0 := by omega
        have hq0r85 := hKr85.2.2.2.1 hzzr85
        have henr85 := enM_b (bt := bt) hq0r85.2.2.2
        have hQ_85 : qcW G w85 u85 st0 ([]) := hqc0.go (hs85 29 (by omega)) (hf85 146 (by decide)) (fun q => q)
        have h25_85 : u85 25 = 0 := (hs85 25 (by omega)).trans hu25
        refine k_aload_n hC dX12_query_73 rfl 1 rfl ?_
        have h_87 : w85 144 = iA G 700 bt := (hf85 144 (by decide)).trans h_7
        refine k_muvV hC (c_X12_advance l hls G hN w85 fl u85 bt n st0  hn7 hb hu85 h_87 hKr85) yy_X12_advance wm_X12_417 (kl hN (by decide)) hu85 rfl rfl rfl rfl (Nat.le_of_ble_eq_true rfl) (by decide) (by decide) ⟨by decide, by decide⟩ dX12_query_74 (fun w86 hp86 => ?_)
        obtain ⟨hT86, hf86⟩ := hp86
        obtain ⟨u86, hu86, hKr86, hs86⟩ := hT86
        obtain ⟨st_88, est_88⟩ : ∃ z : PS, z = adP bt n st0 := ⟨_, rfl⟩
        rw [← est_88] at hKr86
        have h18r86 := hKr86.1
        have h22r86 := hKr86.2.1
        have hrgr86 := hKr86.2.2.1
        have hcbr86 := hKr86.cb
        have hzir86 : st_88.1 = 0 := by rw [est_88]; exact ad_c.mpr (by omega)
        have hzzr86 : st_88.1 = 0 := by omega
        have hq0r86 := hKr86.2.2.2.1 hzzr86
        have henr86 := enM_b (bt := bt) hq0r86.2.2.2
        have hQ_86 : qcW G w86 u86 st_88 ([]) := hQ_85.go (hs86 29 (by omega)) (hf86 146 (by decide)) (fun q => ad_c.mp (by rw [← est_88]; exact q))
        have h25_86 : u86 25 = 0 := (hs86 25 (by omega)).trans h25_85
        have hy0 : st_88 = qy0 bt n := by unfold qy0; rw [← est0, selP_1 (Or.inl (hz_46.resolve_right (fun q1 => by omega)).2)]; exact est_88
        refine k_aload_n hC dX12_query_77 rfl 1 rfl ?_
        have h_89 : w86 145 = rA G 6 7 (fun j => some (kadK G (nmI j))) := (hf86 145 (by decide)).trans ((hf85 145 (by decide)).trans ((hf4 145 (by decide)).trans ((hf3 145 (by decide)).trans ((hf1 145 (by decide)).trans h145))))
        have h_90 : w86 144 = iA G 700 bt := (hf86 144 (by decide)).trans h_87
        refine k_muvV hC (c_X12_compileTest_6 l hls G hN w86 fl u86 bt n st_88 ([]) V hn2 hQ_86 (fun _ => Nat.zero_le _) h_89 h25_86 hn7 hb hu86 h_90 hKr86) yy_X12_compileTest wm_X12_498 (kl hN (by decide)) hu86 rfl rfl rfl rfl (Nat.le_of_ble_eq_true rfl) (by decide) (by decide) ⟨by decide, by decide⟩ dX12_query_78 (fun w91 hp91 => ?_)
        obtain ⟨hT91, hf91⟩ := hp91
        obtain ⟨u91, hu91, hKr91, hQ_91, h25_91, hs91⟩ := hT91
        obtain ⟨st_92, est_92⟩ : ∃ z : PS, z = (tstM bt n (qF V bt n 6) st_88).1 := ⟨_, rfl⟩
        rw [← est_92] at hKr91 hQ_91
        have h18r91 := hKr91.1
        have h22r91 := hKr91.2.1
        have hrgr91 := hKr91.2.2.1
        have hcbr91 := hKr91.cb
        refine k_aload_n hC dX12_query_81 rfl 1 rfl ?_
        refine k_aload_n hC dX12_query_82 rfl 1 rfl ?_
        refine k_get hC fd_X12_386 (kl hN (by decide)) hu91 rfl dX12_query_83 ?_
        refine k_if_ne hC 96 dX12_query_86 rfl (by omega) (fun c_86 => ?_) (fun c_86 => ?_)
        · have hzzr91 : st_92.1 ≠ 0 := by omega
          refine k_iconst hC dX12_query_96 ?_
          refine k_goto hC 101 dX12_query_97 rfl ?_
          refine k_iconst hC dX12_query_101 ?_
          have h_94 : w91 144 = iA G 700 bt := (hf91 144 (by decide)).trans h_90
          refine k_muvV hC (c_X12_check1 l hls G hN w91 fl u91 bt n st_92 1 (by omega) hn7 hb hu91 h_94 hKr91) yy_X12_check wm_X12_413 (kl hN (by decide)) hu91 rfl rfl rfl rfl (Nat.le_of_ble_eq_true rfl) (by decide) (by decide) ⟨by decide, by decide⟩ dX12_query_102 (fun w93 hp93 => ?_)
          obtain ⟨hT93, hf93⟩ := hp93
          obtain ⟨u93, hu93, hKr93, hs93⟩ := hT93
          have h18r93 := hKr93.1
          have h22r93 := hKr93.2.1
          have hrgr93 := hKr93.2.2.1
          have hcbr93 := hKr93.cb
          have hzzr93 : st_92.1 ≠ 0 := by omega
          have hQ_93 : qcW G w93 u93 st_92 ([] ++ (tstM bt n (qF V bt n 6) st_88).2.1) := hQ_91.go (hs93 29 (by omega)) (hf93 146 (by decide)) (fun q => q)
          have h25_93 : u93 25 = 0 := (hs93 25 (by omega)).trans h25_91
          refine k_aload_n hC dX12_query_105 rfl 1 rfl ?_
          have hqs : st_92 = qyS V bt n := by unfold qyS neP qyR; rw [← hy0, ← est_92]; exact (selP_0 (fun q => by have q1 := q.1; have q2 := q.2; omega)).symm
          obtain ⟨c9, cf9, h29, hc9, h146z, hcd9⟩ := hQ_93
          have h_96 : w93 144 = iA G 700 bt := (hf93 144 (by decide)).trans h_94
          refine k_mutV hC (c_X12_finish l hls G hN w93 fl u93 bt n st_92 hn7 hb hu93 h_96 hKr93) yy_X12_finish wm_X12_480 (kl hN (by decide)) hu93 rfl rfl rfl rfl (Nat.le_of_ble_eq_true rfl) (by decide) (by decide) ⟨by decide, by decide⟩ dX12_query_106 (fun w95 hp95 => ?_)
          obtain ⟨hu95, hf95⟩ := hp95
          refine k_if_eq hC 121 dX12_query_109 rfl (by omega) (fun c_109 => absurd c_109 (by omega)) (fun c_109 => ?_)
          refine k_ldcw hC (x := (-1000000000)) (v := (-1000000000)) dX12_query_112 (by decide) wk_X12_268 ?_
          refine k_aload_n hC dX12_query_115 rfl 1 rfl ?_
          refine k_get hC fd_X12_386 (kl hN (by decide)) hu95 rfl dX12_query_116 ?_
          refine k_topv (vI (u93 22)) rfl ?_
          refine k_isub hC dX12_query_119 ?_
          have h_97 : w95 146 = iA G 200 cf9 := (hf95 146 (by decide)).trans h146z
          have h_98 : w95 147 = lA G 200 f0 := (hf95 147 (by decide)).trans ((hf93 147 (by decide)).trans ((hf91 147 (by decide)).trans ((hf86 147 (by decide)).trans ((hf85 147 (by decide)).trans ((hf4 147 (by decide)).trans ((hf3 147 (by decide)).trans ((hf1 147 (by decide)).trans h147)))))))
          subst hQ
          exact k_iret hC hr ⟨by decide, by decide⟩ (⟨_, 0, rfl, rfl, Or.inl ⟨by omega, rfl, (show (((-1000000000) - (u93 22) : Int) = _) from (by unfold qyV; rw [selI_0 (by rw [← eV, ← hqs]; omega), ← eV, ← hqs]; omega))⟩, Or.inr ⟨rfl, ⟨(kup (kup u93 17 0) 24 (selI (st_92.1 = 0) (-1) st_92.2.1)), hu95, (((uQ.tr (uQ.tr (uQ.tr (uQ.tr uQ.rf (uS.q hs85)) (uS.q hs86)) hs91) (uS.q hs93)) 5 (by decide)).trans (hus 5 (by decide))), (((uQ.tr (uQ.tr (uQ.tr (uQ.tr uQ.rf (uS.q hs85)) (uS.q hs86)) hs91) (uS.q hs93)) 15 (by decide)).trans (hus 15 (by decide))), rfl, (by rw [← eV, ← hqs]; rfl), (((uQ.tr (uQ.tr (uQ.tr (uQ.tr uQ.rf (uS.q hs85)) (uS.q hs86)) hs91) (uS.q hs93)) 4 (by decide)).trans (hus 4 (by decide))), (((uQ.tr (uQ.tr (uQ.tr (uQ.tr uQ.rf (uS.q hs85)) (uS.q hs86)) hs91) (uS.q hs93)) 6 (by decide)).trans (hus 6 (by decide)))⟩, ⟨_, h_97⟩, ⟨_, h_98⟩, fun j hj => (hf95 j (by omega)).trans ((hf93 j (by omega)).trans ((hf91 j (by omega)).trans ((hf86 j (by omega)).trans ((hf85 j (by omega)).trans ((hf4 j (by omega)).trans ((hf3 j (by omega)).trans (hf1 j (by omega))))))))⟩⟩) dX12_query_120
        · have hzzr91 : st_92.1 = 0 := by omega
          have hq0r91 := hKr91.2.2.2.1 hzzr91
          have henr91 := enM_b (bt := bt) hq0r91.2.2.2
          refine k_aload_n hC dX12_query_89 rfl 1 rfl ?_
          refine k_get hC fd_X12_377 (kl hN (by decide)) hu91 rfl dX12_query_90 ?_
          refine k_if_ne hC 100 dX12_query_93 rfl (by omega) (fun c_93 => ?_) (fun c_93 => ?_)
          · refine k_iconst hC dX12_query_100 ?_
            refine k_iconst hC dX12_query_101 ?_
            have h_100 : w91 144 = iA G 700 bt := (hf91 144 (by decide)).trans h_90
            refine k_muvV hC (c_X12_check0 l hls G hN w91 fl u91 bt n st_92 1 (by omega) hn7 hb hu91 h_100 hKr91) yy_X12_check wm_X12_413 (kl hN (by decide)) hu91 rfl rfl rfl rfl (Nat.le_of_ble_eq_true rfl) (by decide) (by decide) ⟨by decide, by decide⟩ dX12_query_102 (fun w99 hp99 => ?_)
            obtain ⟨hT99, hf99⟩ := hp99
            obtain ⟨u99, hu99, hKr99, hs99⟩ := hT99
            obtain ⟨st_101, est_101⟩ : ∃ z : PS, z = flP 1 st_92 := ⟨_, rfl⟩
            rw [← est_101] at hKr99
            have h18r99 := hKr99.1
            have h22r99 := hKr99.2.1
            have hrgr99 := hKr99.2.2.1
            have hcbr99 := hKr99.cb
            have hzzr99 : st_101.1 ≠ 0 := by rw [est_101]; exact fl_c (by omega)
            have hQ_99 : qcW G w99 u99 st_101 ([] ++ (tstM bt n (qF V bt n 6) st_88).2.1) := hQ_91.go (hs99 29 (by omega)) (hf99 146 (by decide)) (fun q => absurd q hzzr99)
            have h25_99 : u99 25 = 0 := (hs99 25 (by omega)).trans h25_91
            refine k_aload_n hC dX12_query_105 rfl 1 rfl ?_
            have hqs : st_101 = qyS V bt n := by unfold qyS neP qyR; rw [← hy0, ← est_92, selP_1 ⟨by omega, by omega⟩]; exact est_101
            obtain ⟨c9, cf9, h29, hc9, h146z, hcd9⟩ := hQ_99
            have h_103 : w99 144 = iA G 700 bt := (hf99 144 (by decide)).trans h_100
            refine k_mutV hC (c_X12_finish l hls G hN w99 fl u99 bt n st_101 hn7 hb hu99 h_103 hKr99) yy_X12_finish wm_X12_480 (kl hN (by decide)) hu99 rfl rfl rfl rfl (Nat.le_of_ble_eq_true rfl) (by decide) (by decide) ⟨by decide, by decide⟩ dX12_query_106 (fun w102 hp102 => ?_)
            obtain ⟨hu102, hf102⟩ := hp102
            refine k_if_eq hC 121 dX12_query_109 rfl (by omega) (fun c_109 => absurd c_109 (by omega)) (fun c_109 => ?_)
            refine k_ldcw hC (x := (-1000000000)) (v := (-1000000000)) dX12_query_112 (by decide) wk_X12_268 ?_
            refine k_aload_n hC dX12_query_115 rfl 1 rfl ?_
            refine k_get hC fd_X12_386 (kl hN (by decide)) hu102 rfl dX12_query_116 ?_
            refine k_topv (vI (u99 22)) rfl ?_
            refine k_isub hC dX12_query_119 ?_
            have h_104 : w102 146 = iA G 200 cf9 := (hf102 146 (by decide)).trans h146z
            have h_105 : w102 147 = lA G 200 f0 := (hf102 147 (by decide)).trans ((hf99 147 (by decide)).trans ((hf91 147 (by decide)).trans ((hf86 147 (by decide)).trans ((hf85 147 (by decide)).trans ((hf4 147 (by decide)).trans ((hf3 147 (by decide)).trans ((hf1 147 (by decide)).trans h147)))))))
            subst hQ
            exact k_iret hC hr ⟨by decide, by decide⟩ (⟨_, 0, rfl, rfl, Or.inl ⟨by omega, rfl, (show (((-1000000000) - (u99 22) : Int) = _) from (by unfold qyV; rw [selI_0 (by rw [← eV, ← hqs]; omega), ← eV, ← hqs]; omega))⟩, Or.inr ⟨rfl, ⟨(kup (kup u99 17 0) 24 (selI (st_101.1 = 0) (-1) st_101.2.1)), hu102, (((uQ.tr (uQ.tr (uQ.tr (uQ.tr uQ.rf (uS.q hs85)) (uS.q hs86)) hs91) (uS.q hs99)) 5 (by decide)).trans (hus 5 (by decide))), (((uQ.tr (uQ.tr (uQ.tr (uQ.tr uQ.rf (uS.q hs85)) (uS.q hs86)) hs91) (uS.q hs99)) 15 (by decide)).trans (hus 15 (by decide))), rfl, (by rw [← eV, ← hqs]; rfl), (((uQ.tr (uQ.tr (uQ.tr (uQ.tr uQ.rf (uS.q hs85)) (uS.q hs86)) hs91) (uS.q hs99)) 4 (by decide)).trans (hus 4 (by decide))), (((uQ.tr (uQ.tr (uQ.tr (uQ.tr uQ.rf (uS.q hs85)) (uS.q hs86)) hs91) (uS.q hs99)) 6 (by decide)).trans (hus 6 (by decide)))⟩, ⟨_, h_104⟩, ⟨_, h_105⟩, fun j hj => (hf102 j (by omega)).trans ((hf99 j (by omega)).trans ((hf91 j (by omega)).trans ((hf86 j (by omega)).trans ((hf85 j (by omega)).trans ((hf4 j (by omega)).trans ((hf3 j (by omega)).trans (hf1 j (by omega))))))))⟩⟩) dX12_query_120
          · refine k_iconst hC dX12_query_96 ?_
            refine k_goto hC 101 dX12_query_97 rfl ?_
            refine k_iconst hC dX12_query_101 ?_
            have h_107 : w91 144 = iA G 700 bt := (hf91 144 (by decide)).trans h_90
            refine k_muvV hC (c_X12_check1 l hls G hN w91 fl u91 bt n st_92 1 (by omega) hn7 hb hu91 h_107 hKr91) yy_X12_check wm_X12_413 (kl hN (by decide)) hu91 rfl rfl rfl rfl (Nat.le_of_ble_eq_true rfl) (by decide) (by decide) ⟨by decide, by decide⟩ dX12_query_102 (fun w106 hp106 => ?_)
            obtain ⟨hT106, hf106⟩ := hp106
            obtain ⟨u106, hu106, hKr106, hs106⟩ := hT106
            have h18r106 := hKr106.1
            have h22r106 := hKr106.2.1
            have hrgr106 := hKr106.2.2.1
            have hcbr106 := hKr106.cb
            have hzzr106 : st_92.1 = 0 := by omega
            have hq0r106 := hKr106.2.2.2.1 hzzr106
            have henr106 := enM_b (bt := bt) hq0r106.2.2.2
            have hQ_106 : qcW G w106 u106 st_92 ([] ++ (tstM bt n (qF V bt n 6) st_88).2.1) := hQ_91.go (hs106 29 (by omega)) (hf106 146 (by decide)) (fun q => q)
            have h25_106 : u106 25 = 0 := (hs106 25 (by omega)).trans h25_91
            refine k_aload_n hC dX12_query_105 rfl 1 rfl ?_
            have hqs : st_92 = qyS V bt n := by unfold qyS neP qyR; rw [← hy0, ← est_92]; exact (selP_0 (fun q => by have q1 := q.1; have q2 := q.2; omega)).symm
            obtain ⟨c9, cf9, h29, hc9, h146z, hcd9⟩ := hQ_106
            have h_109 : w106 144 = iA G 700 bt := (hf106 144 (by decide)).trans h_107
            refine k_mutV hC (c_X12_finish l hls G hN w106 fl u106 bt n st_92 hn7 hb hu106 h_109 hKr106) yy_X12_finish wm_X12_480 (kl hN (by decide)) hu106 rfl rfl rfl rfl (Nat.le_of_ble_eq_true rfl) (by decide) (by decide) ⟨by decide, by decide⟩ dX12_query_106 (fun w108 hp108 => ?_)
            obtain ⟨hu108, hf108⟩ := hp108
            refine k_if_eq hC 121 dX12_query_109 rfl (by omega) (fun c_109 => ?_) (fun c_109 => absurd c_109 (by omega))
            refine k_iconst hC dX12_query_121 ?_
            refine k_istore_n hC [(3, vI 0), (2, vI z_8), (0, .ref (kad G 133)), (1, vI (n : Int))] dX12_query_122 rfl (by decide) rfl ?_
            refine k_iconst hC dX12_query_123 ?_
            refine k_istore hC [(4, vI 0), (3, vI 0), (2, vI z_8), (0, .ref (kad G 133)), (1, vI (n : Int))] dX12_query_124 (by decide) rfl ?_
            have hz9 : st_92.1 = 0 := by omega
            have hle9 := (hKr106 : mkR _ bt n st_92).le
            obtain ⟨hh, ehh⟩ : ∃ q : Nat → Bool, q = (tstM bt n (qF V bt n 6) st_88).2.2 := ⟨_, rfl⟩
            have hqR : qyR V bt n = tstM bt n (qF V bt n 6) st_88 := by unfold qyR; rw [hy0]
            have hqv : qyV (pV g) bt n (g 2).toNat = selI (isW bt n 30 st0) (fiF hh (g 2).toNat) (ctF hh (g 2).toNat) := by unfold qyV; rw [← eV, selI_1 (by rw [← hqs]; exact hz9), hqR, ← ehh, est0]
            have hokr := okr_q (V := V) (bt := bt) (n := n) (y := st_88) hKr86.le (by rw [← est_92]; omega)
            rw [← ehh, eV] at hokr
            have hfz := hz_8
            have hcdz := hcd9 (by omega)
            have hcdz : cdR cf9 c9 (tstM bt n (qF (pV g) bt n 6) st_88).2.1 := by rw [← eV]; exact hcdz
            have h29z : (kup (kup u106 17 0) 24 (selI (st_92.1 = 0) (-1) st_92.2.1)) 29 = (c9 : Int) := h29
            have loopw : ∀ (nw : Nat) (k : Nat) (ct : Int) (f : Nat → Int) (wvw : Nat → va_E), ((g 2).toNat < nw + k) → ((k : Int) ≤ g 2) → (z_8 = 1 → fiF hh k = -1) → (ct = ctF hh k) → (0 ≤ ct ∧ ct ≤ k) → (wvw 133 = .inr (12, [.ref (kad G 134), .ref (kad G 135), .ref (kad G 136), .ref (kad G 137), vI (u106 4), vI (u106 5), vI (u106 6), .ref (kad G 138), .ref (kad G 139), .ref (kad G 140), .ref (kad G 141), .ref (kad G 142), vL (u106 12), vL (u106 13), .ref (kad G 143), vI (u106 15), .ref (kad G 144), vI 0, vI (u106 18), vI (u106 19), vI (u106 20), vI (u106 21), vI (u106 22), vI (u106 23), vI (selI (st_92.1 = 0) (-1) st_92.2.1), vI (u106 25), .ref (kad G 145), .ref (kad G 146), .ref (kad G 147), vI (u106 29)])) → (wvw 134 = lA G 93 g) → (wvw 146 = iA G 200 cf9) → (wvw 147 = lA G 200 f) → ((∀ j, (j ≠ 133 ∧ j ≠ 146 ∧ j ≠ 147) → wvw j = w j)) → KW p l e R s m args below meth c 5 G Q wvw fl 0 0 126 [(4, vI (k : Int)), (3, vI ct), (2, vI z_8), (0, .ref (kad G 133)), (1, vI (n : Int))] [] := by
              intro nw
              induction nw with
              | zero =>
                intro k ct f wvw hn_w hk hfi hct hcr hmq hnq h146q h147q hfrw
                exact absurd hn_w (by omega)
              | succ nw ihw =>
                intro k ct f wvw hn_w hk hfi hct hcr hmq hnq h146q h147q hfrw
                refine k_iload hC dX12_query_126 0 rfl ?_
                refine k_i2l hC dX12_query_128 (by omega) ?_
                refine k_aload_n hC dX12_query_129 rfl 3 rfl ?_
                refine k_get hC fd_X12_9 (kl hN (by decide)) hmq rfl dX12_query_130 ?_
                refine k_iconst hC dX12_query_133 ?_
                refine k_lald hC (kl hN (by decide)) hnq (by omega) (by decide) dX12_query_134 ?_
                refine k_topv (vL (g 2)) rfl ?_
                refine k_lcmp_ge hC 167 dX12_query_135 dX12_query_136 rfl (by omega) (by omega) (fun c_135 => ?_) (fun c_135 => ?_)
                · refine k_iload_n hC dX12_query_167 rfl 2 rfl ?_
                  refine k_if_eq hC 175 dX12_query_168 rfl (by omega) (fun c_168 => ?_) (fun c_168 => ?_)
                  · refine k_iload_n hC dX12_query_175 rfl 1 rfl ?_
                    subst hQ
                    exact k_iret hC hr ⟨by decide, by decide⟩ (⟨_, 0, rfl, rfl, Or.inl ⟨by omega, rfl, (show ((ct : Int) = _) from (by rw [hqv, selI_0 (hfz.resolve_left (fun q1 => by omega)).2, show (g 2).toNat = k by omega]; exact hct))⟩, Or.inr ⟨rfl, ⟨(kup (kup u106 17 0) 24 (selI (st_92.1 = 0) (-1) st_92.2.1)), hmq, (((uQ.tr (uQ.tr (uQ.tr (uQ.tr uQ.rf (uS.q hs85)) (uS.q hs86)) hs91) (uS.q hs106)) 5 (by decide)).trans (hus 5 (by decide))), (((uQ.tr (uQ.tr (uQ.tr (uQ.tr uQ.rf (uS.q hs85)) (uS.q hs86)) hs91) (uS.q hs106)) 15 (by decide)).trans (hus 15 (by decide))), rfl, (by rw [← eV, ← hqs]; rfl), (((uQ.tr (uQ.tr (uQ.tr (uQ.tr uQ.rf (uS.q hs85)) (uS.q hs86)) hs91) (uS.q hs106)) 4 (by decide)).trans (hus 4 (by decide))), (((uQ.tr (uQ.tr (uQ.tr (uQ.tr uQ.rf (uS.q hs85)) (uS.q hs86)) hs91) (uS.q hs106)) 6 (by decide)).trans (hus 6 (by decide)))⟩, ⟨_, h146q⟩, ⟨_, h147q⟩, fun j hj => hfrw j (by omega)⟩⟩) dX12_query_176
                  · refine k_iconst hC dX12_query_171 ?_
                    refine k_goto hC 176 dX12_query_172 rfl ?_
                    subst hQ
                    exact k_iret hC hr ⟨by decide, by decide⟩ (⟨_, 0, rfl, rfl, Or.inl ⟨by omega, rfl, (show ((-1 : Int) = _) from (by rw [hqv, selI_1 (hfz.resolve_right (fun q1 => by omega)).2, show (g 2).toNat = k by omega]; exact (hfi (by omega)).symm))⟩, Or.inr ⟨rfl, ⟨(kup (kup u106 17 0) 24 (selI (st_92.1 = 0) (-1) st_92.2.1)), hmq, (((uQ.tr (uQ.tr (uQ.tr (uQ.tr uQ.rf (uS.q hs85)) (uS.q hs86)) hs91) (uS.q hs106)) 5 (by decide)).trans (hus 5 (by decide))), (((uQ.tr (uQ.tr (uQ.tr (uQ.tr uQ.rf (uS.q hs85)) (uS.q hs86)) hs91) (uS.q hs106)) 15 (by decide)).trans (hus 15 (by decide))), rfl, (by rw [← eV, ← hqs]; rfl), (((uQ.tr (uQ.tr (uQ.tr (uQ.tr uQ.rf (uS.q hs85)) (uS.q hs86)) hs91) (uS.q hs106)) 4 (by decide)).trans (hus 4 (by decide))), (((uQ.tr (uQ.tr (uQ.tr (uQ.tr uQ.rf (uS.q hs85)) (uS.q hs86)) hs91) (uS.q hs106)) 6 (by decide)).trans (hus 6 (by decide)))⟩, ⟨_, h146q⟩, ⟨_, h147q⟩, fun j hj => hfrw j (by omega)⟩⟩) dX12_query_176
                · refine k_aload_n hC dX12_query_139 rfl 3 rfl ?_
                  refine k_iload hC dX12_query_140 0 rfl ?_
                  refine k_mutV hC (c_X12_holdsFor l hls G hN wvw fl (kup (kup u106 17 0) 24 (selI (st_92.1 = 0) (-1) st_92.2.1)) g cf9 f k c9 (tstM bt n (qF (pV g) bt n 6) st_88).2.1 (bI (hh k)) hI (by omega) hc9 h29z hcdz (bI_c _) (hokr k) hmq hnq h146q h147q) yy_X12_holdsFor wm_X12_524 (kl hN (by decide)) hmq rfl rfl rfl rfl (Nat.le_of_ble_eq_true rfl) (by decide) (by decide) ⟨by decide, by decide⟩ dX12_query_142 (fun w110 hp110 => ?_)
                  obtain ⟨⟨f110, h7_110⟩, hf110⟩ := hp110
                  have hbc := bI_c (hh k)
                  refine k_if_ne hC 151 dX12_query_145 rfl (by omega) (fun c_145 => ?_) (fun c_145 => ?_)
                  · have hhk : hh k = true := bI_1 (by omega)
                    refine k_iload_n hC dX12_query_151 rfl 2 rfl ?_
                    refine k_if_eq hC 158 dX12_query_152 rfl (by omega) (fun c_152 => ?_) (fun c_152 => ?_)
                    · refine k_iinc hC (y := ct + 1) [(3, vI (ct + 1)), (4, vI (k : Int)), (2, vI z_8), (0, .ref (kad G 133)), (1, vI (n : Int))] (j := 1) dX12_query_158 rfl (by omega) (by decide) rfl ?_
                      refine k_iinc hC (y := (k : Int) + 1) [(4, vI ((k : Int) + 1)), (3, vI (ct + 1)), (2, vI z_8), (0, .ref (kad G 133)), (1, vI (n : Int))] (j := 1) dX12_query_161 rfl (by omega) (by decide) rfl ?_
                      refine k_goto hC 126 dX12_query_164 rfl ?_
                      refine k_lvs (ls := [0, 1, 2, 3, 4]) [(4, vI ((k + 1 : Nat) : Int)), (3, vI (ct + 1)), (2, vI z_8), (0, .ref (kad G 133)), (1, vI (n : Int))] (by simp only [lv_pick]; rfl) ?_
                      have h_111 : w110 133 = .inr (12, [.ref (kad G 134), .ref (kad G 135), .ref (kad G 136), .ref (kad G 137), vI (u106 4), vI (u106 5), vI (u106 6), .ref (kad G 138), .ref (kad G 139), .ref (kad G 140), .ref (kad G 141), .ref (kad G 142), vL (u106 12), vL (u106 13), .ref (kad G 143), vI (u106 15), .ref (kad G 144), vI 0, vI (u106 18), vI (u106 19), vI (u106 20), vI (u106 21), vI (u106 22), vI (u106 23), vI (selI (st_92.1 = 0) (-1) st_92.2.1), vI (u106 25), .ref (kad G 145), .ref (kad G 146), .ref (kad G 147), vI (u106 29)]) := (hf110 133 (by decide)).trans hmq
                      have h_112 : w110 134 = lA G 93 g := (hf110 134 (by decide)).trans hnq
                      have h_113 : w110 146 = iA G 200 cf9 := (hf110 146 (by decide)).trans h146q
                      exact ihw (k + 1) (ct + 1) f110 w110 (by omega) (by omega) (fun q => by first | exact (if_neg (fun z9 => by have z8 := z9.2; rw [hhk] at z8; exact absurd z8 (by decide))).trans (hfi q) | (exfalso; omega)) (by show _ = (if hh k = true then ctF hh k + 1 else ctF hh k); rw [hhk, hct]; rfl) (by omega) h_111 h_112 h_113 h7_110 (fun j hj => (hf110 j (by omega)).trans (hfrw j (by omega)))
                    · refine k_iload hC dX12_query_155 0 rfl ?_
                      have h_114 : w110 133 = .inr (12, [.ref (kad G 134), .ref (kad G 135), .ref (kad G 136), .ref (kad G 137), vI (u106 4), vI (u106 5), vI (u106 6), .ref (kad G 138), .ref (kad G 139), .ref (kad G 140), .ref (kad G 141), .ref (kad G 142), vL (u106 12), vL (u106 13), .ref (kad G 143), vI (u106 15), .ref (kad G 144), vI 0, vI (u106 18), vI (u106 19), vI (u106 20), vI (u106 21), vI (u106 22), vI (u106 23), vI (selI (st_92.1 = 0) (-1) st_92.2.1), vI (u106 25), .ref (kad G 145), .ref (kad G 146), .ref (kad G 147), vI (u106 29)]) := (hf110 133 (by decide)).trans hmq
                      have h_115 : w110 146 = iA G 200 cf9 := (hf110 146 (by decide)).trans h146q
                      subst hQ
                      exact k_iret hC hr ⟨by decide, by decide⟩ (⟨_, 0, rfl, rfl, Or.inl ⟨by omega, rfl, (show (((k : Int) : Int) = _) from (by rw [hqv, selI_1 (hfz.resolve_right (fun q1 => by omega)).2]; have e1 : fiF hh (k + 1) = (k : Int) := if_pos ⟨hfi (by omega), by exact hhk⟩; have e2 := fiF_st (h := hh) (k := k + 1) (by rw [e1]; omega) ((g 2).toNat - (k + 1)); rw [show (g 2).toNat = k + 1 + ((g 2).toNat - (k + 1)) by omega, e2, e1]))⟩, Or.inr ⟨rfl, ⟨(kup (kup u106 17 0) 24 (selI (st_92.1 = 0) (-1) st_92.2.1)), h_114, (((uQ.tr (uQ.tr (uQ.tr (uQ.tr uQ.rf (uS.q hs85)) (uS.q hs86)) hs91) (uS.q hs106)) 5 (by decide)).trans (hus 5 (by decide))), (((uQ.tr (uQ.tr (uQ.tr (uQ.tr uQ.rf (uS.q hs85)) (uS.q hs86)) hs91) (uS.q hs106)) 15 (by decide)).trans (hus 15 (by decide))), rfl, (by rw [← eV, ← hqs]; rfl), (((uQ.tr (uQ.tr (uQ.tr (uQ.tr uQ.rf (uS.q hs85)) (uS.q hs86)) hs91) (uS.q hs106)) 4 (by decide)).trans (hus 4 (by decide))), (((uQ.tr (uQ.tr (uQ.tr (uQ.tr uQ.rf (uS.q hs85)) (uS.q hs86)) hs91) (uS.q hs106)) 6 (by decide)).trans (hus 6 (by decide)))⟩, ⟨_, h_115⟩, ⟨_, h7_110⟩, fun j hj => (hf110 j (by omega)).trans (hfrw j (by omega))⟩⟩) dX12_query_157
                  · have hhk : hh k = false := bI_0 (by omega)
                    refine k_goto hC 161 dX12_query_148 rfl ?_
                    refine k_iinc hC (y := (k : Int) + 1) [(4, vI ((k : Int) + 1)), (3, vI ct), (2, vI z_8), (0, .ref (kad G 133)), (1, vI (n : Int))] (j := 0) dX12_query_161 rfl (by omega) (by decide) rfl ?_
                    refine k_goto hC 126 dX12_query_164 rfl ?_
                    refine k_lvs (ls := [0, 1, 2, 3, 4]) [(4, vI ((k + 1 : Nat) : Int)), (3, vI ct), (2, vI z_8), (0, .ref (kad G 133)), (1, vI (n : Int))] (by simp only [lv_pick]; rfl) ?_
                    have h_116 : w110 133 = .inr (12, [.ref (kad G 134), .ref (kad G 135), .ref (kad G 136), .ref (kad G 137), vI (u106 4), vI (u106 5), vI (u106 6), .ref (kad G 138), .ref (kad G 139), .ref (kad G 140), .ref (kad G 141), .ref (kad G 142), vL (u106 12), vL (u106 13), .ref (kad G 143), vI (u106 15), .ref (kad G 144), vI 0, vI (u106 18), vI (u106 19), vI (u106 20), vI (u106 21), vI (u106 22), vI (u106 23), vI (selI (st_92.1 = 0) (-1) st_92.2.1), vI (u106 25), .ref (kad G 145), .ref (kad G 146), .ref (kad G 147), vI (u106 29)]) := (hf110 133 (by decide)).trans hmq
                    have h_117 : w110 134 = lA G 93 g := (hf110 134 (by decide)).trans hnq
                    have h_118 : w110 146 = iA G 200 cf9 := (hf110 146 (by decide)).trans h146q
                    exact ihw (k + 1) ct f110 w110 (by omega) (by omega) (fun q => by first | exact (if_neg (fun z9 => by have z8 := z9.2; rw [hhk] at z8; exact absurd z8 (by decide))).trans (hfi q) | (exfalso; omega)) (by show _ = (if hh k = true then ctF hh k + 1 else ctF hh k); rw [hhk, hct]; rfl) (by omega) h_116 h_117 h_118 h7_110 (fun j hj => (hf110 j (by omega)).trans (hfrw j (by omega)))
            refine k_lvs (ls := [0, 1, 2, 3, 4]) [(4, vI ((0 : Nat) : Int)), (3, vI 0), (2, vI z_8), (0, .ref (kad G 133)), (1, vI (n : Int))] (by simp only [lv_pick]; rfl) ?_
            have h_119 : w108 134 = lA G 93 g := (hf108 134 (by decide)).trans ((hf106 134 (by decide)).trans ((hf91 134 (by decide)).trans ((hf86 134 (by decide)).trans ((hf85 134 (by decide)).trans ((hf4 134 (by decide)).trans ((hf3 134 (by decide)).trans ((hf1 134 (by decide)).trans hn)))))))
            have h_120 : w108 146 = iA G 200 cf9 := (hf108 146 (by decide)).trans h146z
            have h_121 : w108 147 = lA G 200 f0 := (hf108 147 (by decide)).trans ((hf106 147 (by decide)).trans ((hf91 147 (by decide)).trans ((hf86 147 (by decide)).trans ((hf85 147 (by decide)).trans ((hf4 147 (by decide)).trans ((hf3 147 (by decide)).trans ((hf1 147 (by decide)).trans h147)))))))
            exact loopw ((g 2).toNat + 1) 0 0 f0 w108 (by omega) (by omega) (fun _ => rfl) rfl (by omega) hu108 h_119 h_120 h_121 (fun j hj => (hf108 j (by omega)).trans ((hf106 j (by omega)).trans ((hf91 j (by omega)).trans ((hf86 j (by omega)).trans ((hf85 j (by omega)).trans ((hf4 j (by omega)).trans ((hf3 j (by omega)).trans (hf1 j (by omega)))))))))
  · refine k_aload_n hC dX12_query_25 rfl 0 rfl ?_
    refine k_iconst hC dX12_query_26 ?_
    refine k_mutV hC (c_X12_raise l hls G hN w1 fl (kup u 5 0) 1 hw1) yy_X12_raise wm_X12_247 (kl hN (by decide)) hw1 rfl rfl rfl rfl (Nat.le_of_ble_eq_true rfl) (by decide) (by decide) ⟨by decide, by decide⟩ dX12_query_27 (fun w122 hp122 => ?_)
    obtain ⟨hu122, hf122⟩ := hp122
    subst hQ
    exact k_iret hC hr ⟨by decide, by decide⟩ (⟨_, 1, rfl, rfl, Or.inr (Or.inr ⟨by omega, rfl⟩), Or.inl ⟨by decide, hu122, fun j hj => (hf122 j (by omega)).trans (hf1 j (by omega))⟩⟩) dX12_query_30

